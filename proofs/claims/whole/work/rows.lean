section
-- ===== PART A: goes FIRST, ahead of the names: the tables' words, and 'selects' of the private methods out of them =====
/-- a private method of a class that the tables say can be made, by its rows of tables_1 -/
def lw_okq (q : MethodName × Nat) : Prop := (q.1.cls ≠ "java/lang/invoke/MethodHandle" ∧ q.1.cls ≠ "java/lang/invoke/VarHandle") ∧ Cond.instantiable q.1.cls q.2 ∈ tables_1 ∧ Cond.privateMethod q.1 ∈ tables_1 ∧ Cond.instanceMethod q.1 ∈ tables_1
theorem lw_p0 : lw_okq (⟨"SaltBorder", "broken", "(I)I"⟩, 9) := ⟨⟨by decide +kernel, by decide +kernel⟩, List.mem_of_getElem? (i := 14) (by decide +kernel), List.mem_of_getElem? (i := 222) (by decide +kernel), List.mem_of_getElem? (i := 223) (by decide +kernel)⟩
theorem lw_p1 : lw_okq (⟨"SaltBorder$Table", "laySoup", "(LSaltBorder$TextReader;)Z"⟩, 13) := ⟨⟨by decide +kernel, by decide +kernel⟩, List.mem_of_getElem? (i := 92) (by decide +kernel), List.mem_of_getElem? (i := 242) (by decide +kernel), List.mem_of_getElem? (i := 243) (by decide +kernel)⟩
theorem lw_p2 : lw_okq (⟨"SaltBorder$Table", "layGuests", "(LSaltBorder$TextReader;)Z"⟩, 13) := ⟨⟨by decide +kernel, by decide +kernel⟩, List.mem_of_getElem? (i := 92) (by decide +kernel), List.mem_of_getElem? (i := 259) (by decide +kernel), List.mem_of_getElem? (i := 260) (by decide +kernel)⟩
theorem lw_p3 : lw_okq (⟨"SaltBorder$Table", "layGuest", "(LSaltBorder$TextReader;I)Z"⟩, 13) := ⟨⟨by decide +kernel, by decide +kernel⟩, List.mem_of_getElem? (i := 92) (by decide +kernel), List.mem_of_getElem? (i := 264) (by decide +kernel), List.mem_of_getElem? (i := 265) (by decide +kernel)⟩
theorem lw_p4 : lw_okq (⟨"SaltBorder$Table", "layBorder", "(LSaltBorder$TextReader;)Z"⟩, 13) := ⟨⟨by decide +kernel, by decide +kernel⟩, List.mem_of_getElem? (i := 92) (by decide +kernel), List.mem_of_getElem? (i := 273) (by decide +kernel), List.mem_of_getElem? (i := 274) (by decide +kernel)⟩
theorem lw_p5 : lw_okq (⟨"SaltBorder$Table", "layDishes", "(LSaltBorder$TextReader;)Z"⟩, 13) := ⟨⟨by decide +kernel, by decide +kernel⟩, List.mem_of_getElem? (i := 92) (by decide +kernel), List.mem_of_getElem? (i := 281) (by decide +kernel), List.mem_of_getElem? (i := 282) (by decide +kernel)⟩
theorem lw_p6 : lw_okq (⟨"SaltBorder$Table", "layDish", "(LSaltBorder$TextReader;I)Z"⟩, 13) := ⟨⟨by decide +kernel, by decide +kernel⟩, List.mem_of_getElem? (i := 92) (by decide +kernel), List.mem_of_getElem? (i := 286) (by decide +kernel), List.mem_of_getElem? (i := 287) (by decide +kernel)⟩
theorem lw_p7 : lw_okq (⟨"SaltBorder$Table", "stepsBehind", "(II)I"⟩, 13) := ⟨⟨by decide +kernel, by decide +kernel⟩, List.mem_of_getElem? (i := 92) (by decide +kernel), List.mem_of_getElem? (i := 322) (by decide +kernel), List.mem_of_getElem? (i := 323) (by decide +kernel)⟩
theorem lw_p8 : lw_okq (⟨"SaltBorder$Table", "neighbour", "(II)I"⟩, 13) := ⟨⟨by decide +kernel, by decide +kernel⟩, List.mem_of_getElem? (i := 92) (by decide +kernel), List.mem_of_getElem? (i := 367) (by decide +kernel), List.mem_of_getElem? (i := 368) (by decide +kernel)⟩
theorem lw_p9 : lw_okq (⟨"SaltBorder", "answerOfDinner", "(I)I"⟩, 9) := ⟨⟨by decide +kernel, by decide +kernel⟩, List.mem_of_getElem? (i := 14) (by decide +kernel), List.mem_of_getElem? (i := 395) (by decide +kernel), List.mem_of_getElem? (i := 396) (by decide +kernel)⟩
theorem lw_p10 : lw_okq (⟨"SaltBorder$Planner", "weigh", "(LSaltBorder$Table;I)V"⟩, 2) := ⟨⟨by decide +kernel, by decide +kernel⟩, List.mem_of_getElem? (i := 64) (by decide +kernel), List.mem_of_getElem? (i := 407) (by decide +kernel), List.mem_of_getElem? (i := 408) (by decide +kernel)⟩
theorem lw_p11 : lw_okq (⟨"SaltBorder$Planner", "spread", "(LSaltBorder$Table;)V"⟩, 2) := ⟨⟨by decide +kernel, by decide +kernel⟩, List.mem_of_getElem? (i := 64) (by decide +kernel), List.mem_of_getElem? (i := 418) (by decide +kernel), List.mem_of_getElem? (i := 419) (by decide +kernel)⟩
theorem lw_p12 : lw_okq (⟨"SaltBorder$Planner", "sweepOnce", "(LSaltBorder$Table;)Z"⟩, 2) := ⟨⟨by decide +kernel, by decide +kernel⟩, List.mem_of_getElem? (i := 64) (by decide +kernel), List.mem_of_getElem? (i := 422) (by decide +kernel), List.mem_of_getElem? (i := 423) (by decide +kernel)⟩
theorem lw_p13 : lw_okq (⟨"SaltBorder$Planner", "leftBy", "(LSaltBorder$Table;II)I"⟩, 2) := ⟨⟨by decide +kernel, by decide +kernel⟩, List.mem_of_getElem? (i := 64) (by decide +kernel), List.mem_of_getElem? (i := 426) (by decide +kernel), List.mem_of_getElem? (i := 427) (by decide +kernel)⟩
theorem lw_p14 : lw_okq (⟨"SaltBorder$Planner", "firstBest", "(LSaltBorder$Table;I)I"⟩, 2) := ⟨⟨by decide +kernel, by decide +kernel⟩, List.mem_of_getElem? (i := 64) (by decide +kernel), List.mem_of_getElem? (i := 445) (by decide +kernel), List.mem_of_getElem? (i := 446) (by decide +kernel)⟩
theorem lw_p15 : lw_okq (⟨"SaltBorder$Table", "bestMargin", "(III)I"⟩, 13) := ⟨⟨by decide +kernel, by decide +kernel⟩, List.mem_of_getElem? (i := 92) (by decide +kernel), List.mem_of_getElem? (i := 462) (by decide +kernel), List.mem_of_getElem? (i := 463) (by decide +kernel)⟩
def lw_privs_1 : List (MethodName × Nat) := [(⟨"SaltBorder", "broken", "(I)I"⟩, 9), (⟨"SaltBorder$Table", "laySoup", "(LSaltBorder$TextReader;)Z"⟩, 13), (⟨"SaltBorder$Table", "layGuests", "(LSaltBorder$TextReader;)Z"⟩, 13), (⟨"SaltBorder$Table", "layGuest", "(LSaltBorder$TextReader;I)Z"⟩, 13), (⟨"SaltBorder$Table", "layBorder", "(LSaltBorder$TextReader;)Z"⟩, 13), (⟨"SaltBorder$Table", "layDishes", "(LSaltBorder$TextReader;)Z"⟩, 13), (⟨"SaltBorder$Table", "layDish", "(LSaltBorder$TextReader;I)Z"⟩, 13), (⟨"SaltBorder$Table", "stepsBehind", "(II)I"⟩, 13), (⟨"SaltBorder$Table", "neighbour", "(II)I"⟩, 13), (⟨"SaltBorder", "answerOfDinner", "(I)I"⟩, 9), (⟨"SaltBorder$Planner", "weigh", "(LSaltBorder$Table;I)V"⟩, 2), (⟨"SaltBorder$Planner", "spread", "(LSaltBorder$Table;)V"⟩, 2), (⟨"SaltBorder$Planner", "sweepOnce", "(LSaltBorder$Table;)Z"⟩, 2), (⟨"SaltBorder$Planner", "leftBy", "(LSaltBorder$Table;II)I"⟩, 2), (⟨"SaltBorder$Planner", "firstBest", "(LSaltBorder$Table;I)I"⟩, 2), (⟨"SaltBorder$Table", "bestMargin", "(III)I"⟩, 13)]
theorem lw_r1 : ∀ q ∈ lw_privs_1, lw_okq q := List.forall_mem_cons.mpr ⟨lw_p0, List.forall_mem_cons.mpr ⟨lw_p1, List.forall_mem_cons.mpr ⟨lw_p2, List.forall_mem_cons.mpr ⟨lw_p3, List.forall_mem_cons.mpr ⟨lw_p4, List.forall_mem_cons.mpr ⟨lw_p5, List.forall_mem_cons.mpr ⟨lw_p6, List.forall_mem_cons.mpr ⟨lw_p7, List.forall_mem_cons.mpr ⟨lw_p8, List.forall_mem_cons.mpr ⟨lw_p9, List.forall_mem_cons.mpr ⟨lw_p10, List.forall_mem_cons.mpr ⟨lw_p11, List.forall_mem_cons.mpr ⟨lw_p12, List.forall_mem_cons.mpr ⟨lw_p13, List.forall_mem_cons.mpr ⟨lw_p14, List.forall_mem_cons.mpr ⟨lw_p15, fun _ h => absurd h List.not_mem_nil⟩⟩⟩⟩⟩⟩⟩⟩⟩⟩⟩⟩⟩⟩⟩⟩
theorem lw_p16 : lw_okq (⟨"SaltBorder$Table", "marginBehind", "(IIII)I"⟩, 13) := ⟨⟨by decide +kernel, by decide +kernel⟩, List.mem_of_getElem? (i := 92) (by decide +kernel), List.mem_of_getElem? (i := 467) (by decide +kernel), List.mem_of_getElem? (i := 468) (by decide +kernel)⟩
theorem lw_p17 : lw_okq (⟨"SaltBorder$Table", "wetBy", "(I)I"⟩, 13) := ⟨⟨by decide +kernel, by decide +kernel⟩, List.mem_of_getElem? (i := 92) (by decide +kernel), List.mem_of_getElem? (i := 485) (by decide +kernel), List.mem_of_getElem? (i := 486) (by decide +kernel)⟩
theorem lw_p18 : lw_okq (⟨"SaltBorder$Table", "wetByAll", "(I)I"⟩, 13) := ⟨⟨by decide +kernel, by decide +kernel⟩, List.mem_of_getElem? (i := 92) (by decide +kernel), List.mem_of_getElem? (i := 498) (by decide +kernel), List.mem_of_getElem? (i := 499) (by decide +kernel)⟩
theorem lw_p19 : lw_okq (⟨"SaltBorder$SaltWalk", "passFrom", "(LSaltBorder$Table;IZ)V"⟩, 2) := ⟨⟨by decide +kernel, by decide +kernel⟩, List.mem_of_getElem? (i := 77) (by decide +kernel), List.mem_of_getElem? (i := 515) (by decide +kernel), List.mem_of_getElem? (i := 516) (by decide +kernel)⟩
theorem lw_p20 : lw_okq (⟨"SaltBorder", "childTells", "(I)I"⟩, 9) := ⟨⟨by decide +kernel, by decide +kernel⟩, List.mem_of_getElem? (i := 14) (by decide +kernel), List.mem_of_getElem? (i := 596) (by decide +kernel), List.mem_of_getElem? (i := 597) (by decide +kernel)⟩
theorem lw_p21 : lw_okq (⟨"SaltBorder", "leave", "(I)V"⟩, 9) := ⟨⟨by decide +kernel, by decide +kernel⟩, List.mem_of_getElem? (i := 14) (by decide +kernel), List.mem_of_getElem? (i := 600) (by decide +kernel), List.mem_of_getElem? (i := 601) (by decide +kernel)⟩
theorem lw_p22 : lw_okq (⟨"SaltBorder", "auntTells", "(I)I"⟩, 9) := ⟨⟨by decide +kernel, by decide +kernel⟩, List.mem_of_getElem? (i := 14) (by decide +kernel), List.mem_of_getElem? (i := 604) (by decide +kernel), List.mem_of_getElem? (i := 605) (by decide +kernel)⟩
theorem lw_p23 : lw_okq (⟨"SaltBorder", "guestTells", "(I)I"⟩, 9) := ⟨⟨by decide +kernel, by decide +kernel⟩, List.mem_of_getElem? (i := 14) (by decide +kernel), List.mem_of_getElem? (i := 608) (by decide +kernel), List.mem_of_getElem? (i := 609) (by decide +kernel)⟩
theorem lw_p24 : lw_okq (⟨"SaltBorderModel", "against", "(IIII)I"⟩, 34) := ⟨⟨by decide +kernel, by decide +kernel⟩, List.mem_of_getElem? (i := 632) (by decide +kernel), List.mem_of_getElem? (i := 754) (by decide +kernel), List.mem_of_getElem? (i := 755) (by decide +kernel)⟩
theorem lw_p25 : lw_okq (⟨"SaltBorderModel", "fails", "(I)I"⟩, 34) := ⟨⟨by decide +kernel, by decide +kernel⟩, List.mem_of_getElem? (i := 632) (by decide +kernel), List.mem_of_getElem? (i := 758) (by decide +kernel), List.mem_of_getElem? (i := 759) (by decide +kernel)⟩
theorem lw_p26 : lw_okq (⟨"SaltBorderModel", "readTable", "(I)Z"⟩, 34) := ⟨⟨by decide +kernel, by decide +kernel⟩, List.mem_of_getElem? (i := 632) (by decide +kernel), List.mem_of_getElem? (i := 762) (by decide +kernel), List.mem_of_getElem? (i := 763) (by decide +kernel)⟩
theorem lw_p27 : lw_okq (⟨"SaltBorderModel", "isSign", "(II)Z"⟩, 34) := ⟨⟨by decide +kernel, by decide +kernel⟩, List.mem_of_getElem? (i := 632) (by decide +kernel), List.mem_of_getElem? (i := 766) (by decide +kernel), List.mem_of_getElem? (i := 767) (by decide +kernel)⟩
theorem lw_p28 : lw_okq (⟨"SaltBorderModel", "digit", "(II)I"⟩, 34) := ⟨⟨by decide +kernel, by decide +kernel⟩, List.mem_of_getElem? (i := 632) (by decide +kernel), List.mem_of_getElem? (i := 770) (by decide +kernel), List.mem_of_getElem? (i := 771) (by decide +kernel)⟩
theorem lw_p29 : lw_okq (⟨"SaltBorderModel", "readGuest", "(I)Z"⟩, 34) := ⟨⟨by decide +kernel, by decide +kernel⟩, List.mem_of_getElem? (i := 632) (by decide +kernel), List.mem_of_getElem? (i := 774) (by decide +kernel), List.mem_of_getElem? (i := 775) (by decide +kernel)⟩
theorem lw_p30 : lw_okq (⟨"SaltBorderModel", "readDish", "(I)Z"⟩, 34) := ⟨⟨by decide +kernel, by decide +kernel⟩, List.mem_of_getElem? (i := 632) (by decide +kernel), List.mem_of_getElem? (i := 778) (by decide +kernel), List.mem_of_getElem? (i := 779) (by decide +kernel)⟩
theorem lw_p31 : lw_okq (⟨"SaltBorderModel", "takeTable", "()V"⟩, 34) := ⟨⟨by decide +kernel, by decide +kernel⟩, List.mem_of_getElem? (i := 632) (by decide +kernel), List.mem_of_getElem? (i := 782) (by decide +kernel), List.mem_of_getElem? (i := 783) (by decide +kernel)⟩
def lw_privs_2 : List (MethodName × Nat) := [(⟨"SaltBorder$Table", "marginBehind", "(IIII)I"⟩, 13), (⟨"SaltBorder$Table", "wetBy", "(I)I"⟩, 13), (⟨"SaltBorder$Table", "wetByAll", "(I)I"⟩, 13), (⟨"SaltBorder$SaltWalk", "passFrom", "(LSaltBorder$Table;IZ)V"⟩, 2), (⟨"SaltBorder", "childTells", "(I)I"⟩, 9), (⟨"SaltBorder", "leave", "(I)V"⟩, 9), (⟨"SaltBorder", "auntTells", "(I)I"⟩, 9), (⟨"SaltBorder", "guestTells", "(I)I"⟩, 9), (⟨"SaltBorderModel", "against", "(IIII)I"⟩, 34), (⟨"SaltBorderModel", "fails", "(I)I"⟩, 34), (⟨"SaltBorderModel", "readTable", "(I)Z"⟩, 34), (⟨"SaltBorderModel", "isSign", "(II)Z"⟩, 34), (⟨"SaltBorderModel", "digit", "(II)I"⟩, 34), (⟨"SaltBorderModel", "readGuest", "(I)Z"⟩, 34), (⟨"SaltBorderModel", "readDish", "(I)Z"⟩, 34), (⟨"SaltBorderModel", "takeTable", "()V"⟩, 34)]
theorem lw_r2 : ∀ q ∈ lw_privs_2, lw_okq q := List.forall_mem_cons.mpr ⟨lw_p16, List.forall_mem_cons.mpr ⟨lw_p17, List.forall_mem_cons.mpr ⟨lw_p18, List.forall_mem_cons.mpr ⟨lw_p19, List.forall_mem_cons.mpr ⟨lw_p20, List.forall_mem_cons.mpr ⟨lw_p21, List.forall_mem_cons.mpr ⟨lw_p22, List.forall_mem_cons.mpr ⟨lw_p23, List.forall_mem_cons.mpr ⟨lw_p24, List.forall_mem_cons.mpr ⟨lw_p25, List.forall_mem_cons.mpr ⟨lw_p26, List.forall_mem_cons.mpr ⟨lw_p27, List.forall_mem_cons.mpr ⟨lw_p28, List.forall_mem_cons.mpr ⟨lw_p29, List.forall_mem_cons.mpr ⟨lw_p30, List.forall_mem_cons.mpr ⟨lw_p31, fun _ h => absurd h List.not_mem_nil⟩⟩⟩⟩⟩⟩⟩⟩⟩⟩⟩⟩⟩⟩⟩⟩
theorem lw_p32 : lw_okq (⟨"SaltBorderModel", "isGuest", "(I)Z"⟩, 34) := ⟨⟨by decide +kernel, by decide +kernel⟩, List.mem_of_getElem? (i := 632) (by decide +kernel), List.mem_of_getElem? (i := 790) (by decide +kernel), List.mem_of_getElem? (i := 791) (by decide +kernel)⟩
theorem lw_p33 : lw_okq (⟨"SaltBorderModel", "minutesOf", "(I)I"⟩, 34) := ⟨⟨by decide +kernel, by decide +kernel⟩, List.mem_of_getElem? (i := 632) (by decide +kernel), List.mem_of_getElem? (i := 794) (by decide +kernel), List.mem_of_getElem? (i := 795) (by decide +kernel)⟩
theorem lw_p34 : lw_okq (⟨"SaltBorderModel", "isDish", "(I)Z"⟩, 34) := ⟨⟨by decide +kernel, by decide +kernel⟩, List.mem_of_getElem? (i := 632) (by decide +kernel), List.mem_of_getElem? (i := 802) (by decide +kernel), List.mem_of_getElem? (i := 803) (by decide +kernel)⟩
theorem lw_p35 : lw_okq (⟨"SaltBorderModel", "whoseBy", "(III)I"⟩, 34) := ⟨⟨by decide +kernel, by decide +kernel⟩, List.mem_of_getElem? (i := 632) (by decide +kernel), List.mem_of_getElem? (i := 806) (by decide +kernel), List.mem_of_getElem? (i := 807) (by decide +kernel)⟩
theorem lw_p36 : lw_okq (⟨"SaltBorderModel", "landBy", "(III)I"⟩, 34) := ⟨⟨by decide +kernel, by decide +kernel⟩, List.mem_of_getElem? (i := 632) (by decide +kernel), List.mem_of_getElem? (i := 821) (by decide +kernel), List.mem_of_getElem? (i := 822) (by decide +kernel)⟩
theorem lw_p37 : lw_okq (⟨"SaltBorderModel", "stateNow", "()I"⟩, 34) := ⟨⟨by decide +kernel, by decide +kernel⟩, List.mem_of_getElem? (i := 632) (by decide +kernel), List.mem_of_getElem? (i := 845) (by decide +kernel), List.mem_of_getElem? (i := 846) (by decide +kernel)⟩
theorem lw_p38 : lw_okq (⟨"SaltBorderModel", "behind", "(II)I"⟩, 34) := ⟨⟨by decide +kernel, by decide +kernel⟩, List.mem_of_getElem? (i := 632) (by decide +kernel), List.mem_of_getElem? (i := 849) (by decide +kernel), List.mem_of_getElem? (i := 850) (by decide +kernel)⟩
theorem lw_p39 : lw_okq (⟨"SaltBorderModel", "next", "(II)I"⟩, 34) := ⟨⟨by decide +kernel, by decide +kernel⟩, List.mem_of_getElem? (i := 632) (by decide +kernel), List.mem_of_getElem? (i := 853) (by decide +kernel), List.mem_of_getElem? (i := 854) (by decide +kernel)⟩
theorem lw_p40 : lw_okq (⟨"SaltBorderModel", "takes", "(II)I"⟩, 34) := ⟨⟨by decide +kernel, by decide +kernel⟩, List.mem_of_getElem? (i := 632) (by decide +kernel), List.mem_of_getElem? (i := 857) (by decide +kernel), List.mem_of_getElem? (i := 858) (by decide +kernel)⟩
theorem lw_p41 : lw_okq (⟨"SaltBorderModel", "tellDinner", "(IIII)I"⟩, 34) := ⟨⟨by decide +kernel, by decide +kernel⟩, List.mem_of_getElem? (i := 632) (by decide +kernel), List.mem_of_getElem? (i := 865) (by decide +kernel), List.mem_of_getElem? (i := 866) (by decide +kernel)⟩
theorem lw_p42 : lw_okq (⟨"SaltBorderModel", "findLeft", "(III)V"⟩, 34) := ⟨⟨by decide +kernel, by decide +kernel⟩, List.mem_of_getElem? (i := 632) (by decide +kernel), List.mem_of_getElem? (i := 873) (by decide +kernel), List.mem_of_getElem? (i := 874) (by decide +kernel)⟩
theorem lw_p43 : lw_okq (⟨"SaltBorderModel", "isState", "(I)Z"⟩, 34) := ⟨⟨by decide +kernel, by decide +kernel⟩, List.mem_of_getElem? (i := 632) (by decide +kernel), List.mem_of_getElem? (i := 877) (by decide +kernel), List.mem_of_getElem? (i := 878) (by decide +kernel)⟩
theorem lw_p44 : lw_okq (⟨"SaltBorderModel", "isGoal", "(III)Z"⟩, 34) := ⟨⟨by decide +kernel, by decide +kernel⟩, List.mem_of_getElem? (i := 632) (by decide +kernel), List.mem_of_getElem? (i := 881) (by decide +kernel), List.mem_of_getElem? (i := 882) (by decide +kernel)⟩
theorem lw_p45 : lw_okq (⟨"SaltBorderModel", "costOf", "(III)I"⟩, 34) := ⟨⟨by decide +kernel, by decide +kernel⟩, List.mem_of_getElem? (i := 632) (by decide +kernel), List.mem_of_getElem? (i := 886) (by decide +kernel), List.mem_of_getElem? (i := 887) (by decide +kernel)⟩
theorem lw_p46 : lw_okq (⟨"SaltBorderModel", "requestOf", "(II)I"⟩, 34) := ⟨⟨by decide +kernel, by decide +kernel⟩, List.mem_of_getElem? (i := 632) (by decide +kernel), List.mem_of_getElem? (i := 890) (by decide +kernel), List.mem_of_getElem? (i := 891) (by decide +kernel)⟩
theorem lw_p47 : lw_okq (⟨"SaltBorderModel", "firstRequest", "(II)I"⟩, 34) := ⟨⟨by decide +kernel, by decide +kernel⟩, List.mem_of_getElem? (i := 632) (by decide +kernel), List.mem_of_getElem? (i := 894) (by decide +kernel), List.mem_of_getElem? (i := 895) (by decide +kernel)⟩
def lw_privs_3 : List (MethodName × Nat) := [(⟨"SaltBorderModel", "isGuest", "(I)Z"⟩, 34), (⟨"SaltBorderModel", "minutesOf", "(I)I"⟩, 34), (⟨"SaltBorderModel", "isDish", "(I)Z"⟩, 34), (⟨"SaltBorderModel", "whoseBy", "(III)I"⟩, 34), (⟨"SaltBorderModel", "landBy", "(III)I"⟩, 34), (⟨"SaltBorderModel", "stateNow", "()I"⟩, 34), (⟨"SaltBorderModel", "behind", "(II)I"⟩, 34), (⟨"SaltBorderModel", "next", "(II)I"⟩, 34), (⟨"SaltBorderModel", "takes", "(II)I"⟩, 34), (⟨"SaltBorderModel", "tellDinner", "(IIII)I"⟩, 34), (⟨"SaltBorderModel", "findLeft", "(III)V"⟩, 34), (⟨"SaltBorderModel", "isState", "(I)Z"⟩, 34), (⟨"SaltBorderModel", "isGoal", "(III)Z"⟩, 34), (⟨"SaltBorderModel", "costOf", "(III)I"⟩, 34), (⟨"SaltBorderModel", "requestOf", "(II)I"⟩, 34), (⟨"SaltBorderModel", "firstRequest", "(II)I"⟩, 34)]
theorem lw_r3 : ∀ q ∈ lw_privs_3, lw_okq q := List.forall_mem_cons.mpr ⟨lw_p32, List.forall_mem_cons.mpr ⟨lw_p33, List.forall_mem_cons.mpr ⟨lw_p34, List.forall_mem_cons.mpr ⟨lw_p35, List.forall_mem_cons.mpr ⟨lw_p36, List.forall_mem_cons.mpr ⟨lw_p37, List.forall_mem_cons.mpr ⟨lw_p38, List.forall_mem_cons.mpr ⟨lw_p39, List.forall_mem_cons.mpr ⟨lw_p40, List.forall_mem_cons.mpr ⟨lw_p41, List.forall_mem_cons.mpr ⟨lw_p42, List.forall_mem_cons.mpr ⟨lw_p43, List.forall_mem_cons.mpr ⟨lw_p44, List.forall_mem_cons.mpr ⟨lw_p45, List.forall_mem_cons.mpr ⟨lw_p46, List.forall_mem_cons.mpr ⟨lw_p47, fun _ h => absurd h List.not_mem_nil⟩⟩⟩⟩⟩⟩⟩⟩⟩⟩⟩⟩⟩⟩⟩⟩
theorem lw_p48 : lw_okq (⟨"SaltBorderModel", "findGame", "(II)V"⟩, 34) := ⟨⟨by decide +kernel, by decide +kernel⟩, List.mem_of_getElem? (i := 632) (by decide +kernel), List.mem_of_getElem? (i := 906) (by decide +kernel), List.mem_of_getElem? (i := 907) (by decide +kernel)⟩
theorem lw_p49 : lw_okq (⟨"SaltBorderModel", "behindRow", "(II)I"⟩, 34) := ⟨⟨by decide +kernel, by decide +kernel⟩, List.mem_of_getElem? (i := 632) (by decide +kernel), List.mem_of_getElem? (i := 910) (by decide +kernel), List.mem_of_getElem? (i := 911) (by decide +kernel)⟩
theorem lw_p50 : lw_okq (⟨"SaltBorderModel", "bestOf", "(IZ)I"⟩, 34) := ⟨⟨by decide +kernel, by decide +kernel⟩, List.mem_of_getElem? (i := 632) (by decide +kernel), List.mem_of_getElem? (i := 914) (by decide +kernel), List.mem_of_getElem? (i := 915) (by decide +kernel)⟩
theorem lw_p51 : lw_okq (⟨"SaltBorderModel", "wetBy", "(I)I"⟩, 34) := ⟨⟨by decide +kernel, by decide +kernel⟩, List.mem_of_getElem? (i := 632) (by decide +kernel), List.mem_of_getElem? (i := 922) (by decide +kernel), List.mem_of_getElem? (i := 923) (by decide +kernel)⟩
theorem lw_p52 : lw_okq (⟨"SaltBorderModel", "beginAbout", "()V"⟩, 34) := ⟨⟨by decide +kernel, by decide +kernel⟩, List.mem_of_getElem? (i := 632) (by decide +kernel), List.mem_of_getElem? (i := 934) (by decide +kernel), List.mem_of_getElem? (i := 935) (by decide +kernel)⟩
theorem lw_p53 : lw_okq (⟨"SaltBorderModel", "passAbout", "(Z)V"⟩, 34) := ⟨⟨by decide +kernel, by decide +kernel⟩, List.mem_of_getElem? (i := 632) (by decide +kernel), List.mem_of_getElem? (i := 938) (by decide +kernel), List.mem_of_getElem? (i := 939) (by decide +kernel)⟩
theorem lw_p54 : lw_okq (⟨"SaltBorderModel", "areSo", "()Z"⟩, 34) := ⟨⟨by decide +kernel, by decide +kernel⟩, List.mem_of_getElem? (i := 632) (by decide +kernel), List.mem_of_getElem? (i := 954) (by decide +kernel), List.mem_of_getElem? (i := 955) (by decide +kernel)⟩
theorem lw_p55 : lw_okq (⟨"SaltBorderModel", "lost", "(I)J"⟩, 34) := ⟨⟨by decide +kernel, by decide +kernel⟩, List.mem_of_getElem? (i := 632) (by decide +kernel), List.mem_of_getElem? (i := 989) (by decide +kernel), List.mem_of_getElem? (i := 990) (by decide +kernel)⟩
theorem lw_p56 : lw_okq (⟨"SaltBorderModel", "begins", "(I)V"⟩, 34) := ⟨⟨by decide +kernel, by decide +kernel⟩, List.mem_of_getElem? (i := 632) (by decide +kernel), List.mem_of_getElem? (i := 1001) (by decide +kernel), List.mem_of_getElem? (i := 1002) (by decide +kernel)⟩
def lw_privs_4 : List (MethodName × Nat) := [(⟨"SaltBorderModel", "findGame", "(II)V"⟩, 34), (⟨"SaltBorderModel", "behindRow", "(II)I"⟩, 34), (⟨"SaltBorderModel", "bestOf", "(IZ)I"⟩, 34), (⟨"SaltBorderModel", "wetBy", "(I)I"⟩, 34), (⟨"SaltBorderModel", "beginAbout", "()V"⟩, 34), (⟨"SaltBorderModel", "passAbout", "(Z)V"⟩, 34), (⟨"SaltBorderModel", "areSo", "()Z"⟩, 34), (⟨"SaltBorderModel", "lost", "(I)J"⟩, 34), (⟨"SaltBorderModel", "begins", "(I)V"⟩, 34)]
theorem lw_r4 : ∀ q ∈ lw_privs_4, lw_okq q := List.forall_mem_cons.mpr ⟨lw_p48, List.forall_mem_cons.mpr ⟨lw_p49, List.forall_mem_cons.mpr ⟨lw_p50, List.forall_mem_cons.mpr ⟨lw_p51, List.forall_mem_cons.mpr ⟨lw_p52, List.forall_mem_cons.mpr ⟨lw_p53, List.forall_mem_cons.mpr ⟨lw_p54, List.forall_mem_cons.mpr ⟨lw_p55, List.forall_mem_cons.mpr ⟨lw_p56, fun _ h => absurd h List.not_mem_nil⟩⟩⟩⟩⟩⟩⟩⟩⟩
def lw_privs : List (MethodName × Nat) := lw_privs_1 ++ (lw_privs_2 ++ (lw_privs_3 ++ (lw_privs_4)))
def lw_tbl : List Cond := k2_sels lw_privs ++ tables_1
theorem lw_privs_ok : ∀ q ∈ lw_privs, lw_okq q := by
  show ∀ q ∈ lw_privs_1 ++ (lw_privs_2 ++ (lw_privs_3 ++ (lw_privs_4))), lw_okq q
  exact List.forall_mem_append.mpr ⟨lw_r1, List.forall_mem_append.mpr ⟨lw_r2, List.forall_mem_append.mpr ⟨lw_r3, lw_r4⟩⟩⟩
end
section
def RX0 : String := "SaltBorder$Dinner"
def TX0 : u_T := fun k => match k with
  | 0 => ("SaltBorder$Dinner", "border", "I", false)
  | 1 => ("SaltBorder$Dinner", "minutes", "I", false)
  | _ => ("SaltBorder$Dinner", "firstWrong", "I", false)
def tyX0 : Nat → FieldType := fun k => match k with
  | 0 => .int
  | 1 => .int
  | _ => .int
abbrev wsX00 : List Cond := u_ws RX0 TX0 3
theorem nmX0 : ∀ a, a < 3 → ∀ b, b < 3 → a ≠ b → (TX0 a).2.1 ≠ (TX0 b).2.1 := by decide +kernel
theorem tyX0_ok : ∀ k, k < 3 → parseFieldDescriptor (TX0 k).2.2.1 = some (tyX0 k) := by decide +kernel
abbrev cX0_init : ByteArray := prog_2_method_1_code
def yX0_init : MethodName := ⟨RX0, "<init>", "()V"⟩
abbrev cX0_serve : ByteArray := prog_2_method_2_code
def yX0_serve : MethodName := ⟨RX0, "serve", "(LSaltBorder$Table;[III)V"⟩
def RX1 : String := "SaltBorder$Planner"
def TX1 : u_T := fun k => match k with
  | 0 => ("SaltBorder$Planner", "left", "[I", true)
  | _ => ("SaltBorder$Planner", "weights", "[I", true)
def tyX1 : Nat → FieldType := fun k => match k with
  | 0 => .array .int
  | _ => .array .int
abbrev wsX10 : List Cond := u_ws RX1 TX1 2
theorem nmX1 : ∀ a, a < 2 → ∀ b, b < 2 → a ≠ b → (TX1 a).2.1 ≠ (TX1 b).2.1 := by decide +kernel
theorem tyX1_ok : ∀ k, k < 2 → parseFieldDescriptor (TX1 k).2.2.1 = some (tyX1 k) := by decide +kernel
abbrev cX1_init : ByteArray := prog_3_method_1_code
def yX1_init : MethodName := ⟨RX1, "<init>", "()V"⟩
abbrev cX1_planForDish : ByteArray := prog_3_method_2_code
def yX1_planForDish : MethodName := ⟨RX1, "planForDish", "(LSaltBorder$Table;II)V"⟩
abbrev cX1_planForTreaty : ByteArray := prog_3_method_3_code
def yX1_planForTreaty : MethodName := ⟨RX1, "planForTreaty", "(LSaltBorder$Table;)V"⟩
abbrev cX1_weigh : ByteArray := prog_3_method_4_code
def yX1_weigh : MethodName := ⟨RX1, "weigh", "(LSaltBorder$Table;I)V"⟩
abbrev cX1_spread : ByteArray := prog_3_method_5_code
def yX1_spread : MethodName := ⟨RX1, "spread", "(LSaltBorder$Table;)V"⟩
abbrev cX1_sweepOnce : ByteArray := prog_3_method_6_code
def yX1_sweepOnce : MethodName := ⟨RX1, "sweepOnce", "(LSaltBorder$Table;)Z"⟩
abbrev cX1_leftBy : ByteArray := prog_3_method_7_code
def yX1_leftBy : MethodName := ⟨RX1, "leftBy", "(LSaltBorder$Table;II)I"⟩
abbrev cX1_minutes : ByteArray := prog_3_method_8_code
def yX1_minutes : MethodName := ⟨RX1, "minutes", "(LSaltBorder$Table;)I"⟩
abbrev cX1_requests : ByteArray := prog_3_method_9_code
def yX1_requests : MethodName := ⟨RX1, "requests", "(LSaltBorder$Table;)I"⟩
abbrev cX1_requestAt : ByteArray := prog_3_method_10_code
def yX1_requestAt : MethodName := ⟨RX1, "requestAt", "(LSaltBorder$Table;I)I"⟩
abbrev cX1_firstBest : ByteArray := prog_3_method_11_code
def yX1_firstBest : MethodName := ⟨RX1, "firstBest", "(LSaltBorder$Table;I)I"⟩
def RX2 : String := "SaltBorder$SaltWalk"
def TX2 : u_T := fun k => match k with
  | 0 => ("SaltBorder$SaltWalk", "ways", "[J", true)
  | _ => ("SaltBorder$SaltWalk", "waysThen", "[J", true)
def tyX2 : Nat → FieldType := fun k => match k with
  | 0 => .array .long
  | _ => .array .long
abbrev wsX20 : List Cond := u_ws RX2 TX2 2
theorem nmX2 : ∀ a, a < 2 → ∀ b, b < 2 → a ≠ b → (TX2 a).2.1 ≠ (TX2 b).2.1 := by decide +kernel
theorem tyX2_ok : ∀ k, k < 2 → parseFieldDescriptor (TX2 k).2.2.1 = some (tyX2 k) := by decide +kernel
abbrev cX2_init : ByteArray := prog_4_method_1_code
def yX2_init : MethodName := ⟨RX2, "<init>", "()V"⟩
abbrev cX2_go : ByteArray := prog_4_method_2_code
def yX2_go : MethodName := ⟨RX2, "go", "(LSaltBorder$Table;IZ)V"⟩
abbrev cX2_passFrom : ByteArray := prog_4_method_3_code
def yX2_passFrom : MethodName := ⟨RX2, "passFrom", "(LSaltBorder$Table;IZ)V"⟩
abbrev cX2_waysToOwn : ByteArray := prog_4_method_4_code
def yX2_waysToOwn : MethodName := ⟨RX2, "waysToOwn", "(LSaltBorder$Table;II)J"⟩
def RX3 : String := "SaltBorder$Sheet"
def TX3 : u_T := fun k => match k with
  | 0 => ("SaltBorder$Sheet", "cells", "[I", true)
  | 1 => ("SaltBorder$Sheet", "isThere", "Z", false)
  | 2 => ("SaltBorder$Sheet", "lane", "I", false)
  | _ => ("SaltBorder$Sheet", "length", "I", false)
def tyX3 : Nat → FieldType := fun k => match k with
  | 0 => .array .int
  | 1 => .boolean
  | 2 => .int
  | _ => .int
abbrev wsX30 : List Cond := u_ws RX3 TX3 4
theorem nmX3 : ∀ a, a < 4 → ∀ b, b < 4 → a ≠ b → (TX3 a).2.1 ≠ (TX3 b).2.1 := by decide +kernel
theorem tyX3_ok : ∀ k, k < 4 → parseFieldDescriptor (TX3 k).2.2.1 = some (tyX3 k) := by decide +kernel
abbrev cX3_init : ByteArray := prog_5_method_1_code
def yX3_init : MethodName := ⟨RX3, "<init>", "()V"⟩
abbrev cX3_renew : ByteArray := prog_5_method_2_code
def yX3_renew : MethodName := ⟨RX3, "renew", "(II)V"⟩
abbrev cX3_has : ByteArray := prog_5_method_3_code
def yX3_has : MethodName := ⟨RX3, "has", "(II)Z"⟩
abbrev cX3_faultOfCells : ByteArray := prog_5_method_4_code
def yX3_faultOfCells : MethodName := ⟨RX3, "faultOfCells", "(III)I"⟩
abbrev cX3_cut : ByteArray := prog_5_method_5_code
def yX3_cut : MethodName := ⟨RX3, "cut", "(I)I"⟩
abbrev cX3_areRequests : ByteArray := prog_5_method_6_code
def yX3_areRequests : MethodName := ⟨RX3, "areRequests", "(II)Z"⟩
def RX4 : String := "SaltBorder$Table"
def TX4 : u_T := fun k => match k with
  | 0 => ("SaltBorder$Table", "kinds", "[I", true)
  | 1 => ("SaltBorder$Table", "mouths", "[I", true)
  | 2 => ("SaltBorder$Table", "arms", "[I", true)
  | 3 => ("SaltBorder$Table", "wet", "[I", true)
  | 4 => ("SaltBorder$Table", "dishSeats", "[I", true)
  | 5 => ("SaltBorder$Table", "worths", "[I", true)
  | 6 => ("SaltBorder$Table", "readGuests", "[I", true)
  | 7 => ("SaltBorder$Table", "readMinutes", "[I", true)
  | 8 => ("SaltBorder$Table", "guests", "I", false)
  | 9 => ("SaltBorder$Table", "dishes", "I", false)
  | 10 => ("SaltBorder$Table", "soup", "I", false)
  | 11 => ("SaltBorder$Table", "border", "I", false)
  | _ => ("SaltBorder$Table", "readings", "I", false)
def tyX4 : Nat → FieldType := fun k => match k with
  | 0 => .array .int
  | 1 => .array .int
  | 2 => .array .int
  | 3 => .array .int
  | 4 => .array .int
  | 5 => .array .int
  | 6 => .array .int
  | 7 => .array .int
  | 8 => .int
  | 9 => .int
  | 10 => .int
  | 11 => .int
  | _ => .int
abbrev wsX40 : List Cond := u_ws RX4 TX4 13
theorem nmX4 : ∀ a, a < 13 → ∀ b, b < 13 → a ≠ b → (TX4 a).2.1 ≠ (TX4 b).2.1 := by decide +kernel
theorem tyX4_ok : ∀ k, k < 13 → parseFieldDescriptor (TX4 k).2.2.1 = some (tyX4 k) := by decide +kernel
abbrev cX4_init : ByteArray := prog_6_method_1_code
def yX4_init : MethodName := ⟨RX4, "<init>", "()V"⟩
abbrev cX4_isLaid : ByteArray := prog_6_method_2_code
def yX4_isLaid : MethodName := ⟨RX4, "isLaid", "()Z"⟩
abbrev cX4_lay : ByteArray := prog_6_method_3_code
def yX4_lay : MethodName := ⟨RX4, "lay", "(LSaltBorder$TextReader;)Z"⟩
abbrev cX4_laySoup : ByteArray := prog_6_method_4_code
def yX4_laySoup : MethodName := ⟨RX4, "laySoup", "(LSaltBorder$TextReader;)Z"⟩
abbrev cX4_layGuests : ByteArray := prog_6_method_5_code
def yX4_layGuests : MethodName := ⟨RX4, "layGuests", "(LSaltBorder$TextReader;)Z"⟩
abbrev cX4_layGuest : ByteArray := prog_6_method_6_code
def yX4_layGuest : MethodName := ⟨RX4, "layGuest", "(LSaltBorder$TextReader;I)Z"⟩
abbrev cX4_layBorder : ByteArray := prog_6_method_7_code
def yX4_layBorder : MethodName := ⟨RX4, "layBorder", "(LSaltBorder$TextReader;)Z"⟩
abbrev cX4_layDishes : ByteArray := prog_6_method_8_code
def yX4_layDishes : MethodName := ⟨RX4, "layDishes", "(LSaltBorder$TextReader;)Z"⟩
abbrev cX4_layDish : ByteArray := prog_6_method_9_code
def yX4_layDish : MethodName := ⟨RX4, "layDish", "(LSaltBorder$TextReader;I)Z"⟩
abbrev cX4_stepsBehind : ByteArray := prog_6_method_10_code
def yX4_stepsBehind : MethodName := ⟨RX4, "stepsBehind", "(II)I"⟩
abbrev cX4_ownerOf : ByteArray := prog_6_method_11_code
def yX4_ownerOf : MethodName := ⟨RX4, "ownerOf", "(II)I"⟩
abbrev cX4_ownerOfDish : ByteArray := prog_6_method_12_code
def yX4_ownerOfDish : MethodName := ⟨RX4, "ownerOfDish", "(II)I"⟩
abbrev cX4_landOf : ByteArray := prog_6_method_13_code
def yX4_landOf : MethodName := ⟨RX4, "landOf", "(II)I"⟩
abbrev cX4_minutesAs : ByteArray := prog_6_method_14_code
def yX4_minutesAs : MethodName := ⟨RX4, "minutesAs", "(III)I"⟩
abbrev cX4_minutesOf : ByteArray := prog_6_method_15_code
def yX4_minutesOf : MethodName := ⟨RX4, "minutesOf", "(I)I"⟩
abbrev cX4_neighbour : ByteArray := prog_6_method_16_code
def yX4_neighbour : MethodName := ⟨RX4, "neighbour", "(II)I"⟩
abbrev cX4_borderBehind : ByteArray := prog_6_method_17_code
def yX4_borderBehind : MethodName := ⟨RX4, "borderBehind", "(II)I"⟩
abbrev cX4_isBorder : ByteArray := prog_6_method_18_code
def yX4_isBorder : MethodName := ⟨RX4, "isBorder", "(I)Z"⟩
abbrev cX4_bestMargin : ByteArray := prog_6_method_19_code
def yX4_bestMargin : MethodName := ⟨RX4, "bestMargin", "(III)I"⟩
abbrev cX4_marginBehind : ByteArray := prog_6_method_20_code
def yX4_marginBehind : MethodName := ⟨RX4, "marginBehind", "(IIII)I"⟩
abbrev cX4_bestRequest : ByteArray := prog_6_method_21_code
def yX4_bestRequest : MethodName := ⟨RX4, "bestRequest", "(II)I"⟩
abbrev cX4_wetBy : ByteArray := prog_6_method_22_code
def yX4_wetBy : MethodName := ⟨RX4, "wetBy", "(I)I"⟩
abbrev cX4_wetByAll : ByteArray := prog_6_method_23_code
def yX4_wetByAll : MethodName := ⟨RX4, "wetByAll", "(I)I"⟩
abbrev cX4_fewestWhoWet : ByteArray := prog_6_method_24_code
def yX4_fewestWhoWet : MethodName := ⟨RX4, "fewestWhoWet", "(I)I"⟩
abbrev cX4_areReadingsSo : ByteArray := prog_6_method_25_code
def yX4_areReadingsSo : MethodName := ⟨RX4, "areReadingsSo", "(IIII)Z"⟩
def RX5 : String := "SaltBorder$TextReader"
def TX5 : u_T := fun k => match k with
  | 0 => ("SaltBorder$TextReader", "codes", "[I", false)
  | 1 => ("SaltBorder$TextReader", "from", "I", false)
  | 2 => ("SaltBorder$TextReader", "count", "I", false)
  | _ => ("SaltBorder$TextReader", "at", "I", false)
def tyX5 : Nat → FieldType := fun k => match k with
  | 0 => .array .int
  | 1 => .int
  | 2 => .int
  | _ => .int
abbrev wsX50 : List Cond := u_ws RX5 TX5 4
theorem nmX5 : ∀ a, a < 4 → ∀ b, b < 4 → a ≠ b → (TX5 a).2.1 ≠ (TX5 b).2.1 := by decide +kernel
theorem tyX5_ok : ∀ k, k < 4 → parseFieldDescriptor (TX5 k).2.2.1 = some (tyX5 k) := by decide +kernel
abbrev cX5_init : ByteArray := prog_7_method_1_code
def yX5_init : MethodName := ⟨RX5, "<init>", "()V"⟩
abbrev cX5_open : ByteArray := prog_7_method_2_code
def yX5_open : MethodName := ⟨RX5, "open", "([III)V"⟩
abbrev cX5_isAtEnd : ByteArray := prog_7_method_3_code
def yX5_isAtEnd : MethodName := ⟨RX5, "isAtEnd", "()Z"⟩
abbrev cX5_isAt : ByteArray := prog_7_method_4_code
def yX5_isAt : MethodName := ⟨RX5, "isAt", "(I)Z"⟩
abbrev cX5_take : ByteArray := prog_7_method_5_code
def yX5_take : MethodName := ⟨RX5, "take", "(I)Z"⟩
abbrev cX5_takeDigit : ByteArray := prog_7_method_6_code
def yX5_takeDigit : MethodName := ⟨RX5, "takeDigit", "(I)I"⟩
abbrev cX5_takeDigitBut : ByteArray := prog_7_method_7_code
def yX5_takeDigitBut : MethodName := ⟨RX5, "takeDigitBut", "(II)I"⟩
abbrev cX5_takeKind : ByteArray := prog_7_method_8_code
def yX5_takeKind : MethodName := ⟨RX5, "takeKind", "()I"⟩
def RX6 : String := "SaltBorder"
def TX6 : u_T := fun k => match k with
  | 0 => ("SaltBorder", "sheets", "[LSaltBorder$Sheet;", true)
  | 1 => ("SaltBorder", "reader", "LSaltBorder$TextReader;", true)
  | 2 => ("SaltBorder", "served", "LSaltBorder$Dinner;", true)
  | 3 => ("SaltBorder", "planner", "LSaltBorder$Planner;", true)
  | 4 => ("SaltBorder", "walk", "LSaltBorder$SaltWalk;", true)
  | 5 => ("SaltBorder", "now", "LSaltBorder$Table;", false)
  | 6 => ("SaltBorder", "spare", "LSaltBorder$Table;", false)
  | 7 => ("SaltBorder", "traced", "I", false)
  | _ => ("SaltBorder", "lastFault", "I", false)
def tyX6 : Nat → FieldType := fun k => match k with
  | 0 => .array (.object "SaltBorder$Sheet")
  | 1 => .object "SaltBorder$TextReader"
  | 2 => .object "SaltBorder$Dinner"
  | 3 => .object "SaltBorder$Planner"
  | 4 => .object "SaltBorder$SaltWalk"
  | 5 => .object "SaltBorder$Table"
  | 6 => .object "SaltBorder$Table"
  | 7 => .int
  | _ => .int
abbrev wsX60 : List Cond := u_ws RX6 TX6 9
theorem nmX6 : ∀ a, a < 9 → ∀ b, b < 9 → a ≠ b → (TX6 a).2.1 ≠ (TX6 b).2.1 := by decide +kernel
theorem tyX6_ok : ∀ k, k < 9 → parseFieldDescriptor (TX6 k).2.2.1 = some (tyX6 k) := by decide +kernel
abbrev cX6_init : ByteArray := prog_1_method_1_code
def yX6_init : MethodName := ⟨RX6, "<init>", "()V"⟩
abbrev cX6_table : ByteArray := prog_1_method_2_code
def yX6_table : MethodName := ⟨RX6, "table", "(IIII)I"⟩
abbrev cX6_ofGuest : ByteArray := prog_1_method_3_code
def yX6_ofGuest : MethodName := ⟨RX6, "ofGuest", "(II)I"⟩
abbrev cX6_ofDish : ByteArray := prog_1_method_4_code
def yX6_ofDish : MethodName := ⟨RX6, "ofDish", "(II)I"⟩
abbrev cX6_whose : ByteArray := prog_1_method_5_code
def yX6_whose : MethodName := ⟨RX6, "whose", "(I)I"⟩
abbrev cX6_land : ByteArray := prog_1_method_6_code
def yX6_land : MethodName := ⟨RX6, "land", "(I)I"⟩
abbrev cX6_chew : ByteArray := prog_1_method_7_code
def yX6_chew : MethodName := ⟨RX6, "chew", "(II)I"⟩
abbrev cX6_cook : ByteArray := prog_1_method_8_code
def yX6_cook : MethodName := ⟨RX6, "cook", "(I)I"⟩
abbrev cX6_rate : ByteArray := prog_1_method_9_code
def yX6_rate : MethodName := ⟨RX6, "rate", "(II)I"⟩
abbrev cX6_carry : ByteArray := prog_1_method_10_code
def yX6_carry : MethodName := ⟨RX6, "carry", "(II)I"⟩
abbrev cX6_pass : ByteArray := prog_1_method_11_code
def yX6_pass : MethodName := ⟨RX6, "pass", "(I)I"⟩
abbrev cX6_dinner : ByteArray := prog_1_method_12_code
def yX6_dinner : MethodName := ⟨RX6, "dinner", "(IIIII)I"⟩
abbrev cX6_isAskedOfDinner : ByteArray := prog_1_method_13_code
def yX6_isAskedOfDinner : MethodName := ⟨RX6, "isAskedOfDinner", "(I)Z"⟩
abbrev cX6_answerOfDinner : ByteArray := prog_1_method_14_code
def yX6_answerOfDinner : MethodName := ⟨RX6, "answerOfDinner", "(I)I"⟩
abbrev cX6_ask : ByteArray := prog_1_method_15_code
def yX6_ask : MethodName := ⟨RX6, "ask", "(III)I"⟩
abbrev cX6_treaty : ByteArray := prog_1_method_16_code
def yX6_treaty : MethodName := ⟨RX6, "treaty", "(I)I"⟩
abbrev cX6_game : ByteArray := prog_1_method_17_code
def yX6_game : MethodName := ⟨RX6, "game", "(III)I"⟩
abbrev cX6_spilt : ByteArray := prog_1_method_18_code
def yX6_spilt : MethodName := ⟨RX6, "spilt", "(I)I"⟩
abbrev cX6_home : ByteArray := prog_1_method_19_code
def yX6_home : MethodName := ⟨RX6, "home", "(I)J"⟩
abbrev cX6_reading : ByteArray := prog_1_method_20_code
def yX6_reading : MethodName := ⟨RX6, "reading", "(II)I"⟩
abbrev cX6_back : ByteArray := prog_1_method_21_code
def yX6_back : MethodName := ⟨RX6, "back", "(I)I"⟩
abbrev cX6_mouths : ByteArray := prog_1_method_22_code
def yX6_mouths : MethodName := ⟨RX6, "mouths", "(I)I"⟩
abbrev cX6_kinds : ByteArray := prog_1_method_23_code
def yX6_kinds : MethodName := ⟨RX6, "kinds", "(I)I"⟩
abbrev cX6_soups : ByteArray := prog_1_method_24_code
def yX6_soups : MethodName := ⟨RX6, "soups", "()I"⟩
abbrev cX6_odds : ByteArray := prog_1_method_25_code
def yX6_odds : MethodName := ⟨RX6, "odds", "(IIII)J"⟩
abbrev cX6_sheet : ByteArray := prog_1_method_26_code
def yX6_sheet : MethodName := ⟨RX6, "sheet", "(III)I"⟩
abbrev cX6_lose : ByteArray := prog_1_method_27_code
def yX6_lose : MethodName := ⟨RX6, "lose", "(I)I"⟩
abbrev cX6_put : ByteArray := prog_1_method_28_code
def yX6_put : MethodName := ⟨RX6, "put", "(III)I"⟩
abbrev cX6_cell : ByteArray := prog_1_method_29_code
def yX6_cell : MethodName := ⟨RX6, "cell", "(III)J"⟩
abbrev cX6_copy : ByteArray := prog_1_method_30_code
def yX6_copy : MethodName := ⟨RX6, "copy", "(IIIII)I"⟩
abbrev cX6_tell : ByteArray := prog_1_method_31_code
def yX6_tell : MethodName := ⟨RX6, "tell", "(I)I"⟩
abbrev cX6_guestTells : ByteArray := prog_1_method_32_code
def yX6_guestTells : MethodName := ⟨RX6, "guestTells", "(I)I"⟩
abbrev cX6_auntTells : ByteArray := prog_1_method_33_code
def yX6_auntTells : MethodName := ⟨RX6, "auntTells", "(I)I"⟩
abbrev cX6_childTells : ByteArray := prog_1_method_34_code
def yX6_childTells : MethodName := ⟨RX6, "childTells", "(I)I"⟩
abbrev cX6_toast : ByteArray := prog_1_method_35_code
def yX6_toast : MethodName := ⟨RX6, "toast", "(I)I"⟩
abbrev cX6_leave : ByteArray := prog_1_method_36_code
def yX6_leave : MethodName := ⟨RX6, "leave", "(I)V"⟩
abbrev cX6_as : ByteArray := prog_1_method_37_code
def yX6_as : MethodName := ⟨RX6, "as", "(II)I"⟩
abbrev cX6_trace : ByteArray := prog_1_method_38_code
def yX6_trace : MethodName := ⟨RX6, "trace", "()I"⟩
abbrev cX6_fault : ByteArray := prog_1_method_39_code
def yX6_fault : MethodName := ⟨RX6, "fault", "()I"⟩
abbrev cX6_many : ByteArray := prog_1_method_40_code
def yX6_many : MethodName := ⟨RX6, "many", "(I)I"⟩
abbrev cX6_broken : ByteArray := prog_1_method_41_code
def yX6_broken : MethodName := ⟨RX6, "broken", "(I)I"⟩
abbrev cX6_isSheet : ByteArray := prog_1_method_42_code
def yX6_isSheet : MethodName := ⟨RX6, "isSheet", "(I)Z"⟩
abbrev cX6_isBelow : ByteArray := prog_1_method_43_code
def yX6_isBelow : MethodName := ⟨RX6, "isBelow", "(II)Z"⟩
abbrev cX6_borderOf : ByteArray := prog_1_method_44_code
def yX6_borderOf : MethodName := ⟨RX6, "borderOf", "(II)I"⟩
abbrev cX6_saltOf : ByteArray := prog_1_method_45_code
def yX6_saltOf : MethodName := ⟨RX6, "saltOf", "(I)I"⟩
abbrev cX6_pepperOf : ByteArray := prog_1_method_46_code
def yX6_pepperOf : MethodName := ⟨RX6, "pepperOf", "(I)I"⟩
abbrev cX6_standsAt : ByteArray := prog_1_method_47_code
def yX6_standsAt : MethodName := ⟨RX6, "standsAt", "(II)I"⟩
def RX7 : String := "SaltBorderModel"
def TX7 : u_T := fun k => match k with
  | 0 => ("SaltBorderModel", "fault", "I", false)
  | 1 => ("SaltBorderModel", "trace", "I", false)
  | 2 => ("SaltBorderModel", "sorts", "[I", true)
  | 3 => ("SaltBorderModel", "sheetLong", "[I", true)
  | 4 => ("SaltBorderModel", "cells", "[I", true)
  | 5 => ("SaltBorderModel", "guests", "I", false)
  | 6 => ("SaltBorderModel", "dishes", "I", false)
  | 7 => ("SaltBorderModel", "soup", "I", false)
  | 8 => ("SaltBorderModel", "salt", "I", false)
  | 9 => ("SaltBorderModel", "pepper", "I", false)
  | 10 => ("SaltBorderModel", "kind", "[I", true)
  | 11 => ("SaltBorderModel", "mouth", "[I", true)
  | 12 => ("SaltBorderModel", "arm", "[I", true)
  | 13 => ("SaltBorderModel", "seatOf", "[I", true)
  | 14 => ("SaltBorderModel", "worth", "[I", true)
  | 15 => ("SaltBorderModel", "at", "I", false)
  | 16 => ("SaltBorderModel", "readSoup", "I", false)
  | 17 => ("SaltBorderModel", "readGuests", "I", false)
  | 18 => ("SaltBorderModel", "readSalt", "I", false)
  | 19 => ("SaltBorderModel", "readPepper", "I", false)
  | 20 => ("SaltBorderModel", "readDishes", "I", false)
  | 21 => ("SaltBorderModel", "readKind", "[I", true)
  | 22 => ("SaltBorderModel", "readMouth", "[I", true)
  | 23 => ("SaltBorderModel", "readArm", "[I", true)
  | 24 => ("SaltBorderModel", "readSeat", "[I", true)
  | 25 => ("SaltBorderModel", "readWorth", "[I", true)
  | 26 => ("SaltBorderModel", "left", "[I", true)
  | 27 => ("SaltBorderModel", "value", "[I", true)
  | 28 => ("SaltBorderModel", "firstTurn", "I", false)
  | 29 => ("SaltBorderModel", "ways", "[J", true)
  | 30 => ("SaltBorderModel", "waysThen", "[J", true)
  | 31 => ("SaltBorderModel", "readings", "I", false)
  | 32 => ("SaltBorderModel", "readWho", "[I", true)
  | _ => ("SaltBorderModel", "readMinutes", "[I", true)
def tyX7 : Nat → FieldType := fun k => match k with
  | 0 => .int
  | 1 => .int
  | 2 => .array .int
  | 3 => .array .int
  | 4 => .array .int
  | 5 => .int
  | 6 => .int
  | 7 => .int
  | 8 => .int
  | 9 => .int
  | 10 => .array .int
  | 11 => .array .int
  | 12 => .array .int
  | 13 => .array .int
  | 14 => .array .int
  | 15 => .int
  | 16 => .int
  | 17 => .int
  | 18 => .int
  | 19 => .int
  | 20 => .int
  | 21 => .array .int
  | 22 => .array .int
  | 23 => .array .int
  | 24 => .array .int
  | 25 => .array .int
  | 26 => .array .int
  | 27 => .array .int
  | 28 => .int
  | 29 => .array .long
  | 30 => .array .long
  | 31 => .int
  | 32 => .array .int
  | _ => .array .int
abbrev wsX70 : List Cond := u_ws RX7 TX7 34
theorem nmX7 : ∀ a, a < 34 → ∀ b, b < 34 → a ≠ b → (TX7 a).2.1 ≠ (TX7 b).2.1 := by decide +kernel
theorem tyX7_ok : ∀ k, k < 34 → parseFieldDescriptor (TX7 k).2.2.1 = some (tyX7 k) := by decide +kernel
abbrev cX7_init : ByteArray := prog_9_method_1_code
def yX7_init : MethodName := ⟨RX7, "<init>", "()V"⟩
abbrev cX7_fails : ByteArray := prog_9_method_3_code
def yX7_fails : MethodName := ⟨RX7, "fails", "(I)I"⟩
abbrev cX7_lost : ByteArray := prog_9_method_4_code
def yX7_lost : MethodName := ⟨RX7, "lost", "(I)J"⟩
abbrev cX7_within : ByteArray := prog_9_method_5_code
def yX7_within : MethodName := ⟨RX7, "within", "(III)Z"⟩
abbrev cX7_isSheet : ByteArray := prog_9_method_6_code
def yX7_isSheet : MethodName := ⟨RX7, "isSheet", "(I)Z"⟩
abbrev cX7_isSort : ByteArray := prog_9_method_7_code
def yX7_isSort : MethodName := ⟨RX7, "isSort", "(I)Z"⟩
abbrev cX7_against : ByteArray := prog_9_method_8_code
def yX7_against : MethodName := ⟨RX7, "against", "(IIII)I"⟩
abbrev cX7_isGuest : ByteArray := prog_9_method_9_code
def yX7_isGuest : MethodName := ⟨RX7, "isGuest", "(I)Z"⟩
abbrev cX7_isDish : ByteArray := prog_9_method_10_code
def yX7_isDish : MethodName := ⟨RX7, "isDish", "(I)Z"⟩
abbrev cX7_isCountry : ByteArray := prog_9_method_11_code
def yX7_isCountry : MethodName := ⟨RX7, "isCountry", "(I)Z"⟩
abbrev cX7_digit : ByteArray := prog_9_method_12_code
def yX7_digit : MethodName := ⟨RX7, "digit", "(II)I"⟩
abbrev cX7_isSign : ByteArray := prog_9_method_13_code
def yX7_isSign : MethodName := ⟨RX7, "isSign", "(II)Z"⟩
abbrev cX7_table : ByteArray := prog_9_method_14_code
def yX7_table : MethodName := ⟨RX7, "table", "(IIII)I"⟩
abbrev cX7_takeTable : ByteArray := prog_9_method_15_code
def yX7_takeTable : MethodName := ⟨RX7, "takeTable", "()V"⟩
abbrev cX7_readTable : ByteArray := prog_9_method_16_code
def yX7_readTable : MethodName := ⟨RX7, "readTable", "(I)Z"⟩
abbrev cX7_readGuest : ByteArray := prog_9_method_17_code
def yX7_readGuest : MethodName := ⟨RX7, "readGuest", "(I)Z"⟩
abbrev cX7_readDish : ByteArray := prog_9_method_18_code
def yX7_readDish : MethodName := ⟨RX7, "readDish", "(I)Z"⟩
abbrev cX7_minutesOf : ByteArray := prog_9_method_19_code
def yX7_minutesOf : MethodName := ⟨RX7, "minutesOf", "(I)I"⟩
abbrev cX7_whoseBy : ByteArray := prog_9_method_20_code
def yX7_whoseBy : MethodName := ⟨RX7, "whoseBy", "(III)I"⟩
abbrev cX7_landBy : ByteArray := prog_9_method_21_code
def yX7_landBy : MethodName := ⟨RX7, "landBy", "(III)I"⟩
abbrev cX7_ofGuest : ByteArray := prog_9_method_22_code
def yX7_ofGuest : MethodName := ⟨RX7, "ofGuest", "(II)I"⟩
abbrev cX7_ofDish : ByteArray := prog_9_method_23_code
def yX7_ofDish : MethodName := ⟨RX7, "ofDish", "(II)I"⟩
abbrev cX7_whose : ByteArray := prog_9_method_24_code
def yX7_whose : MethodName := ⟨RX7, "whose", "(I)I"⟩
abbrev cX7_land : ByteArray := prog_9_method_25_code
def yX7_land : MethodName := ⟨RX7, "land", "(I)I"⟩
abbrev cX7_chew : ByteArray := prog_9_method_26_code
def yX7_chew : MethodName := ⟨RX7, "chew", "(II)I"⟩
abbrev cX7_cook : ByteArray := prog_9_method_27_code
def yX7_cook : MethodName := ⟨RX7, "cook", "(I)I"⟩
abbrev cX7_rate : ByteArray := prog_9_method_28_code
def yX7_rate : MethodName := ⟨RX7, "rate", "(II)I"⟩
abbrev cX7_carry : ByteArray := prog_9_method_29_code
def yX7_carry : MethodName := ⟨RX7, "carry", "(II)I"⟩
abbrev cX7_next : ByteArray := prog_9_method_30_code
def yX7_next : MethodName := ⟨RX7, "next", "(II)I"⟩
abbrev cX7_behind : ByteArray := prog_9_method_31_code
def yX7_behind : MethodName := ⟨RX7, "behind", "(II)I"⟩
abbrev cX7_takes : ByteArray := prog_9_method_32_code
def yX7_takes : MethodName := ⟨RX7, "takes", "(II)I"⟩
abbrev cX7_stateNow : ByteArray := prog_9_method_33_code
def yX7_stateNow : MethodName := ⟨RX7, "stateNow", "()I"⟩
abbrev cX7_pass : ByteArray := prog_9_method_34_code
def yX7_pass : MethodName := ⟨RX7, "pass", "(I)I"⟩
abbrev cX7_dinner : ByteArray := prog_9_method_35_code
def yX7_dinner : MethodName := ⟨RX7, "dinner", "(IIIII)I"⟩
abbrev cX7_tellDinner : ByteArray := prog_9_method_36_code
def yX7_tellDinner : MethodName := ⟨RX7, "tellDinner", "(IIII)I"⟩
abbrev cX7_isState : ByteArray := prog_9_method_37_code
def yX7_isState : MethodName := ⟨RX7, "isState", "(I)Z"⟩
abbrev cX7_isGoal : ByteArray := prog_9_method_38_code
def yX7_isGoal : MethodName := ⟨RX7, "isGoal", "(III)Z"⟩
abbrev cX7_costOf : ByteArray := prog_9_method_39_code
def yX7_costOf : MethodName := ⟨RX7, "costOf", "(III)I"⟩
abbrev cX7_findLeft : ByteArray := prog_9_method_40_code
def yX7_findLeft : MethodName := ⟨RX7, "findLeft", "(III)V"⟩
abbrev cX7_firstRequest : ByteArray := prog_9_method_41_code
def yX7_firstRequest : MethodName := ⟨RX7, "firstRequest", "(II)I"⟩
abbrev cX7_requestOf : ByteArray := prog_9_method_42_code
def yX7_requestOf : MethodName := ⟨RX7, "requestOf", "(II)I"⟩
abbrev cX7_ask : ByteArray := prog_9_method_43_code
def yX7_ask : MethodName := ⟨RX7, "ask", "(III)I"⟩
abbrev cX7_treaty : ByteArray := prog_9_method_44_code
def yX7_treaty : MethodName := ⟨RX7, "treaty", "(I)I"⟩
abbrev cX7_behindRow : ByteArray := prog_9_method_45_code
def yX7_behindRow : MethodName := ⟨RX7, "behindRow", "(II)I"⟩
abbrev cX7_findGame : ByteArray := prog_9_method_46_code
def yX7_findGame : MethodName := ⟨RX7, "findGame", "(II)V"⟩
abbrev cX7_bestOf : ByteArray := prog_9_method_47_code
def yX7_bestOf : MethodName := ⟨RX7, "bestOf", "(IZ)I"⟩
abbrev cX7_game : ByteArray := prog_9_method_48_code
def yX7_game : MethodName := ⟨RX7, "game", "(III)I"⟩
abbrev cX7_size : ByteArray := prog_9_method_49_code
def yX7_size : MethodName := ⟨RX7, "size", "(I)I"⟩
abbrev cX7_wetBy : ByteArray := prog_9_method_50_code
def yX7_wetBy : MethodName := ⟨RX7, "wetBy", "(I)I"⟩
abbrev cX7_spilt : ByteArray := prog_9_method_51_code
def yX7_spilt : MethodName := ⟨RX7, "spilt", "(I)I"⟩
abbrev cX7_passAbout : ByteArray := prog_9_method_52_code
def yX7_passAbout : MethodName := ⟨RX7, "passAbout", "(Z)V"⟩
abbrev cX7_beginAbout : ByteArray := prog_9_method_53_code
def yX7_beginAbout : MethodName := ⟨RX7, "beginAbout", "()V"⟩
abbrev cX7_home : ByteArray := prog_9_method_54_code
def yX7_home : MethodName := ⟨RX7, "home", "(I)J"⟩
abbrev cX7_reading : ByteArray := prog_9_method_55_code
def yX7_reading : MethodName := ⟨RX7, "reading", "(II)I"⟩
abbrev cX7_back : ByteArray := prog_9_method_56_code
def yX7_back : MethodName := ⟨RX7, "back", "(I)I"⟩
abbrev cX7_areSo : ByteArray := prog_9_method_57_code
def yX7_areSo : MethodName := ⟨RX7, "areSo", "()Z"⟩
abbrev cX7_mouths : ByteArray := prog_9_method_58_code
def yX7_mouths : MethodName := ⟨RX7, "mouths", "(I)I"⟩
abbrev cX7_kinds : ByteArray := prog_9_method_59_code
def yX7_kinds : MethodName := ⟨RX7, "kinds", "(I)I"⟩
abbrev cX7_soups : ByteArray := prog_9_method_60_code
def yX7_soups : MethodName := ⟨RX7, "soups", "()I"⟩
abbrev cX7_inLeastTerms : ByteArray := prog_9_method_61_code
def yX7_inLeastTerms : MethodName := ⟨RX7, "inLeastTerms", "(JJI)J"⟩
abbrev cX7_odds : ByteArray := prog_9_method_62_code
def yX7_odds : MethodName := ⟨RX7, "odds", "(IIII)J"⟩
abbrev cX7_sheet : ByteArray := prog_9_method_63_code
def yX7_sheet : MethodName := ⟨RX7, "sheet", "(III)I"⟩
abbrev cX7_lose : ByteArray := prog_9_method_64_code
def yX7_lose : MethodName := ⟨RX7, "lose", "(I)I"⟩
abbrev cX7_put : ByteArray := prog_9_method_65_code
def yX7_put : MethodName := ⟨RX7, "put", "(III)I"⟩
abbrev cX7_cell : ByteArray := prog_9_method_66_code
def yX7_cell : MethodName := ⟨RX7, "cell", "(III)J"⟩
abbrev cX7_copy : ByteArray := prog_9_method_67_code
def yX7_copy : MethodName := ⟨RX7, "copy", "(IIIII)I"⟩
abbrev cX7_begins : ByteArray := prog_9_method_68_code
def yX7_begins : MethodName := ⟨RX7, "begins", "(I)V"⟩
abbrev cX7_tell : ByteArray := prog_9_method_69_code
def yX7_tell : MethodName := ⟨RX7, "tell", "(I)I"⟩
abbrev cX7_toast : ByteArray := prog_9_method_70_code
def yX7_toast : MethodName := ⟨RX7, "toast", "(I)I"⟩
abbrev cX7_as : ByteArray := prog_9_method_71_code
def yX7_as : MethodName := ⟨RX7, "as", "(II)I"⟩
abbrev cX7_trace : ByteArray := prog_9_method_72_code
def yX7_trace : MethodName := ⟨RX7, "trace", "()I"⟩
abbrev cX7_fault : ByteArray := prog_9_method_73_code
def yX7_fault : MethodName := ⟨RX7, "fault", "()I"⟩
abbrev cX7_many : ByteArray := prog_9_method_74_code
def yX7_many : MethodName := ⟨RX7, "many", "(I)I"⟩
def RJ6 : String := "java/lang/Integer"
def TJ6 : u_T := fun k => match k with
  | _ => ("", "", "", false)
def tyJ6 : Nat → FieldType := fun k => match k with
  | _ => .int
abbrev wsJ60 : List Cond := u_ws RJ6 TJ6 0
theorem nmJ6 : ∀ a, a < 0 → ∀ b, b < 0 → a ≠ b → (TJ6 a).2.1 ≠ (TJ6 b).2.1 := by decide +kernel
theorem tyJ6_ok : ∀ k, k < 0 → parseFieldDescriptor (TJ6 k).2.2.1 = some (tyJ6 k) := by decide +kernel
abbrev cJ6_bitCount_0f7a4 : ByteArray := prog_10_method_49_code
def yJ6_bitCount_0f7a4 : MethodName := ⟨RJ6, "bitCount", "(I)I"⟩
def RJ9 : String := "java/lang/Math"
def TJ9 : u_T := fun k => match k with
  | _ => ("", "", "", false)
def tyJ9 : Nat → FieldType := fun k => match k with
  | _ => .int
abbrev wsJ90 : List Cond := u_ws RJ9 TJ9 0
theorem nmJ9 : ∀ a, a < 0 → ∀ b, b < 0 → a ≠ b → (TJ9 a).2.1 ≠ (TJ9 b).2.1 := by decide +kernel
theorem tyJ9_ok : ∀ k, k < 0 → parseFieldDescriptor (TJ9 k).2.2.1 = some (tyJ9 k) := by decide +kernel
abbrev cJ9_max_7cf53 : ByteArray := prog_11_method_65_code
def yJ9_max_7cf53 : MethodName := ⟨RJ9, "max", "(II)I"⟩
abbrev cJ9_min_7cf53 : ByteArray := prog_11_method_69_code
def yJ9_min_7cf53 : MethodName := ⟨RJ9, "min", "(II)I"⟩
def RJ10 : String := "java/lang/System"
def TJ10 : u_T := fun k => match k with
  | _ => ("", "", "", false)
def tyJ10 : Nat → FieldType := fun k => match k with
  | _ => .int
abbrev wsJ100 : List Cond := u_ws RJ10 TJ10 0
theorem nmJ10 : ∀ a, a < 0 → ∀ b, b < 0 → a ≠ b → (TJ10 a).2.1 ≠ (TJ10 b).2.1 := by decide +kernel
theorem tyJ10_ok : ∀ k, k < 0 → parseFieldDescriptor (TJ10 k).2.2.1 = some (tyJ10 k) := by decide +kernel
def RJ7 : String := "java/util/Arrays"
def TJ7 : u_T := fun k => match k with
  | _ => ("", "", "", false)
def tyJ7 : Nat → FieldType := fun k => match k with
  | _ => .int
abbrev wsJ70 : List Cond := u_ws RJ7 TJ7 0
theorem nmJ7 : ∀ a, a < 0 → ∀ b, b < 0 → a ≠ b → (TJ7 a).2.1 ≠ (TJ7 b).2.1 := by decide +kernel
theorem tyJ7_ok : ∀ k, k < 0 → parseFieldDescriptor (TJ7 k).2.2.1 = some (tyJ7 k) := by decide +kernel
abbrev cJ7_fill_d0a16 : ByteArray := prog_13_method_101_code
def yJ7_fill_d0a16 : MethodName := ⟨RJ7, "fill", "([JJ)V"⟩
abbrev cJ7_fill_53178 : ByteArray := prog_13_method_103_code
def yJ7_fill_53178 : MethodName := ⟨RJ7, "fill", "([II)V"⟩
def RL : String := "SaltBorderLaw"
abbrev cL_law : ByteArray := code
def yL_law : MethodName := ⟨RL, "law", "([I)Z"⟩
abbrev vwCl : List vw_C := [(RX0, TX0, 3), (RX1, TX1, 2), (RX2, TX2, 2), (RX3, TX3, 4), (RX4, TX4, 13), (RX5, TX5, 4), (RX6, TX6, 9), (RX7, TX7, 34)]
end
section
theorem dX0_init_0 : decode cX0_init 0 = .ok (.aload_n 0, 1) := by decide +kernel
theorem dX0_init_1 : decode cX0_init 1 = .ok (.invokespecial 3, 3) := by decide +kernel
theorem dX0_init_4 : decode cX0_init 4 = .ok (.return_, 1) := by decide +kernel
theorem dX0_serve_0 : decode cX0_serve 0 = .ok (.aload_n 0, 1) := by decide +kernel
theorem dX0_serve_1 : decode cX0_serve 1 = .ok (.aload_n 1, 1) := by decide +kernel
theorem dX0_serve_2 : decode cX0_serve 2 = .ok (.getfield 9, 3) := by decide +kernel
theorem dX0_serve_5 : decode cX0_serve 5 = .ok (.putfield 15, 3) := by decide +kernel
theorem dX0_serve_8 : decode cX0_serve 8 = .ok (.aload_n 0, 1) := by decide +kernel
theorem dX0_serve_9 : decode cX0_serve 9 = .ok (.iconst 0, 1) := by decide +kernel
theorem dX0_serve_10 : decode cX0_serve 10 = .ok (.putfield 18, 3) := by decide +kernel
theorem dX0_serve_13 : decode cX0_serve 13 = .ok (.aload_n 0, 1) := by decide +kernel
theorem dX0_serve_14 : decode cX0_serve 14 = .ok (.bipush (-9), 2) := by decide +kernel
theorem dX0_serve_16 : decode cX0_serve 16 = .ok (.putfield 21, 3) := by decide +kernel
theorem dX0_serve_19 : decode cX0_serve 19 = .ok (.iconst 0, 1) := by decide +kernel
theorem dX0_serve_20 : decode cX0_serve 20 = .ok (.istore 5, 2) := by decide +kernel
theorem dX0_serve_22 : decode cX0_serve 22 = .ok (.iload 5, 2) := by decide +kernel
theorem dX0_serve_24 : decode cX0_serve 24 = .ok (.iload 4, 2) := by decide +kernel
theorem dX0_serve_26 : decode cX0_serve 26 = .ok (.if_icmp .ge 82, 3) := by decide +kernel
theorem dX0_serve_29 : decode cX0_serve 29 = .ok (.aload_n 0, 1) := by decide +kernel
theorem dX0_serve_30 : decode cX0_serve 30 = .ok (.getfield 21, 3) := by decide +kernel
theorem dX0_serve_33 : decode cX0_serve 33 = .ok (.bipush (-9), 2) := by decide +kernel
theorem dX0_serve_35 : decode cX0_serve 35 = .ok (.if_icmp .ne 73, 3) := by decide +kernel
theorem dX0_serve_38 : decode cX0_serve 38 = .ok (.aload_n 1, 1) := by decide +kernel
theorem dX0_serve_39 : decode cX0_serve 39 = .ok (.aload_n 0, 1) := by decide +kernel
theorem dX0_serve_40 : decode cX0_serve 40 = .ok (.getfield 15, 3) := by decide +kernel
theorem dX0_serve_43 : decode cX0_serve 43 = .ok (.aload_n 2, 1) := by decide +kernel
theorem dX0_serve_44 : decode cX0_serve 44 = .ok (.iload_n 3, 1) := by decide +kernel
theorem dX0_serve_45 : decode cX0_serve 45 = .ok (.iload 5, 2) := by decide +kernel
theorem dX0_serve_47 : decode cX0_serve 47 = .ok (.iadd, 1) := by decide +kernel
theorem dX0_serve_48 : decode cX0_serve 48 = .ok (.iaload, 1) := by decide +kernel
theorem dX0_serve_49 : decode cX0_serve 49 = .ok (.invokevirtual 24, 3) := by decide +kernel
theorem dX0_serve_52 : decode cX0_serve 52 = .ok (.istore 6, 2) := by decide +kernel
theorem dX0_serve_54 : decode cX0_serve 54 = .ok (.iload 6, 2) := by decide +kernel
theorem dX0_serve_56 : decode cX0_serve 56 = .ok (.bipush (-9), 2) := by decide +kernel
theorem dX0_serve_58 : decode cX0_serve 58 = .ok (.if_icmp .ne 12, 3) := by decide +kernel
theorem dX0_serve_61 : decode cX0_serve 61 = .ok (.aload_n 0, 1) := by decide +kernel
theorem dX0_serve_62 : decode cX0_serve 62 = .ok (.iload 5, 2) := by decide +kernel
theorem dX0_serve_64 : decode cX0_serve 64 = .ok (.putfield 21, 3) := by decide +kernel
theorem dX0_serve_67 : decode cX0_serve 67 = .ok (.goto 35, 3) := by decide +kernel
theorem dX0_serve_70 : decode cX0_serve 70 = .ok (.aload_n 0, 1) := by decide +kernel
theorem dX0_serve_71 : decode cX0_serve 71 = .ok (.dup, 1) := by decide +kernel
theorem dX0_serve_72 : decode cX0_serve 72 = .ok (.getfield 18, 3) := by decide +kernel
theorem dX0_serve_75 : decode cX0_serve 75 = .ok (.aload_n 1, 1) := by decide +kernel
theorem dX0_serve_76 : decode cX0_serve 76 = .ok (.aload_n 0, 1) := by decide +kernel
theorem dX0_serve_77 : decode cX0_serve 77 = .ok (.getfield 15, 3) := by decide +kernel
theorem dX0_serve_80 : decode cX0_serve 80 = .ok (.aload_n 2, 1) := by decide +kernel
theorem dX0_serve_81 : decode cX0_serve 81 = .ok (.iload_n 3, 1) := by decide +kernel
theorem dX0_serve_82 : decode cX0_serve 82 = .ok (.iload 5, 2) := by decide +kernel
theorem dX0_serve_84 : decode cX0_serve 84 = .ok (.iadd, 1) := by decide +kernel
theorem dX0_serve_85 : decode cX0_serve 85 = .ok (.iaload, 1) := by decide +kernel
theorem dX0_serve_86 : decode cX0_serve 86 = .ok (.invokestatic 28, 3) := by decide +kernel
theorem dX0_serve_89 : decode cX0_serve 89 = .ok (.invokevirtual 31, 3) := by decide +kernel
theorem dX0_serve_92 : decode cX0_serve 92 = .ok (.iadd, 1) := by decide +kernel
theorem dX0_serve_93 : decode cX0_serve 93 = .ok (.putfield 18, 3) := by decide +kernel
theorem dX0_serve_96 : decode cX0_serve 96 = .ok (.aload_n 0, 1) := by decide +kernel
theorem dX0_serve_97 : decode cX0_serve 97 = .ok (.iload 6, 2) := by decide +kernel
theorem dX0_serve_99 : decode cX0_serve 99 = .ok (.putfield 15, 3) := by decide +kernel
theorem dX0_serve_102 : decode cX0_serve 102 = .ok (.iinc 5 1, 3) := by decide +kernel
theorem dX0_serve_105 : decode cX0_serve 105 = .ok (.goto (-83), 3) := by decide +kernel
theorem dX0_serve_108 : decode cX0_serve 108 = .ok (.return_, 1) := by decide +kernel
theorem dX1_init_0 : decode cX1_init 0 = .ok (.aload_n 0, 1) := by decide +kernel
theorem dX1_init_1 : decode cX1_init 1 = .ok (.invokespecial 3, 3) := by decide +kernel
theorem dX1_init_4 : decode cX1_init 4 = .ok (.aload_n 0, 1) := by decide +kernel
theorem dX1_init_5 : decode cX1_init 5 = .ok (.bipush 64, 2) := by decide +kernel
theorem dX1_init_7 : decode cX1_init 7 = .ok (.newarray .int, 2) := by decide +kernel
theorem dX1_init_9 : decode cX1_init 9 = .ok (.putfield 9, 3) := by decide +kernel
theorem dX1_init_12 : decode cX1_init 12 = .ok (.aload_n 0, 1) := by decide +kernel
theorem dX1_init_13 : decode cX1_init 13 = .ok (.bipush 8, 2) := by decide +kernel
theorem dX1_init_15 : decode cX1_init 15 = .ok (.newarray .int, 2) := by decide +kernel
theorem dX1_init_17 : decode cX1_init 17 = .ok (.putfield 15, 3) := by decide +kernel
theorem dX1_init_20 : decode cX1_init 20 = .ok (.return_, 1) := by decide +kernel
theorem dX1_planForDish_0 : decode cX1_planForDish 0 = .ok (.aload_n 0, 1) := by decide +kernel
theorem dX1_planForDish_1 : decode cX1_planForDish 1 = .ok (.aload_n 1, 1) := by decide +kernel
theorem dX1_planForDish_2 : decode cX1_planForDish 2 = .ok (.sipush 1000, 3) := by decide +kernel
theorem dX1_planForDish_5 : decode cX1_planForDish 5 = .ok (.invokevirtual 18, 3) := by decide +kernel
theorem dX1_planForDish_8 : decode cX1_planForDish 8 = .ok (.iconst 0, 1) := by decide +kernel
theorem dX1_planForDish_9 : decode cX1_planForDish 9 = .ok (.istore 4, 2) := by decide +kernel
theorem dX1_planForDish_11 : decode cX1_planForDish 11 = .ok (.iload 4, 2) := by decide +kernel
theorem dX1_planForDish_13 : decode cX1_planForDish 13 = .ok (.bipush 64, 2) := by decide +kernel
theorem dX1_planForDish_15 : decode cX1_planForDish 15 = .ok (.if_icmp .ge 42, 3) := by decide +kernel
theorem dX1_planForDish_18 : decode cX1_planForDish 18 = .ok (.aload_n 0, 1) := by decide +kernel
theorem dX1_planForDish_19 : decode cX1_planForDish 19 = .ok (.getfield 9, 3) := by decide +kernel
theorem dX1_planForDish_22 : decode cX1_planForDish 22 = .ok (.iload 4, 2) := by decide +kernel
theorem dX1_planForDish_24 : decode cX1_planForDish 24 = .ok (.aload_n 1, 1) := by decide +kernel
theorem dX1_planForDish_25 : decode cX1_planForDish 25 = .ok (.iload 4, 2) := by decide +kernel
theorem dX1_planForDish_27 : decode cX1_planForDish 27 = .ok (.invokevirtual 22, 3) := by decide +kernel
theorem dX1_planForDish_30 : decode cX1_planForDish 30 = .ok (.ifCond .eq 18, 3) := by decide +kernel
theorem dX1_planForDish_33 : decode cX1_planForDish 33 = .ok (.aload_n 1, 1) := by decide +kernel
theorem dX1_planForDish_34 : decode cX1_planForDish 34 = .ok (.iload_n 2, 1) := by decide +kernel
theorem dX1_planForDish_35 : decode cX1_planForDish 35 = .ok (.iload 4, 2) := by decide +kernel
theorem dX1_planForDish_37 : decode cX1_planForDish 37 = .ok (.invokevirtual 28, 3) := by decide +kernel
theorem dX1_planForDish_40 : decode cX1_planForDish 40 = .ok (.iload_n 3, 1) := by decide +kernel
theorem dX1_planForDish_41 : decode cX1_planForDish 41 = .ok (.if_icmp .ne 7, 3) := by decide +kernel
theorem dX1_planForDish_44 : decode cX1_planForDish 44 = .ok (.iconst 0, 1) := by decide +kernel
theorem dX1_planForDish_45 : decode cX1_planForDish 45 = .ok (.goto 5, 3) := by decide +kernel
theorem dX1_planForDish_48 : decode cX1_planForDish 48 = .ok (.ldc 32, 2) := by decide +kernel
theorem dX1_planForDish_50 : decode cX1_planForDish 50 = .ok (.iastore, 1) := by decide +kernel
theorem dX1_planForDish_51 : decode cX1_planForDish 51 = .ok (.iinc 4 1, 3) := by decide +kernel
theorem dX1_planForDish_54 : decode cX1_planForDish 54 = .ok (.goto (-43), 3) := by decide +kernel
theorem dX1_planForDish_57 : decode cX1_planForDish 57 = .ok (.aload_n 0, 1) := by decide +kernel
theorem dX1_planForDish_58 : decode cX1_planForDish 58 = .ok (.aload_n 1, 1) := by decide +kernel
theorem dX1_planForDish_59 : decode cX1_planForDish 59 = .ok (.invokevirtual 33, 3) := by decide +kernel
theorem dX1_planForDish_62 : decode cX1_planForDish 62 = .ok (.return_, 1) := by decide +kernel
theorem dX1_planForTreaty_0 : decode cX1_planForTreaty 0 = .ok (.aload_n 0, 1) := by decide +kernel
theorem dX1_planForTreaty_1 : decode cX1_planForTreaty 1 = .ok (.aload_n 1, 1) := by decide +kernel
theorem dX1_planForTreaty_2 : decode cX1_planForTreaty 2 = .ok (.iconst 0, 1) := by decide +kernel
theorem dX1_planForTreaty_3 : decode cX1_planForTreaty 3 = .ok (.invokevirtual 18, 3) := by decide +kernel
theorem dX1_planForTreaty_6 : decode cX1_planForTreaty 6 = .ok (.iconst 0, 1) := by decide +kernel
theorem dX1_planForTreaty_7 : decode cX1_planForTreaty 7 = .ok (.istore_n 2, 1) := by decide +kernel
theorem dX1_planForTreaty_8 : decode cX1_planForTreaty 8 = .ok (.iload_n 2, 1) := by decide +kernel
theorem dX1_planForTreaty_9 : decode cX1_planForTreaty 9 = .ok (.bipush 64, 2) := by decide +kernel
theorem dX1_planForTreaty_11 : decode cX1_planForTreaty 11 = .ok (.if_icmp .ge 44, 3) := by decide +kernel
theorem dX1_planForTreaty_14 : decode cX1_planForTreaty 14 = .ok (.aload_n 0, 1) := by decide +kernel
theorem dX1_planForTreaty_15 : decode cX1_planForTreaty 15 = .ok (.getfield 9, 3) := by decide +kernel
theorem dX1_planForTreaty_18 : decode cX1_planForTreaty 18 = .ok (.iload_n 2, 1) := by decide +kernel
theorem dX1_planForTreaty_19 : decode cX1_planForTreaty 19 = .ok (.aload_n 1, 1) := by decide +kernel
theorem dX1_planForTreaty_20 : decode cX1_planForTreaty 20 = .ok (.iload_n 2, 1) := by decide +kernel
theorem dX1_planForTreaty_21 : decode cX1_planForTreaty 21 = .ok (.invokevirtual 22, 3) := by decide +kernel
theorem dX1_planForTreaty_24 : decode cX1_planForTreaty 24 = .ok (.ifCond .eq 22, 3) := by decide +kernel
theorem dX1_planForTreaty_27 : decode cX1_planForTreaty 27 = .ok (.aload_n 1, 1) := by decide +kernel
theorem dX1_planForTreaty_28 : decode cX1_planForTreaty 28 = .ok (.iconst 0, 1) := by decide +kernel
theorem dX1_planForTreaty_29 : decode cX1_planForTreaty 29 = .ok (.iload_n 2, 1) := by decide +kernel
theorem dX1_planForTreaty_30 : decode cX1_planForTreaty 30 = .ok (.invokevirtual 37, 3) := by decide +kernel
theorem dX1_planForTreaty_33 : decode cX1_planForTreaty 33 = .ok (.aload_n 1, 1) := by decide +kernel
theorem dX1_planForTreaty_34 : decode cX1_planForTreaty 34 = .ok (.iconst 1, 1) := by decide +kernel
theorem dX1_planForTreaty_35 : decode cX1_planForTreaty 35 = .ok (.iload_n 2, 1) := by decide +kernel
theorem dX1_planForTreaty_36 : decode cX1_planForTreaty 36 = .ok (.invokevirtual 37, 3) := by decide +kernel
theorem dX1_planForTreaty_39 : decode cX1_planForTreaty 39 = .ok (.if_icmp .ne 7, 3) := by decide +kernel
theorem dX1_planForTreaty_42 : decode cX1_planForTreaty 42 = .ok (.iconst 0, 1) := by decide +kernel
theorem dX1_planForTreaty_43 : decode cX1_planForTreaty 43 = .ok (.goto 5, 3) := by decide +kernel
theorem dX1_planForTreaty_46 : decode cX1_planForTreaty 46 = .ok (.ldc 32, 2) := by decide +kernel
theorem dX1_planForTreaty_48 : decode cX1_planForTreaty 48 = .ok (.iastore, 1) := by decide +kernel
theorem dX1_planForTreaty_49 : decode cX1_planForTreaty 49 = .ok (.iinc 2 1, 3) := by decide +kernel
theorem dX1_planForTreaty_52 : decode cX1_planForTreaty 52 = .ok (.goto (-44), 3) := by decide +kernel
theorem dX1_planForTreaty_55 : decode cX1_planForTreaty 55 = .ok (.aload_n 0, 1) := by decide +kernel
theorem dX1_planForTreaty_56 : decode cX1_planForTreaty 56 = .ok (.aload_n 1, 1) := by decide +kernel
theorem dX1_planForTreaty_57 : decode cX1_planForTreaty 57 = .ok (.invokevirtual 33, 3) := by decide +kernel
theorem dX1_planForTreaty_60 : decode cX1_planForTreaty 60 = .ok (.return_, 1) := by decide +kernel
theorem dX1_weigh_0 : decode cX1_weigh 0 = .ok (.iconst 0, 1) := by decide +kernel
theorem dX1_weigh_1 : decode cX1_weigh 1 = .ok (.istore_n 3, 1) := by decide +kernel
theorem dX1_weigh_2 : decode cX1_weigh 2 = .ok (.iload_n 3, 1) := by decide +kernel
theorem dX1_weigh_3 : decode cX1_weigh 3 = .ok (.aload_n 1, 1) := by decide +kernel
theorem dX1_weigh_4 : decode cX1_weigh 4 = .ok (.getfield 40, 3) := by decide +kernel
theorem dX1_weigh_7 : decode cX1_weigh 7 = .ok (.if_icmp .ge 24, 3) := by decide +kernel
theorem dX1_weigh_10 : decode cX1_weigh 10 = .ok (.aload_n 0, 1) := by decide +kernel
theorem dX1_weigh_11 : decode cX1_weigh 11 = .ok (.getfield 15, 3) := by decide +kernel
theorem dX1_weigh_14 : decode cX1_weigh 14 = .ok (.iload_n 3, 1) := by decide +kernel
theorem dX1_weigh_15 : decode cX1_weigh 15 = .ok (.iload_n 2, 1) := by decide +kernel
theorem dX1_weigh_16 : decode cX1_weigh 16 = .ok (.aload_n 1, 1) := by decide +kernel
theorem dX1_weigh_17 : decode cX1_weigh 17 = .ok (.iload_n 3, 1) := by decide +kernel
theorem dX1_weigh_18 : decode cX1_weigh 18 = .ok (.invokevirtual 44, 3) := by decide +kernel
theorem dX1_weigh_21 : decode cX1_weigh 21 = .ok (.imul, 1) := by decide +kernel
theorem dX1_weigh_22 : decode cX1_weigh 22 = .ok (.iconst 1, 1) := by decide +kernel
theorem dX1_weigh_23 : decode cX1_weigh 23 = .ok (.iadd, 1) := by decide +kernel
theorem dX1_weigh_24 : decode cX1_weigh 24 = .ok (.iastore, 1) := by decide +kernel
theorem dX1_weigh_25 : decode cX1_weigh 25 = .ok (.iinc 3 1, 3) := by decide +kernel
theorem dX1_weigh_28 : decode cX1_weigh 28 = .ok (.goto (-26), 3) := by decide +kernel
theorem dX1_weigh_31 : decode cX1_weigh 31 = .ok (.return_, 1) := by decide +kernel
theorem dX1_spread_0 : decode cX1_spread 0 = .ok (.iconst 1, 1) := by decide +kernel
theorem dX1_spread_1 : decode cX1_spread 1 = .ok (.istore_n 2, 1) := by decide +kernel
theorem dX1_spread_2 : decode cX1_spread 2 = .ok (.iconst 0, 1) := by decide +kernel
theorem dX1_spread_3 : decode cX1_spread 3 = .ok (.istore_n 3, 1) := by decide +kernel
theorem dX1_spread_4 : decode cX1_spread 4 = .ok (.iload_n 3, 1) := by decide +kernel
theorem dX1_spread_5 : decode cX1_spread 5 = .ok (.bipush 64, 2) := by decide +kernel
theorem dX1_spread_7 : decode cX1_spread 7 = .ok (.if_icmp .ge 19, 3) := by decide +kernel
theorem dX1_spread_10 : decode cX1_spread 10 = .ok (.iload_n 2, 1) := by decide +kernel
theorem dX1_spread_11 : decode cX1_spread 11 = .ok (.ifCond .eq 15, 3) := by decide +kernel
theorem dX1_spread_14 : decode cX1_spread 14 = .ok (.aload_n 0, 1) := by decide +kernel
theorem dX1_spread_15 : decode cX1_spread 15 = .ok (.aload_n 1, 1) := by decide +kernel
theorem dX1_spread_16 : decode cX1_spread 16 = .ok (.invokevirtual 48, 3) := by decide +kernel
theorem dX1_spread_19 : decode cX1_spread 19 = .ok (.istore_n 2, 1) := by decide +kernel
theorem dX1_spread_20 : decode cX1_spread 20 = .ok (.iinc 3 1, 3) := by decide +kernel
theorem dX1_spread_23 : decode cX1_spread 23 = .ok (.goto (-19), 3) := by decide +kernel
theorem dX1_spread_26 : decode cX1_spread 26 = .ok (.return_, 1) := by decide +kernel
theorem dX1_sweepOnce_0 : decode cX1_sweepOnce 0 = .ok (.iconst 0, 1) := by decide +kernel
theorem dX1_sweepOnce_1 : decode cX1_sweepOnce 1 = .ok (.istore_n 2, 1) := by decide +kernel
theorem dX1_sweepOnce_2 : decode cX1_sweepOnce 2 = .ok (.iconst 0, 1) := by decide +kernel
theorem dX1_sweepOnce_3 : decode cX1_sweepOnce 3 = .ok (.istore_n 3, 1) := by decide +kernel
theorem dX1_sweepOnce_4 : decode cX1_sweepOnce 4 = .ok (.iload_n 3, 1) := by decide +kernel
theorem dX1_sweepOnce_5 : decode cX1_sweepOnce 5 = .ok (.bipush 64, 2) := by decide +kernel
theorem dX1_sweepOnce_7 : decode cX1_sweepOnce 7 = .ok (.if_icmp .ge 75, 3) := by decide +kernel
theorem dX1_sweepOnce_10 : decode cX1_sweepOnce 10 = .ok (.aload_n 0, 1) := by decide +kernel
theorem dX1_sweepOnce_11 : decode cX1_sweepOnce 11 = .ok (.getfield 9, 3) := by decide +kernel
theorem dX1_sweepOnce_14 : decode cX1_sweepOnce 14 = .ok (.iload_n 3, 1) := by decide +kernel
theorem dX1_sweepOnce_15 : decode cX1_sweepOnce 15 = .ok (.iaload, 1) := by decide +kernel
theorem dX1_sweepOnce_16 : decode cX1_sweepOnce 16 = .ok (.ifCond .eq 60, 3) := by decide +kernel
theorem dX1_sweepOnce_19 : decode cX1_sweepOnce 19 = .ok (.aload_n 1, 1) := by decide +kernel
theorem dX1_sweepOnce_20 : decode cX1_sweepOnce 20 = .ok (.iload_n 3, 1) := by decide +kernel
theorem dX1_sweepOnce_21 : decode cX1_sweepOnce 21 = .ok (.invokevirtual 22, 3) := by decide +kernel
theorem dX1_sweepOnce_24 : decode cX1_sweepOnce 24 = .ok (.ifCond .ne 6, 3) := by decide +kernel
theorem dX1_sweepOnce_27 : decode cX1_sweepOnce 27 = .ok (.goto 49, 3) := by decide +kernel
theorem dX1_sweepOnce_30 : decode cX1_sweepOnce 30 = .ok (.iconst 0, 1) := by decide +kernel
theorem dX1_sweepOnce_31 : decode cX1_sweepOnce 31 = .ok (.istore 4, 2) := by decide +kernel
theorem dX1_sweepOnce_33 : decode cX1_sweepOnce 33 = .ok (.iload 4, 2) := by decide +kernel
theorem dX1_sweepOnce_35 : decode cX1_sweepOnce 35 = .ok (.iconst 4, 1) := by decide +kernel
theorem dX1_sweepOnce_36 : decode cX1_sweepOnce 36 = .ok (.if_icmp .ge 40, 3) := by decide +kernel
theorem dX1_sweepOnce_39 : decode cX1_sweepOnce 39 = .ok (.aload_n 0, 1) := by decide +kernel
theorem dX1_sweepOnce_40 : decode cX1_sweepOnce 40 = .ok (.aload_n 1, 1) := by decide +kernel
theorem dX1_sweepOnce_41 : decode cX1_sweepOnce 41 = .ok (.iload_n 3, 1) := by decide +kernel
theorem dX1_sweepOnce_42 : decode cX1_sweepOnce 42 = .ok (.iload 4, 2) := by decide +kernel
theorem dX1_sweepOnce_44 : decode cX1_sweepOnce 44 = .ok (.invokevirtual 52, 3) := by decide +kernel
theorem dX1_sweepOnce_47 : decode cX1_sweepOnce 47 = .ok (.istore 5, 2) := by decide +kernel
theorem dX1_sweepOnce_49 : decode cX1_sweepOnce 49 = .ok (.iload 5, 2) := by decide +kernel
theorem dX1_sweepOnce_51 : decode cX1_sweepOnce 51 = .ok (.aload_n 0, 1) := by decide +kernel
theorem dX1_sweepOnce_52 : decode cX1_sweepOnce 52 = .ok (.getfield 9, 3) := by decide +kernel
theorem dX1_sweepOnce_55 : decode cX1_sweepOnce 55 = .ok (.iload_n 3, 1) := by decide +kernel
theorem dX1_sweepOnce_56 : decode cX1_sweepOnce 56 = .ok (.iaload, 1) := by decide +kernel
theorem dX1_sweepOnce_57 : decode cX1_sweepOnce 57 = .ok (.if_icmp .ge 13, 3) := by decide +kernel
theorem dX1_sweepOnce_60 : decode cX1_sweepOnce 60 = .ok (.aload_n 0, 1) := by decide +kernel
theorem dX1_sweepOnce_61 : decode cX1_sweepOnce 61 = .ok (.getfield 9, 3) := by decide +kernel
theorem dX1_sweepOnce_64 : decode cX1_sweepOnce 64 = .ok (.iload_n 3, 1) := by decide +kernel
theorem dX1_sweepOnce_65 : decode cX1_sweepOnce 65 = .ok (.iload 5, 2) := by decide +kernel
theorem dX1_sweepOnce_67 : decode cX1_sweepOnce 67 = .ok (.iastore, 1) := by decide +kernel
theorem dX1_sweepOnce_68 : decode cX1_sweepOnce 68 = .ok (.iconst 1, 1) := by decide +kernel
theorem dX1_sweepOnce_69 : decode cX1_sweepOnce 69 = .ok (.istore_n 2, 1) := by decide +kernel
theorem dX1_sweepOnce_70 : decode cX1_sweepOnce 70 = .ok (.iinc 4 1, 3) := by decide +kernel
theorem dX1_sweepOnce_73 : decode cX1_sweepOnce 73 = .ok (.goto (-40), 3) := by decide +kernel
theorem dX1_sweepOnce_76 : decode cX1_sweepOnce 76 = .ok (.iinc 3 1, 3) := by decide +kernel
theorem dX1_sweepOnce_79 : decode cX1_sweepOnce 79 = .ok (.goto (-75), 3) := by decide +kernel
theorem dX1_sweepOnce_82 : decode cX1_sweepOnce 82 = .ok (.iload_n 2, 1) := by decide +kernel
theorem dX1_sweepOnce_83 : decode cX1_sweepOnce 83 = .ok (.ireturn, 1) := by decide +kernel
theorem dX1_leftBy_0 : decode cX1_leftBy 0 = .ok (.aload_n 1, 1) := by decide +kernel
theorem dX1_leftBy_1 : decode cX1_leftBy 1 = .ok (.iload_n 2, 1) := by decide +kernel
theorem dX1_leftBy_2 : decode cX1_leftBy 2 = .ok (.iload_n 3, 1) := by decide +kernel
theorem dX1_leftBy_3 : decode cX1_leftBy 3 = .ok (.invokevirtual 56, 3) := by decide +kernel
theorem dX1_leftBy_6 : decode cX1_leftBy 6 = .ok (.istore 4, 2) := by decide +kernel
theorem dX1_leftBy_8 : decode cX1_leftBy 8 = .ok (.iload 4, 2) := by decide +kernel
theorem dX1_leftBy_10 : decode cX1_leftBy 10 = .ok (.bipush (-9), 2) := by decide +kernel
theorem dX1_leftBy_12 : decode cX1_leftBy 12 = .ok (.if_icmp .eq 15, 3) := by decide +kernel
theorem dX1_leftBy_15 : decode cX1_leftBy 15 = .ok (.aload_n 0, 1) := by decide +kernel
theorem dX1_leftBy_16 : decode cX1_leftBy 16 = .ok (.getfield 9, 3) := by decide +kernel
theorem dX1_leftBy_19 : decode cX1_leftBy 19 = .ok (.iload 4, 2) := by decide +kernel
theorem dX1_leftBy_21 : decode cX1_leftBy 21 = .ok (.iaload, 1) := by decide +kernel
theorem dX1_leftBy_22 : decode cX1_leftBy 22 = .ok (.ldc 32, 2) := by decide +kernel
theorem dX1_leftBy_24 : decode cX1_leftBy 24 = .ok (.if_icmp .ne 6, 3) := by decide +kernel
theorem dX1_leftBy_27 : decode cX1_leftBy 27 = .ok (.ldc 32, 2) := by decide +kernel
theorem dX1_leftBy_29 : decode cX1_leftBy 29 = .ok (.ireturn, 1) := by decide +kernel
theorem dX1_leftBy_30 : decode cX1_leftBy 30 = .ok (.aload_n 0, 1) := by decide +kernel
theorem dX1_leftBy_31 : decode cX1_leftBy 31 = .ok (.getfield 9, 3) := by decide +kernel
theorem dX1_leftBy_34 : decode cX1_leftBy 34 = .ok (.iload 4, 2) := by decide +kernel
theorem dX1_leftBy_36 : decode cX1_leftBy 36 = .ok (.iaload, 1) := by decide +kernel
theorem dX1_leftBy_37 : decode cX1_leftBy 37 = .ok (.aload_n 0, 1) := by decide +kernel
theorem dX1_leftBy_38 : decode cX1_leftBy 38 = .ok (.getfield 15, 3) := by decide +kernel
theorem dX1_leftBy_41 : decode cX1_leftBy 41 = .ok (.iload_n 2, 1) := by decide +kernel
theorem dX1_leftBy_42 : decode cX1_leftBy 42 = .ok (.iload_n 3, 1) := by decide +kernel
theorem dX1_leftBy_43 : decode cX1_leftBy 43 = .ok (.invokestatic 59, 3) := by decide +kernel
theorem dX1_leftBy_46 : decode cX1_leftBy 46 = .ok (.iaload, 1) := by decide +kernel
theorem dX1_leftBy_47 : decode cX1_leftBy 47 = .ok (.iadd, 1) := by decide +kernel
theorem dX1_leftBy_48 : decode cX1_leftBy 48 = .ok (.ireturn, 1) := by decide +kernel
theorem dX1_minutes_0 : decode cX1_minutes 0 = .ok (.aload_n 0, 1) := by decide +kernel
theorem dX1_minutes_1 : decode cX1_minutes 1 = .ok (.getfield 9, 3) := by decide +kernel
theorem dX1_minutes_4 : decode cX1_minutes 4 = .ok (.aload_n 1, 1) := by decide +kernel
theorem dX1_minutes_5 : decode cX1_minutes 5 = .ok (.getfield 62, 3) := by decide +kernel
theorem dX1_minutes_8 : decode cX1_minutes 8 = .ok (.iaload, 1) := by decide +kernel
theorem dX1_minutes_9 : decode cX1_minutes 9 = .ok (.istore_n 2, 1) := by decide +kernel
theorem dX1_minutes_10 : decode cX1_minutes 10 = .ok (.iload_n 2, 1) := by decide +kernel
theorem dX1_minutes_11 : decode cX1_minutes 11 = .ok (.ldc 32, 2) := by decide +kernel
theorem dX1_minutes_13 : decode cX1_minutes 13 = .ok (.if_icmp .ne 8, 3) := by decide +kernel
theorem dX1_minutes_16 : decode cX1_minutes 16 = .ok (.bipush (-9), 2) := by decide +kernel
theorem dX1_minutes_18 : decode cX1_minutes 18 = .ok (.goto 8, 3) := by decide +kernel
theorem dX1_minutes_21 : decode cX1_minutes 21 = .ok (.iload_n 2, 1) := by decide +kernel
theorem dX1_minutes_22 : decode cX1_minutes 22 = .ok (.sipush 1000, 3) := by decide +kernel
theorem dX1_minutes_25 : decode cX1_minutes 25 = .ok (.idiv, 1) := by decide +kernel
theorem dX1_minutes_26 : decode cX1_minutes 26 = .ok (.ireturn, 1) := by decide +kernel
theorem dX1_requests_0 : decode cX1_requests 0 = .ok (.aload_n 0, 1) := by decide +kernel
theorem dX1_requests_1 : decode cX1_requests 1 = .ok (.getfield 9, 3) := by decide +kernel
theorem dX1_requests_4 : decode cX1_requests 4 = .ok (.aload_n 1, 1) := by decide +kernel
theorem dX1_requests_5 : decode cX1_requests 5 = .ok (.getfield 62, 3) := by decide +kernel
theorem dX1_requests_8 : decode cX1_requests 8 = .ok (.iaload, 1) := by decide +kernel
theorem dX1_requests_9 : decode cX1_requests 9 = .ok (.istore_n 2, 1) := by decide +kernel
theorem dX1_requests_10 : decode cX1_requests 10 = .ok (.iload_n 2, 1) := by decide +kernel
theorem dX1_requests_11 : decode cX1_requests 11 = .ok (.ldc 32, 2) := by decide +kernel
theorem dX1_requests_13 : decode cX1_requests 13 = .ok (.if_icmp .ne 8, 3) := by decide +kernel
theorem dX1_requests_16 : decode cX1_requests 16 = .ok (.bipush (-9), 2) := by decide +kernel
theorem dX1_requests_18 : decode cX1_requests 18 = .ok (.goto 8, 3) := by decide +kernel
theorem dX1_requests_21 : decode cX1_requests 21 = .ok (.iload_n 2, 1) := by decide +kernel
theorem dX1_requests_22 : decode cX1_requests 22 = .ok (.sipush 1000, 3) := by decide +kernel
theorem dX1_requests_25 : decode cX1_requests 25 = .ok (.irem, 1) := by decide +kernel
theorem dX1_requests_26 : decode cX1_requests 26 = .ok (.ireturn, 1) := by decide +kernel
theorem dX1_requestAt_0 : decode cX1_requestAt 0 = .ok (.iload_n 2, 1) := by decide +kernel
theorem dX1_requestAt_1 : decode cX1_requestAt 1 = .ok (.aload_n 0, 1) := by decide +kernel
theorem dX1_requestAt_2 : decode cX1_requestAt 2 = .ok (.aload_n 1, 1) := by decide +kernel
theorem dX1_requestAt_3 : decode cX1_requestAt 3 = .ok (.invokevirtual 65, 3) := by decide +kernel
theorem dX1_requestAt_6 : decode cX1_requestAt 6 = .ok (.if_icmp .lt 6, 3) := by decide +kernel
theorem dX1_requestAt_9 : decode cX1_requestAt 9 = .ok (.bipush (-9), 2) := by decide +kernel
theorem dX1_requestAt_11 : decode cX1_requestAt 11 = .ok (.ireturn, 1) := by decide +kernel
theorem dX1_requestAt_12 : decode cX1_requestAt 12 = .ok (.aload_n 1, 1) := by decide +kernel
theorem dX1_requestAt_13 : decode cX1_requestAt 13 = .ok (.getfield 62, 3) := by decide +kernel
theorem dX1_requestAt_16 : decode cX1_requestAt 16 = .ok (.istore_n 3, 1) := by decide +kernel
theorem dX1_requestAt_17 : decode cX1_requestAt 17 = .ok (.iconst 0, 1) := by decide +kernel
theorem dX1_requestAt_18 : decode cX1_requestAt 18 = .ok (.istore 4, 2) := by decide +kernel
theorem dX1_requestAt_20 : decode cX1_requestAt 20 = .ok (.iload 4, 2) := by decide +kernel
theorem dX1_requestAt_22 : decode cX1_requestAt 22 = .ok (.iload_n 2, 1) := by decide +kernel
theorem dX1_requestAt_23 : decode cX1_requestAt 23 = .ok (.if_icmp .ge 27, 3) := by decide +kernel
theorem dX1_requestAt_26 : decode cX1_requestAt 26 = .ok (.iload_n 3, 1) := by decide +kernel
theorem dX1_requestAt_27 : decode cX1_requestAt 27 = .ok (.bipush (-9), 2) := by decide +kernel
theorem dX1_requestAt_29 : decode cX1_requestAt 29 = .ok (.if_icmp .eq 21, 3) := by decide +kernel
theorem dX1_requestAt_32 : decode cX1_requestAt 32 = .ok (.aload_n 1, 1) := by decide +kernel
theorem dX1_requestAt_33 : decode cX1_requestAt 33 = .ok (.iload_n 3, 1) := by decide +kernel
theorem dX1_requestAt_34 : decode cX1_requestAt 34 = .ok (.aload_n 0, 1) := by decide +kernel
theorem dX1_requestAt_35 : decode cX1_requestAt 35 = .ok (.aload_n 1, 1) := by decide +kernel
theorem dX1_requestAt_36 : decode cX1_requestAt 36 = .ok (.iload_n 3, 1) := by decide +kernel
theorem dX1_requestAt_37 : decode cX1_requestAt 37 = .ok (.invokevirtual 69, 3) := by decide +kernel
theorem dX1_requestAt_40 : decode cX1_requestAt 40 = .ok (.invokevirtual 56, 3) := by decide +kernel
theorem dX1_requestAt_43 : decode cX1_requestAt 43 = .ok (.istore_n 3, 1) := by decide +kernel
theorem dX1_requestAt_44 : decode cX1_requestAt 44 = .ok (.iinc 4 1, 3) := by decide +kernel
theorem dX1_requestAt_47 : decode cX1_requestAt 47 = .ok (.goto (-27), 3) := by decide +kernel
theorem dX1_requestAt_50 : decode cX1_requestAt 50 = .ok (.iload_n 3, 1) := by decide +kernel
theorem dX1_requestAt_51 : decode cX1_requestAt 51 = .ok (.bipush (-9), 2) := by decide +kernel
theorem dX1_requestAt_53 : decode cX1_requestAt 53 = .ok (.if_icmp .ne 8, 3) := by decide +kernel
theorem dX1_requestAt_56 : decode cX1_requestAt 56 = .ok (.bipush (-9), 2) := by decide +kernel
theorem dX1_requestAt_58 : decode cX1_requestAt 58 = .ok (.goto 9, 3) := by decide +kernel
theorem dX1_requestAt_61 : decode cX1_requestAt 61 = .ok (.aload_n 0, 1) := by decide +kernel
theorem dX1_requestAt_62 : decode cX1_requestAt 62 = .ok (.aload_n 1, 1) := by decide +kernel
theorem dX1_requestAt_63 : decode cX1_requestAt 63 = .ok (.iload_n 3, 1) := by decide +kernel
theorem dX1_requestAt_64 : decode cX1_requestAt 64 = .ok (.invokevirtual 69, 3) := by decide +kernel
theorem dX1_requestAt_67 : decode cX1_requestAt 67 = .ok (.ireturn, 1) := by decide +kernel
theorem dX1_firstBest_0 : decode cX1_firstBest 0 = .ok (.iconst 0, 1) := by decide +kernel
theorem dX1_firstBest_1 : decode cX1_firstBest 1 = .ok (.istore_n 3, 1) := by decide +kernel
theorem dX1_firstBest_2 : decode cX1_firstBest 2 = .ok (.iload_n 3, 1) := by decide +kernel
theorem dX1_firstBest_3 : decode cX1_firstBest 3 = .ok (.iconst 3, 1) := by decide +kernel
theorem dX1_firstBest_4 : decode cX1_firstBest 4 = .ok (.if_icmp .ge 25, 3) := by decide +kernel
theorem dX1_firstBest_7 : decode cX1_firstBest 7 = .ok (.aload_n 0, 1) := by decide +kernel
theorem dX1_firstBest_8 : decode cX1_firstBest 8 = .ok (.aload_n 1, 1) := by decide +kernel
theorem dX1_firstBest_9 : decode cX1_firstBest 9 = .ok (.iload_n 2, 1) := by decide +kernel
theorem dX1_firstBest_10 : decode cX1_firstBest 10 = .ok (.iload_n 3, 1) := by decide +kernel
theorem dX1_firstBest_11 : decode cX1_firstBest 11 = .ok (.invokevirtual 52, 3) := by decide +kernel
theorem dX1_firstBest_14 : decode cX1_firstBest 14 = .ok (.aload_n 0, 1) := by decide +kernel
theorem dX1_firstBest_15 : decode cX1_firstBest 15 = .ok (.getfield 9, 3) := by decide +kernel
theorem dX1_firstBest_18 : decode cX1_firstBest 18 = .ok (.iload_n 2, 1) := by decide +kernel
theorem dX1_firstBest_19 : decode cX1_firstBest 19 = .ok (.iaload, 1) := by decide +kernel
theorem dX1_firstBest_20 : decode cX1_firstBest 20 = .ok (.if_icmp .eq 9, 3) := by decide +kernel
theorem dX1_firstBest_23 : decode cX1_firstBest 23 = .ok (.iinc 3 1, 3) := by decide +kernel
theorem dX1_firstBest_26 : decode cX1_firstBest 26 = .ok (.goto (-24), 3) := by decide +kernel
theorem dX1_firstBest_29 : decode cX1_firstBest 29 = .ok (.iload_n 3, 1) := by decide +kernel
theorem dX1_firstBest_30 : decode cX1_firstBest 30 = .ok (.ireturn, 1) := by decide +kernel
theorem dX2_init_0 : decode cX2_init 0 = .ok (.aload_n 0, 1) := by decide +kernel
theorem dX2_init_1 : decode cX2_init 1 = .ok (.invokespecial 3, 3) := by decide +kernel
theorem dX2_init_4 : decode cX2_init 4 = .ok (.aload_n 0, 1) := by decide +kernel
theorem dX2_init_5 : decode cX2_init 5 = .ok (.bipush 8, 2) := by decide +kernel
theorem dX2_init_7 : decode cX2_init 7 = .ok (.newarray .long, 2) := by decide +kernel
theorem dX2_init_9 : decode cX2_init 9 = .ok (.putfield 9, 3) := by decide +kernel
theorem dX2_init_12 : decode cX2_init 12 = .ok (.aload_n 0, 1) := by decide +kernel
theorem dX2_init_13 : decode cX2_init 13 = .ok (.bipush 8, 2) := by decide +kernel
theorem dX2_init_15 : decode cX2_init 15 = .ok (.newarray .long, 2) := by decide +kernel
theorem dX2_init_17 : decode cX2_init 17 = .ok (.putfield 15, 3) := by decide +kernel
theorem dX2_init_20 : decode cX2_init 20 = .ok (.return_, 1) := by decide +kernel
theorem dX2_go_0 : decode cX2_go 0 = .ok (.aload_n 0, 1) := by decide +kernel
theorem dX2_go_1 : decode cX2_go 1 = .ok (.getfield 9, 3) := by decide +kernel
theorem dX2_go_4 : decode cX2_go 4 = .ok (.lconst 0, 1) := by decide +kernel
theorem dX2_go_5 : decode cX2_go 5 = .ok (.invokestatic 18, 3) := by decide +kernel
theorem dX2_go_8 : decode cX2_go 8 = .ok (.aload_n 0, 1) := by decide +kernel
theorem dX2_go_9 : decode cX2_go 9 = .ok (.getfield 9, 3) := by decide +kernel
theorem dX2_go_12 : decode cX2_go 12 = .ok (.aload_n 1, 1) := by decide +kernel
theorem dX2_go_13 : decode cX2_go 13 = .ok (.getfield 24, 3) := by decide +kernel
theorem dX2_go_16 : decode cX2_go 16 = .ok (.invokestatic 30, 3) := by decide +kernel
theorem dX2_go_19 : decode cX2_go 19 = .ok (.lconst 1, 1) := by decide +kernel
theorem dX2_go_20 : decode cX2_go 20 = .ok (.lastore, 1) := by decide +kernel
theorem dX2_go_21 : decode cX2_go 21 = .ok (.iconst 0, 1) := by decide +kernel
theorem dX2_go_22 : decode cX2_go 22 = .ok (.istore 4, 2) := by decide +kernel
theorem dX2_go_24 : decode cX2_go 24 = .ok (.iload 4, 2) := by decide +kernel
theorem dX2_go_26 : decode cX2_go 26 = .ok (.iload_n 2, 1) := by decide +kernel
theorem dX2_go_27 : decode cX2_go 27 = .ok (.if_icmp .ge 58, 3) := by decide +kernel
theorem dX2_go_30 : decode cX2_go 30 = .ok (.aload_n 0, 1) := by decide +kernel
theorem dX2_go_31 : decode cX2_go 31 = .ok (.getfield 15, 3) := by decide +kernel
theorem dX2_go_34 : decode cX2_go 34 = .ok (.lconst 0, 1) := by decide +kernel
theorem dX2_go_35 : decode cX2_go 35 = .ok (.invokestatic 18, 3) := by decide +kernel
theorem dX2_go_38 : decode cX2_go 38 = .ok (.iconst 0, 1) := by decide +kernel
theorem dX2_go_39 : decode cX2_go 39 = .ok (.istore 5, 2) := by decide +kernel
theorem dX2_go_41 : decode cX2_go 41 = .ok (.iload 5, 2) := by decide +kernel
theorem dX2_go_43 : decode cX2_go 43 = .ok (.aload_n 1, 1) := by decide +kernel
theorem dX2_go_44 : decode cX2_go 44 = .ok (.getfield 34, 3) := by decide +kernel
theorem dX2_go_47 : decode cX2_go 47 = .ok (.if_icmp .ge 17, 3) := by decide +kernel
theorem dX2_go_50 : decode cX2_go 50 = .ok (.aload_n 0, 1) := by decide +kernel
theorem dX2_go_51 : decode cX2_go 51 = .ok (.aload_n 1, 1) := by decide +kernel
theorem dX2_go_52 : decode cX2_go 52 = .ok (.iload 5, 2) := by decide +kernel
theorem dX2_go_54 : decode cX2_go 54 = .ok (.iload_n 3, 1) := by decide +kernel
theorem dX2_go_55 : decode cX2_go 55 = .ok (.invokevirtual 37, 3) := by decide +kernel
theorem dX2_go_58 : decode cX2_go 58 = .ok (.iinc 5 1, 3) := by decide +kernel
theorem dX2_go_61 : decode cX2_go 61 = .ok (.goto (-20), 3) := by decide +kernel
theorem dX2_go_64 : decode cX2_go 64 = .ok (.aload_n 0, 1) := by decide +kernel
theorem dX2_go_65 : decode cX2_go 65 = .ok (.getfield 15, 3) := by decide +kernel
theorem dX2_go_68 : decode cX2_go 68 = .ok (.iconst 0, 1) := by decide +kernel
theorem dX2_go_69 : decode cX2_go 69 = .ok (.aload_n 0, 1) := by decide +kernel
theorem dX2_go_70 : decode cX2_go 70 = .ok (.getfield 9, 3) := by decide +kernel
theorem dX2_go_73 : decode cX2_go 73 = .ok (.iconst 0, 1) := by decide +kernel
theorem dX2_go_74 : decode cX2_go 74 = .ok (.bipush 8, 2) := by decide +kernel
theorem dX2_go_76 : decode cX2_go 76 = .ok (.invokestatic 41, 3) := by decide +kernel
theorem dX2_go_79 : decode cX2_go 79 = .ok (.iinc 4 1, 3) := by decide +kernel
theorem dX2_go_82 : decode cX2_go 82 = .ok (.goto (-58), 3) := by decide +kernel
theorem dX2_go_85 : decode cX2_go 85 = .ok (.return_, 1) := by decide +kernel
theorem dX2_passFrom_0 : decode cX2_passFrom 0 = .ok (.iload_n 2, 1) := by decide +kernel
theorem dX2_passFrom_1 : decode cX2_passFrom 1 = .ok (.aload_n 1, 1) := by decide +kernel
theorem dX2_passFrom_2 : decode cX2_passFrom 2 = .ok (.getfield 24, 3) := by decide +kernel
theorem dX2_passFrom_5 : decode cX2_passFrom 5 = .ok (.invokestatic 47, 3) := by decide +kernel
theorem dX2_passFrom_8 : decode cX2_passFrom 8 = .ok (.invokestatic 50, 3) := by decide +kernel
theorem dX2_passFrom_11 : decode cX2_passFrom 11 = .ok (.istore 4, 2) := by decide +kernel
theorem dX2_passFrom_13 : decode cX2_passFrom 13 = .ok (.iconst 0, 1) := by decide +kernel
theorem dX2_passFrom_14 : decode cX2_passFrom 14 = .ok (.istore 5, 2) := by decide +kernel
theorem dX2_passFrom_16 : decode cX2_passFrom 16 = .ok (.iload 5, 2) := by decide +kernel
theorem dX2_passFrom_18 : decode cX2_passFrom 18 = .ok (.iconst 2, 1) := by decide +kernel
theorem dX2_passFrom_19 : decode cX2_passFrom 19 = .ok (.if_icmp .ge 67, 3) := by decide +kernel
theorem dX2_passFrom_22 : decode cX2_passFrom 22 = .ok (.aload_n 1, 1) := by decide +kernel
theorem dX2_passFrom_23 : decode cX2_passFrom 23 = .ok (.iload 4, 2) := by decide +kernel
theorem dX2_passFrom_25 : decode cX2_passFrom 25 = .ok (.iload 5, 2) := by decide +kernel
theorem dX2_passFrom_27 : decode cX2_passFrom 27 = .ok (.invokevirtual 54, 3) := by decide +kernel
theorem dX2_passFrom_30 : decode cX2_passFrom 30 = .ok (.istore 6, 2) := by decide +kernel
theorem dX2_passFrom_32 : decode cX2_passFrom 32 = .ok (.iload 6, 2) := by decide +kernel
theorem dX2_passFrom_34 : decode cX2_passFrom 34 = .ok (.bipush (-9), 2) := by decide +kernel
theorem dX2_passFrom_36 : decode cX2_passFrom 36 = .ok (.if_icmp .eq 25, 3) := by decide +kernel
theorem dX2_passFrom_39 : decode cX2_passFrom 39 = .ok (.aload_n 0, 1) := by decide +kernel
theorem dX2_passFrom_40 : decode cX2_passFrom 40 = .ok (.getfield 15, 3) := by decide +kernel
theorem dX2_passFrom_43 : decode cX2_passFrom 43 = .ok (.iload 6, 2) := by decide +kernel
theorem dX2_passFrom_45 : decode cX2_passFrom 45 = .ok (.invokestatic 30, 3) := by decide +kernel
theorem dX2_passFrom_48 : decode cX2_passFrom 48 = .ok (.dup2, 1) := by decide +kernel
theorem dX2_passFrom_49 : decode cX2_passFrom 49 = .ok (.laload, 1) := by decide +kernel
theorem dX2_passFrom_50 : decode cX2_passFrom 50 = .ok (.aload_n 0, 1) := by decide +kernel
theorem dX2_passFrom_51 : decode cX2_passFrom 51 = .ok (.getfield 9, 3) := by decide +kernel
theorem dX2_passFrom_54 : decode cX2_passFrom 54 = .ok (.iload_n 2, 1) := by decide +kernel
theorem dX2_passFrom_55 : decode cX2_passFrom 55 = .ok (.laload, 1) := by decide +kernel
theorem dX2_passFrom_56 : decode cX2_passFrom 56 = .ok (.ladd, 1) := by decide +kernel
theorem dX2_passFrom_57 : decode cX2_passFrom 57 = .ok (.lastore, 1) := by decide +kernel
theorem dX2_passFrom_58 : decode cX2_passFrom 58 = .ok (.goto 22, 3) := by decide +kernel
theorem dX2_passFrom_61 : decode cX2_passFrom 61 = .ok (.iload_n 3, 1) := by decide +kernel
theorem dX2_passFrom_62 : decode cX2_passFrom 62 = .ok (.ifCond .eq 18, 3) := by decide +kernel
theorem dX2_passFrom_65 : decode cX2_passFrom 65 = .ok (.aload_n 0, 1) := by decide +kernel
theorem dX2_passFrom_66 : decode cX2_passFrom 66 = .ok (.getfield 15, 3) := by decide +kernel
theorem dX2_passFrom_69 : decode cX2_passFrom 69 = .ok (.iload_n 2, 1) := by decide +kernel
theorem dX2_passFrom_70 : decode cX2_passFrom 70 = .ok (.dup2, 1) := by decide +kernel
theorem dX2_passFrom_71 : decode cX2_passFrom 71 = .ok (.laload, 1) := by decide +kernel
theorem dX2_passFrom_72 : decode cX2_passFrom 72 = .ok (.aload_n 0, 1) := by decide +kernel
theorem dX2_passFrom_73 : decode cX2_passFrom 73 = .ok (.getfield 9, 3) := by decide +kernel
theorem dX2_passFrom_76 : decode cX2_passFrom 76 = .ok (.iload_n 2, 1) := by decide +kernel
theorem dX2_passFrom_77 : decode cX2_passFrom 77 = .ok (.laload, 1) := by decide +kernel
theorem dX2_passFrom_78 : decode cX2_passFrom 78 = .ok (.ladd, 1) := by decide +kernel
theorem dX2_passFrom_79 : decode cX2_passFrom 79 = .ok (.lastore, 1) := by decide +kernel
theorem dX2_passFrom_80 : decode cX2_passFrom 80 = .ok (.iinc 5 1, 3) := by decide +kernel
theorem dX2_passFrom_83 : decode cX2_passFrom 83 = .ok (.goto (-67), 3) := by decide +kernel
theorem dX2_passFrom_86 : decode cX2_passFrom 86 = .ok (.return_, 1) := by decide +kernel
theorem dX2_waysToOwn_0 : decode cX2_waysToOwn 0 = .ok (.lconst 0, 1) := by decide +kernel
theorem dX2_waysToOwn_1 : decode cX2_waysToOwn 1 = .ok (.lstore 4, 2) := by decide +kernel
theorem dX2_waysToOwn_3 : decode cX2_waysToOwn 3 = .ok (.iconst 0, 1) := by decide +kernel
theorem dX2_waysToOwn_4 : decode cX2_waysToOwn 4 = .ok (.istore 6, 2) := by decide +kernel
theorem dX2_waysToOwn_6 : decode cX2_waysToOwn 6 = .ok (.iload 6, 2) := by decide +kernel
theorem dX2_waysToOwn_8 : decode cX2_waysToOwn 8 = .ok (.aload_n 1, 1) := by decide +kernel
theorem dX2_waysToOwn_9 : decode cX2_waysToOwn 9 = .ok (.getfield 34, 3) := by decide +kernel
theorem dX2_waysToOwn_12 : decode cX2_waysToOwn 12 = .ok (.if_icmp .ge 46, 3) := by decide +kernel
theorem dX2_waysToOwn_15 : decode cX2_waysToOwn 15 = .ok (.iload 6, 2) := by decide +kernel
theorem dX2_waysToOwn_17 : decode cX2_waysToOwn 17 = .ok (.aload_n 1, 1) := by decide +kernel
theorem dX2_waysToOwn_18 : decode cX2_waysToOwn 18 = .ok (.getfield 24, 3) := by decide +kernel
theorem dX2_waysToOwn_21 : decode cX2_waysToOwn 21 = .ok (.invokestatic 47, 3) := by decide +kernel
theorem dX2_waysToOwn_24 : decode cX2_waysToOwn 24 = .ok (.invokestatic 50, 3) := by decide +kernel
theorem dX2_waysToOwn_27 : decode cX2_waysToOwn 27 = .ok (.istore 7, 2) := by decide +kernel
theorem dX2_waysToOwn_29 : decode cX2_waysToOwn 29 = .ok (.aload_n 1, 1) := by decide +kernel
theorem dX2_waysToOwn_30 : decode cX2_waysToOwn 30 = .ok (.iload_n 2, 1) := by decide +kernel
theorem dX2_waysToOwn_31 : decode cX2_waysToOwn 31 = .ok (.iload 7, 2) := by decide +kernel
theorem dX2_waysToOwn_33 : decode cX2_waysToOwn 33 = .ok (.invokevirtual 57, 3) := by decide +kernel
theorem dX2_waysToOwn_36 : decode cX2_waysToOwn 36 = .ok (.iload_n 3, 1) := by decide +kernel
theorem dX2_waysToOwn_37 : decode cX2_waysToOwn 37 = .ok (.if_icmp .ne 15, 3) := by decide +kernel
theorem dX2_waysToOwn_40 : decode cX2_waysToOwn 40 = .ok (.lload 4, 2) := by decide +kernel
theorem dX2_waysToOwn_42 : decode cX2_waysToOwn 42 = .ok (.aload_n 0, 1) := by decide +kernel
theorem dX2_waysToOwn_43 : decode cX2_waysToOwn 43 = .ok (.getfield 9, 3) := by decide +kernel
theorem dX2_waysToOwn_46 : decode cX2_waysToOwn 46 = .ok (.iload 6, 2) := by decide +kernel
theorem dX2_waysToOwn_48 : decode cX2_waysToOwn 48 = .ok (.laload, 1) := by decide +kernel
theorem dX2_waysToOwn_49 : decode cX2_waysToOwn 49 = .ok (.ladd, 1) := by decide +kernel
theorem dX2_waysToOwn_50 : decode cX2_waysToOwn 50 = .ok (.lstore 4, 2) := by decide +kernel
theorem dX2_waysToOwn_52 : decode cX2_waysToOwn 52 = .ok (.iinc 6 1, 3) := by decide +kernel
theorem dX2_waysToOwn_55 : decode cX2_waysToOwn 55 = .ok (.goto (-49), 3) := by decide +kernel
theorem dX2_waysToOwn_58 : decode cX2_waysToOwn 58 = .ok (.lload 4, 2) := by decide +kernel
theorem dX2_waysToOwn_60 : decode cX2_waysToOwn 60 = .ok (.lreturn, 1) := by decide +kernel
theorem dX3_init_0 : decode cX3_init 0 = .ok (.aload_n 0, 1) := by decide +kernel
theorem dX3_init_1 : decode cX3_init 1 = .ok (.invokespecial 3, 3) := by decide +kernel
theorem dX3_init_4 : decode cX3_init 4 = .ok (.aload_n 0, 1) := by decide +kernel
theorem dX3_init_5 : decode cX3_init 5 = .ok (.bipush 60, 2) := by decide +kernel
theorem dX3_init_7 : decode cX3_init 7 = .ok (.newarray .int, 2) := by decide +kernel
theorem dX3_init_9 : decode cX3_init 9 = .ok (.putfield 9, 3) := by decide +kernel
theorem dX3_init_12 : decode cX3_init 12 = .ok (.return_, 1) := by decide +kernel
theorem dX3_renew_0 : decode cX3_renew 0 = .ok (.aload_n 0, 1) := by decide +kernel
theorem dX3_renew_1 : decode cX3_renew 1 = .ok (.iconst 1, 1) := by decide +kernel
theorem dX3_renew_2 : decode cX3_renew 2 = .ok (.putfield 15, 3) := by decide +kernel
theorem dX3_renew_5 : decode cX3_renew 5 = .ok (.aload_n 0, 1) := by decide +kernel
theorem dX3_renew_6 : decode cX3_renew 6 = .ok (.iload_n 1, 1) := by decide +kernel
theorem dX3_renew_7 : decode cX3_renew 7 = .ok (.putfield 19, 3) := by decide +kernel
theorem dX3_renew_10 : decode cX3_renew 10 = .ok (.aload_n 0, 1) := by decide +kernel
theorem dX3_renew_11 : decode cX3_renew 11 = .ok (.iload_n 2, 1) := by decide +kernel
theorem dX3_renew_12 : decode cX3_renew 12 = .ok (.putfield 23, 3) := by decide +kernel
theorem dX3_renew_15 : decode cX3_renew 15 = .ok (.aload_n 0, 1) := by decide +kernel
theorem dX3_renew_16 : decode cX3_renew 16 = .ok (.getfield 9, 3) := by decide +kernel
theorem dX3_renew_19 : decode cX3_renew 19 = .ok (.iconst 0, 1) := by decide +kernel
theorem dX3_renew_20 : decode cX3_renew 20 = .ok (.invokestatic 26, 3) := by decide +kernel
theorem dX3_renew_23 : decode cX3_renew 23 = .ok (.return_, 1) := by decide +kernel
theorem dX3_has_0 : decode cX3_has 0 = .ok (.iload_n 1, 1) := by decide +kernel
theorem dX3_has_1 : decode cX3_has 1 = .ok (.ifCond .lt 29, 3) := by decide +kernel
theorem dX3_has_4 : decode cX3_has 4 = .ok (.iload_n 1, 1) := by decide +kernel
theorem dX3_has_5 : decode cX3_has 5 = .ok (.aload_n 0, 1) := by decide +kernel
theorem dX3_has_6 : decode cX3_has 6 = .ok (.getfield 23, 3) := by decide +kernel
theorem dX3_has_9 : decode cX3_has 9 = .ok (.if_icmp .gt 21, 3) := by decide +kernel
theorem dX3_has_12 : decode cX3_has 12 = .ok (.iload_n 2, 1) := by decide +kernel
theorem dX3_has_13 : decode cX3_has 13 = .ok (.ifCond .lt 17, 3) := by decide +kernel
theorem dX3_has_16 : decode cX3_has 16 = .ok (.iload_n 2, 1) := by decide +kernel
theorem dX3_has_17 : decode cX3_has 17 = .ok (.aload_n 0, 1) := by decide +kernel
theorem dX3_has_18 : decode cX3_has 18 = .ok (.getfield 23, 3) := by decide +kernel
theorem dX3_has_21 : decode cX3_has 21 = .ok (.iload_n 1, 1) := by decide +kernel
theorem dX3_has_22 : decode cX3_has 22 = .ok (.isub, 1) := by decide +kernel
theorem dX3_has_23 : decode cX3_has 23 = .ok (.if_icmp .gt 7, 3) := by decide +kernel
theorem dX3_has_26 : decode cX3_has 26 = .ok (.iconst 1, 1) := by decide +kernel
theorem dX3_has_27 : decode cX3_has 27 = .ok (.goto 4, 3) := by decide +kernel
theorem dX3_has_30 : decode cX3_has 30 = .ok (.iconst 0, 1) := by decide +kernel
theorem dX3_has_31 : decode cX3_has 31 = .ok (.ireturn, 1) := by decide +kernel
theorem dX3_faultOfCells_0 : decode cX3_faultOfCells 0 = .ok (.aload_n 0, 1) := by decide +kernel
theorem dX3_faultOfCells_1 : decode cX3_faultOfCells 1 = .ok (.getfield 15, 3) := by decide +kernel
theorem dX3_faultOfCells_4 : decode cX3_faultOfCells 4 = .ok (.ifCond .ne 5, 3) := by decide +kernel
theorem dX3_faultOfCells_7 : decode cX3_faultOfCells 7 = .ok (.iconst 1, 1) := by decide +kernel
theorem dX3_faultOfCells_8 : decode cX3_faultOfCells 8 = .ok (.ireturn, 1) := by decide +kernel
theorem dX3_faultOfCells_9 : decode cX3_faultOfCells 9 = .ok (.aload_n 0, 1) := by decide +kernel
theorem dX3_faultOfCells_10 : decode cX3_faultOfCells 10 = .ok (.getfield 19, 3) := by decide +kernel
theorem dX3_faultOfCells_13 : decode cX3_faultOfCells 13 = .ok (.iload_n 1, 1) := by decide +kernel
theorem dX3_faultOfCells_14 : decode cX3_faultOfCells 14 = .ok (.if_icmp .eq 5, 3) := by decide +kernel
theorem dX3_faultOfCells_17 : decode cX3_faultOfCells 17 = .ok (.iconst 2, 1) := by decide +kernel
theorem dX3_faultOfCells_18 : decode cX3_faultOfCells 18 = .ok (.ireturn, 1) := by decide +kernel
theorem dX3_faultOfCells_19 : decode cX3_faultOfCells 19 = .ok (.iload_n 3, 1) := by decide +kernel
theorem dX3_faultOfCells_20 : decode cX3_faultOfCells 20 = .ok (.ifCond .ge 5, 3) := by decide +kernel
theorem dX3_faultOfCells_23 : decode cX3_faultOfCells 23 = .ok (.iconst 4, 1) := by decide +kernel
theorem dX3_faultOfCells_24 : decode cX3_faultOfCells 24 = .ok (.ireturn, 1) := by decide +kernel
theorem dX3_faultOfCells_25 : decode cX3_faultOfCells 25 = .ok (.aload_n 0, 1) := by decide +kernel
theorem dX3_faultOfCells_26 : decode cX3_faultOfCells 26 = .ok (.iload_n 2, 1) := by decide +kernel
theorem dX3_faultOfCells_27 : decode cX3_faultOfCells 27 = .ok (.iload_n 3, 1) := by decide +kernel
theorem dX3_faultOfCells_28 : decode cX3_faultOfCells 28 = .ok (.invokevirtual 32, 3) := by decide +kernel
theorem dX3_faultOfCells_31 : decode cX3_faultOfCells 31 = .ok (.ifCond .eq 7, 3) := by decide +kernel
theorem dX3_faultOfCells_34 : decode cX3_faultOfCells 34 = .ok (.iconst 0, 1) := by decide +kernel
theorem dX3_faultOfCells_35 : decode cX3_faultOfCells 35 = .ok (.goto 4, 3) := by decide +kernel
theorem dX3_faultOfCells_38 : decode cX3_faultOfCells 38 = .ok (.iconst 3, 1) := by decide +kernel
theorem dX3_faultOfCells_39 : decode cX3_faultOfCells 39 = .ok (.ireturn, 1) := by decide +kernel
theorem dX3_cut_0 : decode cX3_cut 0 = .ok (.aload_n 0, 1) := by decide +kernel
theorem dX3_cut_1 : decode cX3_cut 1 = .ok (.getfield 19, 3) := by decide +kernel
theorem dX3_cut_4 : decode cX3_cut 4 = .ok (.lookupswitch 34 #[(0, 28), (1, 31)], 28) := by decide +kernel
theorem dX3_cut_32 : decode cX3_cut 32 = .ok (.iload_n 1, 1) := by decide +kernel
theorem dX3_cut_33 : decode cX3_cut 33 = .ok (.i2b, 1) := by decide +kernel
theorem dX3_cut_34 : decode cX3_cut 34 = .ok (.ireturn, 1) := by decide +kernel
theorem dX3_cut_35 : decode cX3_cut 35 = .ok (.iload_n 1, 1) := by decide +kernel
theorem dX3_cut_36 : decode cX3_cut 36 = .ok (.i2s, 1) := by decide +kernel
theorem dX3_cut_37 : decode cX3_cut 37 = .ok (.ireturn, 1) := by decide +kernel
theorem dX3_cut_38 : decode cX3_cut 38 = .ok (.iload_n 1, 1) := by decide +kernel
theorem dX3_cut_39 : decode cX3_cut 39 = .ok (.ireturn, 1) := by decide +kernel
theorem dX3_areRequests_0 : decode cX3_areRequests 0 = .ok (.iload_n 1, 1) := by decide +kernel
theorem dX3_areRequests_1 : decode cX3_areRequests 1 = .ok (.istore_n 3, 1) := by decide +kernel
theorem dX3_areRequests_2 : decode cX3_areRequests 2 = .ok (.iload_n 3, 1) := by decide +kernel
theorem dX3_areRequests_3 : decode cX3_areRequests 3 = .ok (.iload_n 1, 1) := by decide +kernel
theorem dX3_areRequests_4 : decode cX3_areRequests 4 = .ok (.iload_n 2, 1) := by decide +kernel
theorem dX3_areRequests_5 : decode cX3_areRequests 5 = .ok (.iadd, 1) := by decide +kernel
theorem dX3_areRequests_6 : decode cX3_areRequests 6 = .ok (.if_icmp .ge 24, 3) := by decide +kernel
theorem dX3_areRequests_9 : decode cX3_areRequests 9 = .ok (.aload_n 0, 1) := by decide +kernel
theorem dX3_areRequests_10 : decode cX3_areRequests 10 = .ok (.getfield 9, 3) := by decide +kernel
theorem dX3_areRequests_13 : decode cX3_areRequests 13 = .ok (.iload_n 3, 1) := by decide +kernel
theorem dX3_areRequests_14 : decode cX3_areRequests 14 = .ok (.iaload, 1) := by decide +kernel
theorem dX3_areRequests_15 : decode cX3_areRequests 15 = .ok (.iconst 4, 1) := by decide +kernel
theorem dX3_areRequests_16 : decode cX3_areRequests 16 = .ok (.invokestatic 36, 3) := by decide +kernel
theorem dX3_areRequests_19 : decode cX3_areRequests 19 = .ok (.ifCond .ne 5, 3) := by decide +kernel
theorem dX3_areRequests_22 : decode cX3_areRequests 22 = .ok (.iconst 0, 1) := by decide +kernel
theorem dX3_areRequests_23 : decode cX3_areRequests 23 = .ok (.ireturn, 1) := by decide +kernel
theorem dX3_areRequests_24 : decode cX3_areRequests 24 = .ok (.iinc 3 1, 3) := by decide +kernel
theorem dX3_areRequests_27 : decode cX3_areRequests 27 = .ok (.goto (-25), 3) := by decide +kernel
theorem dX3_areRequests_30 : decode cX3_areRequests 30 = .ok (.iconst 1, 1) := by decide +kernel
theorem dX3_areRequests_31 : decode cX3_areRequests 31 = .ok (.ireturn, 1) := by decide +kernel
theorem dX4_init_0 : decode cX4_init 0 = .ok (.aload_n 0, 1) := by decide +kernel
theorem dX4_init_1 : decode cX4_init 1 = .ok (.invokespecial 3, 3) := by decide +kernel
theorem dX4_init_4 : decode cX4_init 4 = .ok (.aload_n 0, 1) := by decide +kernel
theorem dX4_init_5 : decode cX4_init 5 = .ok (.bipush 8, 2) := by decide +kernel
theorem dX4_init_7 : decode cX4_init 7 = .ok (.newarray .int, 2) := by decide +kernel
theorem dX4_init_9 : decode cX4_init 9 = .ok (.putfield 9, 3) := by decide +kernel
theorem dX4_init_12 : decode cX4_init 12 = .ok (.aload_n 0, 1) := by decide +kernel
theorem dX4_init_13 : decode cX4_init 13 = .ok (.bipush 8, 2) := by decide +kernel
theorem dX4_init_15 : decode cX4_init 15 = .ok (.newarray .int, 2) := by decide +kernel
theorem dX4_init_17 : decode cX4_init 17 = .ok (.putfield 15, 3) := by decide +kernel
theorem dX4_init_20 : decode cX4_init 20 = .ok (.aload_n 0, 1) := by decide +kernel
theorem dX4_init_21 : decode cX4_init 21 = .ok (.bipush 8, 2) := by decide +kernel
theorem dX4_init_23 : decode cX4_init 23 = .ok (.newarray .int, 2) := by decide +kernel
theorem dX4_init_25 : decode cX4_init 25 = .ok (.putfield 18, 3) := by decide +kernel
theorem dX4_init_28 : decode cX4_init 28 = .ok (.aload_n 0, 1) := by decide +kernel
theorem dX4_init_29 : decode cX4_init 29 = .ok (.bipush 8, 2) := by decide +kernel
theorem dX4_init_31 : decode cX4_init 31 = .ok (.newarray .int, 2) := by decide +kernel
theorem dX4_init_33 : decode cX4_init 33 = .ok (.putfield 21, 3) := by decide +kernel
theorem dX4_init_36 : decode cX4_init 36 = .ok (.aload_n 0, 1) := by decide +kernel
theorem dX4_init_37 : decode cX4_init 37 = .ok (.bipush 6, 2) := by decide +kernel
theorem dX4_init_39 : decode cX4_init 39 = .ok (.newarray .int, 2) := by decide +kernel
theorem dX4_init_41 : decode cX4_init 41 = .ok (.putfield 24, 3) := by decide +kernel
theorem dX4_init_44 : decode cX4_init 44 = .ok (.aload_n 0, 1) := by decide +kernel
theorem dX4_init_45 : decode cX4_init 45 = .ok (.bipush 6, 2) := by decide +kernel
theorem dX4_init_47 : decode cX4_init 47 = .ok (.newarray .int, 2) := by decide +kernel
theorem dX4_init_49 : decode cX4_init 49 = .ok (.putfield 27, 3) := by decide +kernel
theorem dX4_init_52 : decode cX4_init 52 = .ok (.aload_n 0, 1) := by decide +kernel
theorem dX4_init_53 : decode cX4_init 53 = .ok (.bipush 8, 2) := by decide +kernel
theorem dX4_init_55 : decode cX4_init 55 = .ok (.newarray .int, 2) := by decide +kernel
theorem dX4_init_57 : decode cX4_init 57 = .ok (.putfield 30, 3) := by decide +kernel
theorem dX4_init_60 : decode cX4_init 60 = .ok (.aload_n 0, 1) := by decide +kernel
theorem dX4_init_61 : decode cX4_init 61 = .ok (.bipush 8, 2) := by decide +kernel
theorem dX4_init_63 : decode cX4_init 63 = .ok (.newarray .int, 2) := by decide +kernel
theorem dX4_init_65 : decode cX4_init 65 = .ok (.putfield 33, 3) := by decide +kernel
theorem dX4_init_68 : decode cX4_init 68 = .ok (.return_, 1) := by decide +kernel
theorem dX4_isLaid_0 : decode cX4_isLaid 0 = .ok (.aload_n 0, 1) := by decide +kernel
theorem dX4_isLaid_1 : decode cX4_isLaid 1 = .ok (.getfield 36, 3) := by decide +kernel
theorem dX4_isLaid_4 : decode cX4_isLaid 4 = .ok (.ifCond .le 7, 3) := by decide +kernel
theorem dX4_isLaid_7 : decode cX4_isLaid 7 = .ok (.iconst 1, 1) := by decide +kernel
theorem dX4_isLaid_8 : decode cX4_isLaid 8 = .ok (.goto 4, 3) := by decide +kernel
theorem dX4_isLaid_11 : decode cX4_isLaid 11 = .ok (.iconst 0, 1) := by decide +kernel
theorem dX4_isLaid_12 : decode cX4_isLaid 12 = .ok (.ireturn, 1) := by decide +kernel
theorem dX4_lay_0 : decode cX4_lay 0 = .ok (.aload_n 0, 1) := by decide +kernel
theorem dX4_lay_1 : decode cX4_lay 1 = .ok (.iconst 0, 1) := by decide +kernel
theorem dX4_lay_2 : decode cX4_lay 2 = .ok (.putfield 40, 3) := by decide +kernel
theorem dX4_lay_5 : decode cX4_lay 5 = .ok (.aload_n 1, 1) := by decide +kernel
theorem dX4_lay_6 : decode cX4_lay 6 = .ok (.bipush 116, 2) := by decide +kernel
theorem dX4_lay_8 : decode cX4_lay 8 = .ok (.invokevirtual 43, 3) := by decide +kernel
theorem dX4_lay_11 : decode cX4_lay 11 = .ok (.ifCond .eq 46, 3) := by decide +kernel
theorem dX4_lay_14 : decode cX4_lay 14 = .ok (.aload_n 0, 1) := by decide +kernel
theorem dX4_lay_15 : decode cX4_lay 15 = .ok (.aload_n 1, 1) := by decide +kernel
theorem dX4_lay_16 : decode cX4_lay 16 = .ok (.invokevirtual 49, 3) := by decide +kernel
theorem dX4_lay_19 : decode cX4_lay 19 = .ok (.ifCond .eq 38, 3) := by decide +kernel
theorem dX4_lay_22 : decode cX4_lay 22 = .ok (.aload_n 0, 1) := by decide +kernel
theorem dX4_lay_23 : decode cX4_lay 23 = .ok (.aload_n 1, 1) := by decide +kernel
theorem dX4_lay_24 : decode cX4_lay 24 = .ok (.invokevirtual 53, 3) := by decide +kernel
theorem dX4_lay_27 : decode cX4_lay 27 = .ok (.ifCond .eq 30, 3) := by decide +kernel
theorem dX4_lay_30 : decode cX4_lay 30 = .ok (.aload_n 0, 1) := by decide +kernel
theorem dX4_lay_31 : decode cX4_lay 31 = .ok (.aload_n 1, 1) := by decide +kernel
theorem dX4_lay_32 : decode cX4_lay 32 = .ok (.invokevirtual 56, 3) := by decide +kernel
theorem dX4_lay_35 : decode cX4_lay 35 = .ok (.ifCond .eq 22, 3) := by decide +kernel
theorem dX4_lay_38 : decode cX4_lay 38 = .ok (.aload_n 0, 1) := by decide +kernel
theorem dX4_lay_39 : decode cX4_lay 39 = .ok (.aload_n 1, 1) := by decide +kernel
theorem dX4_lay_40 : decode cX4_lay 40 = .ok (.invokevirtual 59, 3) := by decide +kernel
theorem dX4_lay_43 : decode cX4_lay 43 = .ok (.ifCond .eq 14, 3) := by decide +kernel
theorem dX4_lay_46 : decode cX4_lay 46 = .ok (.aload_n 1, 1) := by decide +kernel
theorem dX4_lay_47 : decode cX4_lay 47 = .ok (.invokevirtual 62, 3) := by decide +kernel
theorem dX4_lay_50 : decode cX4_lay 50 = .ok (.ifCond .eq 7, 3) := by decide +kernel
theorem dX4_lay_53 : decode cX4_lay 53 = .ok (.iconst 1, 1) := by decide +kernel
theorem dX4_lay_54 : decode cX4_lay 54 = .ok (.goto 4, 3) := by decide +kernel
theorem dX4_lay_57 : decode cX4_lay 57 = .ok (.iconst 0, 1) := by decide +kernel
theorem dX4_lay_58 : decode cX4_lay 58 = .ok (.ireturn, 1) := by decide +kernel
theorem dX4_laySoup_0 : decode cX4_laySoup 0 = .ok (.aload_n 0, 1) := by decide +kernel
theorem dX4_laySoup_1 : decode cX4_laySoup 1 = .ok (.aload_n 1, 1) := by decide +kernel
theorem dX4_laySoup_2 : decode cX4_laySoup 2 = .ok (.iconst 4, 1) := by decide +kernel
theorem dX4_laySoup_3 : decode cX4_laySoup 3 = .ok (.invokevirtual 66, 3) := by decide +kernel
theorem dX4_laySoup_6 : decode cX4_laySoup 6 = .ok (.putfield 70, 3) := by decide +kernel
theorem dX4_laySoup_9 : decode cX4_laySoup 9 = .ok (.aload_n 0, 1) := by decide +kernel
theorem dX4_laySoup_10 : decode cX4_laySoup 10 = .ok (.getfield 70, 3) := by decide +kernel
theorem dX4_laySoup_13 : decode cX4_laySoup 13 = .ok (.bipush (-9), 2) := by decide +kernel
theorem dX4_laySoup_15 : decode cX4_laySoup 15 = .ok (.if_icmp .eq 7, 3) := by decide +kernel
theorem dX4_laySoup_18 : decode cX4_laySoup 18 = .ok (.iconst 1, 1) := by decide +kernel
theorem dX4_laySoup_19 : decode cX4_laySoup 19 = .ok (.goto 4, 3) := by decide +kernel
theorem dX4_laySoup_22 : decode cX4_laySoup 22 = .ok (.iconst 0, 1) := by decide +kernel
theorem dX4_laySoup_23 : decode cX4_laySoup 23 = .ok (.ireturn, 1) := by decide +kernel
theorem dX4_layGuests_0 : decode cX4_layGuests 0 = .ok (.iconst 0, 1) := by decide +kernel
theorem dX4_layGuests_1 : decode cX4_layGuests 1 = .ok (.istore_n 2, 1) := by decide +kernel
theorem dX4_layGuests_2 : decode cX4_layGuests 2 = .ok (.iload_n 2, 1) := by decide +kernel
theorem dX4_layGuests_3 : decode cX4_layGuests 3 = .ok (.bipush 8, 2) := by decide +kernel
theorem dX4_layGuests_5 : decode cX4_layGuests 5 = .ok (.if_icmp .ge 34, 3) := by decide +kernel
theorem dX4_layGuests_8 : decode cX4_layGuests 8 = .ok (.iload_n 2, 1) := by decide +kernel
theorem dX4_layGuests_9 : decode cX4_layGuests 9 = .ok (.iconst 3, 1) := by decide +kernel
theorem dX4_layGuests_10 : decode cX4_layGuests 10 = .ok (.if_icmp .lt 12, 3) := by decide +kernel
theorem dX4_layGuests_13 : decode cX4_layGuests 13 = .ok (.aload_n 1, 1) := by decide +kernel
theorem dX4_layGuests_14 : decode cX4_layGuests 14 = .ok (.bipush 47, 2) := by decide +kernel
theorem dX4_layGuests_16 : decode cX4_layGuests 16 = .ok (.invokevirtual 73, 3) := by decide +kernel
theorem dX4_layGuests_19 : decode cX4_layGuests 19 = .ok (.ifCond .ne 20, 3) := by decide +kernel
theorem dX4_layGuests_22 : decode cX4_layGuests 22 = .ok (.aload_n 0, 1) := by decide +kernel
theorem dX4_layGuests_23 : decode cX4_layGuests 23 = .ok (.aload_n 1, 1) := by decide +kernel
theorem dX4_layGuests_24 : decode cX4_layGuests 24 = .ok (.iload_n 2, 1) := by decide +kernel
theorem dX4_layGuests_25 : decode cX4_layGuests 25 = .ok (.invokevirtual 76, 3) := by decide +kernel
theorem dX4_layGuests_28 : decode cX4_layGuests 28 = .ok (.ifCond .ne 5, 3) := by decide +kernel
theorem dX4_layGuests_31 : decode cX4_layGuests 31 = .ok (.iconst 0, 1) := by decide +kernel
theorem dX4_layGuests_32 : decode cX4_layGuests 32 = .ok (.ireturn, 1) := by decide +kernel
theorem dX4_layGuests_33 : decode cX4_layGuests 33 = .ok (.iinc 2 1, 3) := by decide +kernel
theorem dX4_layGuests_36 : decode cX4_layGuests 36 = .ok (.goto (-34), 3) := by decide +kernel
theorem dX4_layGuests_39 : decode cX4_layGuests 39 = .ok (.aload_n 0, 1) := by decide +kernel
theorem dX4_layGuests_40 : decode cX4_layGuests 40 = .ok (.iload_n 2, 1) := by decide +kernel
theorem dX4_layGuests_41 : decode cX4_layGuests 41 = .ok (.putfield 36, 3) := by decide +kernel
theorem dX4_layGuests_44 : decode cX4_layGuests 44 = .ok (.iconst 1, 1) := by decide +kernel
theorem dX4_layGuests_45 : decode cX4_layGuests 45 = .ok (.ireturn, 1) := by decide +kernel
theorem dX4_layGuest_0 : decode cX4_layGuest 0 = .ok (.aload_n 1, 1) := by decide +kernel
theorem dX4_layGuest_1 : decode cX4_layGuest 1 = .ok (.bipush 44, 2) := by decide +kernel
theorem dX4_layGuest_3 : decode cX4_layGuest 3 = .ok (.invokevirtual 43, 3) := by decide +kernel
theorem dX4_layGuest_6 : decode cX4_layGuest 6 = .ok (.ifCond .ne 5, 3) := by decide +kernel
theorem dX4_layGuest_9 : decode cX4_layGuest 9 = .ok (.iconst 0, 1) := by decide +kernel
theorem dX4_layGuest_10 : decode cX4_layGuest 10 = .ok (.ireturn, 1) := by decide +kernel
theorem dX4_layGuest_11 : decode cX4_layGuest 11 = .ok (.aload_n 0, 1) := by decide +kernel
theorem dX4_layGuest_12 : decode cX4_layGuest 12 = .ok (.getfield 9, 3) := by decide +kernel
theorem dX4_layGuest_15 : decode cX4_layGuest 15 = .ok (.iload_n 2, 1) := by decide +kernel
theorem dX4_layGuest_16 : decode cX4_layGuest 16 = .ok (.aload_n 1, 1) := by decide +kernel
theorem dX4_layGuest_17 : decode cX4_layGuest 17 = .ok (.invokevirtual 80, 3) := by decide +kernel
theorem dX4_layGuest_20 : decode cX4_layGuest 20 = .ok (.iastore, 1) := by decide +kernel
theorem dX4_layGuest_21 : decode cX4_layGuest 21 = .ok (.aload_n 0, 1) := by decide +kernel
theorem dX4_layGuest_22 : decode cX4_layGuest 22 = .ok (.getfield 9, 3) := by decide +kernel
theorem dX4_layGuest_25 : decode cX4_layGuest 25 = .ok (.iload_n 2, 1) := by decide +kernel
theorem dX4_layGuest_26 : decode cX4_layGuest 26 = .ok (.iaload, 1) := by decide +kernel
theorem dX4_layGuest_27 : decode cX4_layGuest 27 = .ok (.bipush (-9), 2) := by decide +kernel
theorem dX4_layGuest_29 : decode cX4_layGuest 29 = .ok (.if_icmp .ne 5, 3) := by decide +kernel
theorem dX4_layGuest_32 : decode cX4_layGuest 32 = .ok (.iconst 0, 1) := by decide +kernel
theorem dX4_layGuest_33 : decode cX4_layGuest 33 = .ok (.ireturn, 1) := by decide +kernel
theorem dX4_layGuest_34 : decode cX4_layGuest 34 = .ok (.aload_n 0, 1) := by decide +kernel
theorem dX4_layGuest_35 : decode cX4_layGuest 35 = .ok (.getfield 15, 3) := by decide +kernel
theorem dX4_layGuest_38 : decode cX4_layGuest 38 = .ok (.iload_n 2, 1) := by decide +kernel
theorem dX4_layGuest_39 : decode cX4_layGuest 39 = .ok (.aload_n 1, 1) := by decide +kernel
theorem dX4_layGuest_40 : decode cX4_layGuest 40 = .ok (.bipush 10, 2) := by decide +kernel
theorem dX4_layGuest_42 : decode cX4_layGuest 42 = .ok (.invokevirtual 66, 3) := by decide +kernel
theorem dX4_layGuest_45 : decode cX4_layGuest 45 = .ok (.iastore, 1) := by decide +kernel
theorem dX4_layGuest_46 : decode cX4_layGuest 46 = .ok (.aload_n 0, 1) := by decide +kernel
theorem dX4_layGuest_47 : decode cX4_layGuest 47 = .ok (.getfield 15, 3) := by decide +kernel
theorem dX4_layGuest_50 : decode cX4_layGuest 50 = .ok (.iload_n 2, 1) := by decide +kernel
theorem dX4_layGuest_51 : decode cX4_layGuest 51 = .ok (.iaload, 1) := by decide +kernel
theorem dX4_layGuest_52 : decode cX4_layGuest 52 = .ok (.bipush (-9), 2) := by decide +kernel
theorem dX4_layGuest_54 : decode cX4_layGuest 54 = .ok (.if_icmp .ne 5, 3) := by decide +kernel
theorem dX4_layGuest_57 : decode cX4_layGuest 57 = .ok (.iconst 0, 1) := by decide +kernel
theorem dX4_layGuest_58 : decode cX4_layGuest 58 = .ok (.ireturn, 1) := by decide +kernel
theorem dX4_layGuest_59 : decode cX4_layGuest 59 = .ok (.aload_n 0, 1) := by decide +kernel
theorem dX4_layGuest_60 : decode cX4_layGuest 60 = .ok (.getfield 18, 3) := by decide +kernel
theorem dX4_layGuest_63 : decode cX4_layGuest 63 = .ok (.iload_n 2, 1) := by decide +kernel
theorem dX4_layGuest_64 : decode cX4_layGuest 64 = .ok (.aload_n 1, 1) := by decide +kernel
theorem dX4_layGuest_65 : decode cX4_layGuest 65 = .ok (.iconst 4, 1) := by decide +kernel
theorem dX4_layGuest_66 : decode cX4_layGuest 66 = .ok (.invokevirtual 66, 3) := by decide +kernel
theorem dX4_layGuest_69 : decode cX4_layGuest 69 = .ok (.iastore, 1) := by decide +kernel
theorem dX4_layGuest_70 : decode cX4_layGuest 70 = .ok (.aload_n 0, 1) := by decide +kernel
theorem dX4_layGuest_71 : decode cX4_layGuest 71 = .ok (.getfield 18, 3) := by decide +kernel
theorem dX4_layGuest_74 : decode cX4_layGuest 74 = .ok (.iload_n 2, 1) := by decide +kernel
theorem dX4_layGuest_75 : decode cX4_layGuest 75 = .ok (.iaload, 1) := by decide +kernel
theorem dX4_layGuest_76 : decode cX4_layGuest 76 = .ok (.bipush (-9), 2) := by decide +kernel
theorem dX4_layGuest_78 : decode cX4_layGuest 78 = .ok (.if_icmp .eq 7, 3) := by decide +kernel
theorem dX4_layGuest_81 : decode cX4_layGuest 81 = .ok (.iconst 1, 1) := by decide +kernel
theorem dX4_layGuest_82 : decode cX4_layGuest 82 = .ok (.goto 4, 3) := by decide +kernel
theorem dX4_layGuest_85 : decode cX4_layGuest 85 = .ok (.iconst 0, 1) := by decide +kernel
theorem dX4_layGuest_86 : decode cX4_layGuest 86 = .ok (.ireturn, 1) := by decide +kernel
theorem dX4_layBorder_0 : decode cX4_layBorder 0 = .ok (.aload_n 1, 1) := by decide +kernel
theorem dX4_layBorder_1 : decode cX4_layBorder 1 = .ok (.bipush 47, 2) := by decide +kernel
theorem dX4_layBorder_3 : decode cX4_layBorder 3 = .ok (.invokevirtual 43, 3) := by decide +kernel
theorem dX4_layBorder_6 : decode cX4_layBorder 6 = .ok (.ifCond .ne 5, 3) := by decide +kernel
theorem dX4_layBorder_9 : decode cX4_layBorder 9 = .ok (.iconst 0, 1) := by decide +kernel
theorem dX4_layBorder_10 : decode cX4_layBorder 10 = .ok (.ireturn, 1) := by decide +kernel
theorem dX4_layBorder_11 : decode cX4_layBorder 11 = .ok (.aload_n 1, 1) := by decide +kernel
theorem dX4_layBorder_12 : decode cX4_layBorder 12 = .ok (.aload_n 0, 1) := by decide +kernel
theorem dX4_layBorder_13 : decode cX4_layBorder 13 = .ok (.getfield 36, 3) := by decide +kernel
theorem dX4_layBorder_16 : decode cX4_layBorder 16 = .ok (.invokevirtual 66, 3) := by decide +kernel
theorem dX4_layBorder_19 : decode cX4_layBorder 19 = .ok (.istore_n 2, 1) := by decide +kernel
theorem dX4_layBorder_20 : decode cX4_layBorder 20 = .ok (.iload_n 2, 1) := by decide +kernel
theorem dX4_layBorder_21 : decode cX4_layBorder 21 = .ok (.bipush (-9), 2) := by decide +kernel
theorem dX4_layBorder_23 : decode cX4_layBorder 23 = .ok (.if_icmp .ne 5, 3) := by decide +kernel
theorem dX4_layBorder_26 : decode cX4_layBorder 26 = .ok (.iconst 0, 1) := by decide +kernel
theorem dX4_layBorder_27 : decode cX4_layBorder 27 = .ok (.ireturn, 1) := by decide +kernel
theorem dX4_layBorder_28 : decode cX4_layBorder 28 = .ok (.aload_n 1, 1) := by decide +kernel
theorem dX4_layBorder_29 : decode cX4_layBorder 29 = .ok (.aload_n 0, 1) := by decide +kernel
theorem dX4_layBorder_30 : decode cX4_layBorder 30 = .ok (.getfield 36, 3) := by decide +kernel
theorem dX4_layBorder_33 : decode cX4_layBorder 33 = .ok (.iload_n 2, 1) := by decide +kernel
theorem dX4_layBorder_34 : decode cX4_layBorder 34 = .ok (.invokevirtual 84, 3) := by decide +kernel
theorem dX4_layBorder_37 : decode cX4_layBorder 37 = .ok (.istore_n 3, 1) := by decide +kernel
theorem dX4_layBorder_38 : decode cX4_layBorder 38 = .ok (.iload_n 3, 1) := by decide +kernel
theorem dX4_layBorder_39 : decode cX4_layBorder 39 = .ok (.bipush (-9), 2) := by decide +kernel
theorem dX4_layBorder_41 : decode cX4_layBorder 41 = .ok (.if_icmp .ne 5, 3) := by decide +kernel
theorem dX4_layBorder_44 : decode cX4_layBorder 44 = .ok (.iconst 0, 1) := by decide +kernel
theorem dX4_layBorder_45 : decode cX4_layBorder 45 = .ok (.ireturn, 1) := by decide +kernel
theorem dX4_layBorder_46 : decode cX4_layBorder 46 = .ok (.aload_n 0, 1) := by decide +kernel
theorem dX4_layBorder_47 : decode cX4_layBorder 47 = .ok (.iload_n 2, 1) := by decide +kernel
theorem dX4_layBorder_48 : decode cX4_layBorder 48 = .ok (.iload_n 3, 1) := by decide +kernel
theorem dX4_layBorder_49 : decode cX4_layBorder 49 = .ok (.invokestatic 88, 3) := by decide +kernel
theorem dX4_layBorder_52 : decode cX4_layBorder 52 = .ok (.putfield 91, 3) := by decide +kernel
theorem dX4_layBorder_55 : decode cX4_layBorder 55 = .ok (.iconst 1, 1) := by decide +kernel
theorem dX4_layBorder_56 : decode cX4_layBorder 56 = .ok (.ireturn, 1) := by decide +kernel
theorem dX4_layDishes_0 : decode cX4_layDishes 0 = .ok (.iconst 0, 1) := by decide +kernel
theorem dX4_layDishes_1 : decode cX4_layDishes 1 = .ok (.istore_n 2, 1) := by decide +kernel
theorem dX4_layDishes_2 : decode cX4_layDishes 2 = .ok (.iload_n 2, 1) := by decide +kernel
theorem dX4_layDishes_3 : decode cX4_layDishes 3 = .ok (.bipush 6, 2) := by decide +kernel
theorem dX4_layDishes_5 : decode cX4_layDishes 5 = .ok (.if_icmp .ge 31, 3) := by decide +kernel
theorem dX4_layDishes_8 : decode cX4_layDishes 8 = .ok (.iload_n 2, 1) := by decide +kernel
theorem dX4_layDishes_9 : decode cX4_layDishes 9 = .ok (.ifCond .le 10, 3) := by decide +kernel
theorem dX4_layDishes_12 : decode cX4_layDishes 12 = .ok (.aload_n 1, 1) := by decide +kernel
theorem dX4_layDishes_13 : decode cX4_layDishes 13 = .ok (.invokevirtual 62, 3) := by decide +kernel
theorem dX4_layDishes_16 : decode cX4_layDishes 16 = .ok (.ifCond .ne 20, 3) := by decide +kernel
theorem dX4_layDishes_19 : decode cX4_layDishes 19 = .ok (.aload_n 0, 1) := by decide +kernel
theorem dX4_layDishes_20 : decode cX4_layDishes 20 = .ok (.aload_n 1, 1) := by decide +kernel
theorem dX4_layDishes_21 : decode cX4_layDishes 21 = .ok (.iload_n 2, 1) := by decide +kernel
theorem dX4_layDishes_22 : decode cX4_layDishes 22 = .ok (.invokevirtual 94, 3) := by decide +kernel
theorem dX4_layDishes_25 : decode cX4_layDishes 25 = .ok (.ifCond .ne 5, 3) := by decide +kernel
theorem dX4_layDishes_28 : decode cX4_layDishes 28 = .ok (.iconst 0, 1) := by decide +kernel
theorem dX4_layDishes_29 : decode cX4_layDishes 29 = .ok (.ireturn, 1) := by decide +kernel
theorem dX4_layDishes_30 : decode cX4_layDishes 30 = .ok (.iinc 2 1, 3) := by decide +kernel
theorem dX4_layDishes_33 : decode cX4_layDishes 33 = .ok (.goto (-31), 3) := by decide +kernel
theorem dX4_layDishes_36 : decode cX4_layDishes 36 = .ok (.aload_n 0, 1) := by decide +kernel
theorem dX4_layDishes_37 : decode cX4_layDishes 37 = .ok (.iload_n 2, 1) := by decide +kernel
theorem dX4_layDishes_38 : decode cX4_layDishes 38 = .ok (.putfield 97, 3) := by decide +kernel
theorem dX4_layDishes_41 : decode cX4_layDishes 41 = .ok (.iconst 1, 1) := by decide +kernel
theorem dX4_layDishes_42 : decode cX4_layDishes 42 = .ok (.ireturn, 1) := by decide +kernel
theorem dX4_layDish_0 : decode cX4_layDish 0 = .ok (.aload_n 1, 1) := by decide +kernel
theorem dX4_layDish_1 : decode cX4_layDish 1 = .ok (.bipush 59, 2) := by decide +kernel
theorem dX4_layDish_3 : decode cX4_layDish 3 = .ok (.invokevirtual 43, 3) := by decide +kernel
theorem dX4_layDish_6 : decode cX4_layDish 6 = .ok (.ifCond .ne 5, 3) := by decide +kernel
theorem dX4_layDish_9 : decode cX4_layDish 9 = .ok (.iconst 0, 1) := by decide +kernel
theorem dX4_layDish_10 : decode cX4_layDish 10 = .ok (.ireturn, 1) := by decide +kernel
theorem dX4_layDish_11 : decode cX4_layDish 11 = .ok (.aload_n 0, 1) := by decide +kernel
theorem dX4_layDish_12 : decode cX4_layDish 12 = .ok (.getfield 24, 3) := by decide +kernel
theorem dX4_layDish_15 : decode cX4_layDish 15 = .ok (.iload_n 2, 1) := by decide +kernel
theorem dX4_layDish_16 : decode cX4_layDish 16 = .ok (.aload_n 1, 1) := by decide +kernel
theorem dX4_layDish_17 : decode cX4_layDish 17 = .ok (.aload_n 0, 1) := by decide +kernel
theorem dX4_layDish_18 : decode cX4_layDish 18 = .ok (.getfield 36, 3) := by decide +kernel
theorem dX4_layDish_21 : decode cX4_layDish 21 = .ok (.invokevirtual 66, 3) := by decide +kernel
theorem dX4_layDish_24 : decode cX4_layDish 24 = .ok (.iastore, 1) := by decide +kernel
theorem dX4_layDish_25 : decode cX4_layDish 25 = .ok (.aload_n 0, 1) := by decide +kernel
theorem dX4_layDish_26 : decode cX4_layDish 26 = .ok (.getfield 24, 3) := by decide +kernel
theorem dX4_layDish_29 : decode cX4_layDish 29 = .ok (.iload_n 2, 1) := by decide +kernel
theorem dX4_layDish_30 : decode cX4_layDish 30 = .ok (.iaload, 1) := by decide +kernel
theorem dX4_layDish_31 : decode cX4_layDish 31 = .ok (.bipush (-9), 2) := by decide +kernel
theorem dX4_layDish_33 : decode cX4_layDish 33 = .ok (.if_icmp .ne 5, 3) := by decide +kernel
theorem dX4_layDish_36 : decode cX4_layDish 36 = .ok (.iconst 0, 1) := by decide +kernel
theorem dX4_layDish_37 : decode cX4_layDish 37 = .ok (.ireturn, 1) := by decide +kernel
theorem dX4_layDish_38 : decode cX4_layDish 38 = .ok (.aload_n 0, 1) := by decide +kernel
theorem dX4_layDish_39 : decode cX4_layDish 39 = .ok (.getfield 27, 3) := by decide +kernel
theorem dX4_layDish_42 : decode cX4_layDish 42 = .ok (.iload_n 2, 1) := by decide +kernel
theorem dX4_layDish_43 : decode cX4_layDish 43 = .ok (.aload_n 1, 1) := by decide +kernel
theorem dX4_layDish_44 : decode cX4_layDish 44 = .ok (.bipush 10, 2) := by decide +kernel
theorem dX4_layDish_46 : decode cX4_layDish 46 = .ok (.invokevirtual 66, 3) := by decide +kernel
theorem dX4_layDish_49 : decode cX4_layDish 49 = .ok (.iastore, 1) := by decide +kernel
theorem dX4_layDish_50 : decode cX4_layDish 50 = .ok (.aload_n 0, 1) := by decide +kernel
theorem dX4_layDish_51 : decode cX4_layDish 51 = .ok (.getfield 27, 3) := by decide +kernel
theorem dX4_layDish_54 : decode cX4_layDish 54 = .ok (.iload_n 2, 1) := by decide +kernel
theorem dX4_layDish_55 : decode cX4_layDish 55 = .ok (.iaload, 1) := by decide +kernel
theorem dX4_layDish_56 : decode cX4_layDish 56 = .ok (.bipush (-9), 2) := by decide +kernel
theorem dX4_layDish_58 : decode cX4_layDish 58 = .ok (.if_icmp .eq 7, 3) := by decide +kernel
theorem dX4_layDish_61 : decode cX4_layDish 61 = .ok (.iconst 1, 1) := by decide +kernel
theorem dX4_layDish_62 : decode cX4_layDish 62 = .ok (.goto 4, 3) := by decide +kernel
theorem dX4_layDish_65 : decode cX4_layDish 65 = .ok (.iconst 0, 1) := by decide +kernel
theorem dX4_layDish_66 : decode cX4_layDish 66 = .ok (.ireturn, 1) := by decide +kernel
theorem dX4_stepsBehind_0 : decode cX4_stepsBehind 0 = .ok (.iload_n 2, 1) := by decide +kernel
theorem dX4_stepsBehind_1 : decode cX4_stepsBehind 1 = .ok (.iload_n 1, 1) := by decide +kernel
theorem dX4_stepsBehind_2 : decode cX4_stepsBehind 2 = .ok (.if_icmp .lt 9, 3) := by decide +kernel
theorem dX4_stepsBehind_5 : decode cX4_stepsBehind 5 = .ok (.iload_n 2, 1) := by decide +kernel
theorem dX4_stepsBehind_6 : decode cX4_stepsBehind 6 = .ok (.iload_n 1, 1) := by decide +kernel
theorem dX4_stepsBehind_7 : decode cX4_stepsBehind 7 = .ok (.isub, 1) := by decide +kernel
theorem dX4_stepsBehind_8 : decode cX4_stepsBehind 8 = .ok (.goto 11, 3) := by decide +kernel
theorem dX4_stepsBehind_11 : decode cX4_stepsBehind 11 = .ok (.iload_n 2, 1) := by decide +kernel
theorem dX4_stepsBehind_12 : decode cX4_stepsBehind 12 = .ok (.iload_n 1, 1) := by decide +kernel
theorem dX4_stepsBehind_13 : decode cX4_stepsBehind 13 = .ok (.isub, 1) := by decide +kernel
theorem dX4_stepsBehind_14 : decode cX4_stepsBehind 14 = .ok (.aload_n 0, 1) := by decide +kernel
theorem dX4_stepsBehind_15 : decode cX4_stepsBehind 15 = .ok (.getfield 36, 3) := by decide +kernel
theorem dX4_stepsBehind_18 : decode cX4_stepsBehind 18 = .ok (.iadd, 1) := by decide +kernel
theorem dX4_stepsBehind_19 : decode cX4_stepsBehind 19 = .ok (.ireturn, 1) := by decide +kernel
theorem dX4_ownerOf_0 : decode cX4_ownerOf 0 = .ok (.iload_n 2, 1) := by decide +kernel
theorem dX4_ownerOf_1 : decode cX4_ownerOf 1 = .ok (.invokestatic 100, 3) := by decide +kernel
theorem dX4_ownerOf_4 : decode cX4_ownerOf 4 = .ok (.istore_n 3, 1) := by decide +kernel
theorem dX4_ownerOf_5 : decode cX4_ownerOf 5 = .ok (.iload_n 2, 1) := by decide +kernel
theorem dX4_ownerOf_6 : decode cX4_ownerOf 6 = .ok (.invokestatic 103, 3) := by decide +kernel
theorem dX4_ownerOf_9 : decode cX4_ownerOf 9 = .ok (.istore 4, 2) := by decide +kernel
theorem dX4_ownerOf_11 : decode cX4_ownerOf 11 = .ok (.iload_n 1, 1) := by decide +kernel
theorem dX4_ownerOf_12 : decode cX4_ownerOf 12 = .ok (.iload_n 3, 1) := by decide +kernel
theorem dX4_ownerOf_13 : decode cX4_ownerOf 13 = .ok (.if_icmp .eq 9, 3) := by decide +kernel
theorem dX4_ownerOf_16 : decode cX4_ownerOf 16 = .ok (.iload_n 1, 1) := by decide +kernel
theorem dX4_ownerOf_17 : decode cX4_ownerOf 17 = .ok (.iload 4, 2) := by decide +kernel
theorem dX4_ownerOf_19 : decode cX4_ownerOf 19 = .ok (.if_icmp .ne 6, 3) := by decide +kernel
theorem dX4_ownerOf_22 : decode cX4_ownerOf 22 = .ok (.bipush (-9), 2) := by decide +kernel
theorem dX4_ownerOf_24 : decode cX4_ownerOf 24 = .ok (.ireturn, 1) := by decide +kernel
theorem dX4_ownerOf_25 : decode cX4_ownerOf 25 = .ok (.aload_n 0, 1) := by decide +kernel
theorem dX4_ownerOf_26 : decode cX4_ownerOf 26 = .ok (.iload_n 3, 1) := by decide +kernel
theorem dX4_ownerOf_27 : decode cX4_ownerOf 27 = .ok (.iload_n 1, 1) := by decide +kernel
theorem dX4_ownerOf_28 : decode cX4_ownerOf 28 = .ok (.invokevirtual 106, 3) := by decide +kernel
theorem dX4_ownerOf_31 : decode cX4_ownerOf 31 = .ok (.aload_n 0, 1) := by decide +kernel
theorem dX4_ownerOf_32 : decode cX4_ownerOf 32 = .ok (.iload_n 3, 1) := by decide +kernel
theorem dX4_ownerOf_33 : decode cX4_ownerOf 33 = .ok (.iload 4, 2) := by decide +kernel
theorem dX4_ownerOf_35 : decode cX4_ownerOf 35 = .ok (.invokevirtual 106, 3) := by decide +kernel
theorem dX4_ownerOf_38 : decode cX4_ownerOf 38 = .ok (.if_icmp .ge 7, 3) := by decide +kernel
theorem dX4_ownerOf_41 : decode cX4_ownerOf 41 = .ok (.iconst 0, 1) := by decide +kernel
theorem dX4_ownerOf_42 : decode cX4_ownerOf 42 = .ok (.goto 4, 3) := by decide +kernel
theorem dX4_ownerOf_45 : decode cX4_ownerOf 45 = .ok (.iconst 1, 1) := by decide +kernel
theorem dX4_ownerOf_46 : decode cX4_ownerOf 46 = .ok (.ireturn, 1) := by decide +kernel
theorem dX4_ownerOfDish_0 : decode cX4_ownerOfDish 0 = .ok (.aload_n 0, 1) := by decide +kernel
theorem dX4_ownerOfDish_1 : decode cX4_ownerOfDish 1 = .ok (.aload_n 0, 1) := by decide +kernel
theorem dX4_ownerOfDish_2 : decode cX4_ownerOfDish 2 = .ok (.getfield 24, 3) := by decide +kernel
theorem dX4_ownerOfDish_5 : decode cX4_ownerOfDish 5 = .ok (.iload_n 1, 1) := by decide +kernel
theorem dX4_ownerOfDish_6 : decode cX4_ownerOfDish 6 = .ok (.iaload, 1) := by decide +kernel
theorem dX4_ownerOfDish_7 : decode cX4_ownerOfDish 7 = .ok (.iload_n 2, 1) := by decide +kernel
theorem dX4_ownerOfDish_8 : decode cX4_ownerOfDish 8 = .ok (.invokevirtual 109, 3) := by decide +kernel
theorem dX4_ownerOfDish_11 : decode cX4_ownerOfDish 11 = .ok (.ireturn, 1) := by decide +kernel
theorem dX4_landOf_0 : decode cX4_landOf 0 = .ok (.iconst 0, 1) := by decide +kernel
theorem dX4_landOf_1 : decode cX4_landOf 1 = .ok (.istore_n 3, 1) := by decide +kernel
theorem dX4_landOf_2 : decode cX4_landOf 2 = .ok (.iconst 0, 1) := by decide +kernel
theorem dX4_landOf_3 : decode cX4_landOf 3 = .ok (.istore 4, 2) := by decide +kernel
theorem dX4_landOf_5 : decode cX4_landOf 5 = .ok (.iload 4, 2) := by decide +kernel
theorem dX4_landOf_7 : decode cX4_landOf 7 = .ok (.aload_n 0, 1) := by decide +kernel
theorem dX4_landOf_8 : decode cX4_landOf 8 = .ok (.getfield 97, 3) := by decide +kernel
theorem dX4_landOf_11 : decode cX4_landOf 11 = .ok (.if_icmp .ge 35, 3) := by decide +kernel
theorem dX4_landOf_14 : decode cX4_landOf 14 = .ok (.aload_n 0, 1) := by decide +kernel
theorem dX4_landOf_15 : decode cX4_landOf 15 = .ok (.aload_n 0, 1) := by decide +kernel
theorem dX4_landOf_16 : decode cX4_landOf 16 = .ok (.getfield 24, 3) := by decide +kernel
theorem dX4_landOf_19 : decode cX4_landOf 19 = .ok (.iload 4, 2) := by decide +kernel
theorem dX4_landOf_21 : decode cX4_landOf 21 = .ok (.iaload, 1) := by decide +kernel
theorem dX4_landOf_22 : decode cX4_landOf 22 = .ok (.iload_n 2, 1) := by decide +kernel
theorem dX4_landOf_23 : decode cX4_landOf 23 = .ok (.invokevirtual 109, 3) := by decide +kernel
theorem dX4_landOf_26 : decode cX4_landOf 26 = .ok (.iload_n 1, 1) := by decide +kernel
theorem dX4_landOf_27 : decode cX4_landOf 27 = .ok (.if_icmp .ne 13, 3) := by decide +kernel
theorem dX4_landOf_30 : decode cX4_landOf 30 = .ok (.iload_n 3, 1) := by decide +kernel
theorem dX4_landOf_31 : decode cX4_landOf 31 = .ok (.aload_n 0, 1) := by decide +kernel
theorem dX4_landOf_32 : decode cX4_landOf 32 = .ok (.getfield 27, 3) := by decide +kernel
theorem dX4_landOf_35 : decode cX4_landOf 35 = .ok (.iload 4, 2) := by decide +kernel
theorem dX4_landOf_37 : decode cX4_landOf 37 = .ok (.iaload, 1) := by decide +kernel
theorem dX4_landOf_38 : decode cX4_landOf 38 = .ok (.iadd, 1) := by decide +kernel
theorem dX4_landOf_39 : decode cX4_landOf 39 = .ok (.istore_n 3, 1) := by decide +kernel
theorem dX4_landOf_40 : decode cX4_landOf 40 = .ok (.iinc 4 1, 3) := by decide +kernel
theorem dX4_landOf_43 : decode cX4_landOf 43 = .ok (.goto (-38), 3) := by decide +kernel
theorem dX4_landOf_46 : decode cX4_landOf 46 = .ok (.iload_n 3, 1) := by decide +kernel
theorem dX4_landOf_47 : decode cX4_landOf 47 = .ok (.ireturn, 1) := by decide +kernel
theorem dX4_minutesAs_0 : decode cX4_minutesAs 0 = .ok (.iload_n 1, 1) := by decide +kernel
theorem dX4_minutesAs_1 : decode cX4_minutesAs 1 = .ok (.iload_n 2, 1) := by decide +kernel
theorem dX4_minutesAs_2 : decode cX4_minutesAs 2 = .ok (.iadd, 1) := by decide +kernel
theorem dX4_minutesAs_3 : decode cX4_minutesAs 3 = .ok (.istore_n 3, 1) := by decide +kernel
theorem dX4_minutesAs_4 : decode cX4_minutesAs 4 = .ok (.iload_n 0, 1) := by decide +kernel
theorem dX4_minutesAs_5 : decode cX4_minutesAs 5 = .ok (.lookupswitch 39 #[(1, 31), (2, 27)], 27) := by decide +kernel
theorem dX4_minutesAs_32 : decode cX4_minutesAs 32 = .ok (.iload_n 3, 1) := by decide +kernel
theorem dX4_minutesAs_33 : decode cX4_minutesAs 33 = .ok (.iconst 2, 1) := by decide +kernel
theorem dX4_minutesAs_34 : decode cX4_minutesAs 34 = .ok (.idiv, 1) := by decide +kernel
theorem dX4_minutesAs_35 : decode cX4_minutesAs 35 = .ok (.ireturn, 1) := by decide +kernel
theorem dX4_minutesAs_36 : decode cX4_minutesAs 36 = .ok (.iload_n 3, 1) := by decide +kernel
theorem dX4_minutesAs_37 : decode cX4_minutesAs 37 = .ok (.iconst 1, 1) := by decide +kernel
theorem dX4_minutesAs_38 : decode cX4_minutesAs 38 = .ok (.isub, 1) := by decide +kernel
theorem dX4_minutesAs_39 : decode cX4_minutesAs 39 = .ok (.iconst 0, 1) := by decide +kernel
theorem dX4_minutesAs_40 : decode cX4_minutesAs 40 = .ok (.invokestatic 112, 3) := by decide +kernel
theorem dX4_minutesAs_43 : decode cX4_minutesAs 43 = .ok (.ireturn, 1) := by decide +kernel
theorem dX4_minutesAs_44 : decode cX4_minutesAs 44 = .ok (.iload_n 3, 1) := by decide +kernel
theorem dX4_minutesAs_45 : decode cX4_minutesAs 45 = .ok (.ireturn, 1) := by decide +kernel
theorem dX4_minutesOf_0 : decode cX4_minutesOf 0 = .ok (.aload_n 0, 1) := by decide +kernel
theorem dX4_minutesOf_1 : decode cX4_minutesOf 1 = .ok (.getfield 9, 3) := by decide +kernel
theorem dX4_minutesOf_4 : decode cX4_minutesOf 4 = .ok (.iload_n 1, 1) := by decide +kernel
theorem dX4_minutesOf_5 : decode cX4_minutesOf 5 = .ok (.iaload, 1) := by decide +kernel
theorem dX4_minutesOf_6 : decode cX4_minutesOf 6 = .ok (.aload_n 0, 1) := by decide +kernel
theorem dX4_minutesOf_7 : decode cX4_minutesOf 7 = .ok (.getfield 15, 3) := by decide +kernel
theorem dX4_minutesOf_10 : decode cX4_minutesOf 10 = .ok (.iload_n 1, 1) := by decide +kernel
theorem dX4_minutesOf_11 : decode cX4_minutesOf 11 = .ok (.iaload, 1) := by decide +kernel
theorem dX4_minutesOf_12 : decode cX4_minutesOf 12 = .ok (.aload_n 0, 1) := by decide +kernel
theorem dX4_minutesOf_13 : decode cX4_minutesOf 13 = .ok (.getfield 70, 3) := by decide +kernel
theorem dX4_minutesOf_16 : decode cX4_minutesOf 16 = .ok (.invokestatic 117, 3) := by decide +kernel
theorem dX4_minutesOf_19 : decode cX4_minutesOf 19 = .ok (.ireturn, 1) := by decide +kernel
theorem dX4_neighbour_0 : decode cX4_neighbour 0 = .ok (.iload_n 2, 1) := by decide +kernel
theorem dX4_neighbour_1 : decode cX4_neighbour 1 = .ok (.iconst 2, 1) := by decide +kernel
theorem dX4_neighbour_2 : decode cX4_neighbour 2 = .ok (.irem, 1) := by decide +kernel
theorem dX4_neighbour_3 : decode cX4_neighbour 3 = .ok (.ifCond .ne 20, 3) := by decide +kernel
theorem dX4_neighbour_6 : decode cX4_neighbour 6 = .ok (.iload_n 1, 1) := by decide +kernel
theorem dX4_neighbour_7 : decode cX4_neighbour 7 = .ok (.ifCond .ne 12, 3) := by decide +kernel
theorem dX4_neighbour_10 : decode cX4_neighbour 10 = .ok (.aload_n 0, 1) := by decide +kernel
theorem dX4_neighbour_11 : decode cX4_neighbour 11 = .ok (.getfield 36, 3) := by decide +kernel
theorem dX4_neighbour_14 : decode cX4_neighbour 14 = .ok (.iconst 1, 1) := by decide +kernel
theorem dX4_neighbour_15 : decode cX4_neighbour 15 = .ok (.isub, 1) := by decide +kernel
theorem dX4_neighbour_16 : decode cX4_neighbour 16 = .ok (.goto 6, 3) := by decide +kernel
theorem dX4_neighbour_19 : decode cX4_neighbour 19 = .ok (.iload_n 1, 1) := by decide +kernel
theorem dX4_neighbour_20 : decode cX4_neighbour 20 = .ok (.iconst 1, 1) := by decide +kernel
theorem dX4_neighbour_21 : decode cX4_neighbour 21 = .ok (.isub, 1) := by decide +kernel
theorem dX4_neighbour_22 : decode cX4_neighbour 22 = .ok (.ireturn, 1) := by decide +kernel
theorem dX4_neighbour_23 : decode cX4_neighbour 23 = .ok (.iload_n 1, 1) := by decide +kernel
theorem dX4_neighbour_24 : decode cX4_neighbour 24 = .ok (.aload_n 0, 1) := by decide +kernel
theorem dX4_neighbour_25 : decode cX4_neighbour 25 = .ok (.getfield 36, 3) := by decide +kernel
theorem dX4_neighbour_28 : decode cX4_neighbour 28 = .ok (.iconst 1, 1) := by decide +kernel
theorem dX4_neighbour_29 : decode cX4_neighbour 29 = .ok (.isub, 1) := by decide +kernel
theorem dX4_neighbour_30 : decode cX4_neighbour 30 = .ok (.if_icmp .ne 7, 3) := by decide +kernel
theorem dX4_neighbour_33 : decode cX4_neighbour 33 = .ok (.iconst 0, 1) := by decide +kernel
theorem dX4_neighbour_34 : decode cX4_neighbour 34 = .ok (.goto 6, 3) := by decide +kernel
theorem dX4_neighbour_37 : decode cX4_neighbour 37 = .ok (.iload_n 1, 1) := by decide +kernel
theorem dX4_neighbour_38 : decode cX4_neighbour 38 = .ok (.iconst 1, 1) := by decide +kernel
theorem dX4_neighbour_39 : decode cX4_neighbour 39 = .ok (.iadd, 1) := by decide +kernel
theorem dX4_neighbour_40 : decode cX4_neighbour 40 = .ok (.ireturn, 1) := by decide +kernel
theorem dX4_borderBehind_0 : decode cX4_borderBehind 0 = .ok (.iload_n 1, 1) := by decide +kernel
theorem dX4_borderBehind_1 : decode cX4_borderBehind 1 = .ok (.invokestatic 100, 3) := by decide +kernel
theorem dX4_borderBehind_4 : decode cX4_borderBehind 4 = .ok (.istore_n 3, 1) := by decide +kernel
theorem dX4_borderBehind_5 : decode cX4_borderBehind 5 = .ok (.iload_n 1, 1) := by decide +kernel
theorem dX4_borderBehind_6 : decode cX4_borderBehind 6 = .ok (.invokestatic 103, 3) := by decide +kernel
theorem dX4_borderBehind_9 : decode cX4_borderBehind 9 = .ok (.istore 4, 2) := by decide +kernel
theorem dX4_borderBehind_11 : decode cX4_borderBehind 11 = .ok (.iload_n 2, 1) := by decide +kernel
theorem dX4_borderBehind_12 : decode cX4_borderBehind 12 = .ok (.iconst 2, 1) := by decide +kernel
theorem dX4_borderBehind_13 : decode cX4_borderBehind 13 = .ok (.if_icmp .ge 13, 3) := by decide +kernel
theorem dX4_borderBehind_16 : decode cX4_borderBehind 16 = .ok (.aload_n 0, 1) := by decide +kernel
theorem dX4_borderBehind_17 : decode cX4_borderBehind 17 = .ok (.iload_n 3, 1) := by decide +kernel
theorem dX4_borderBehind_18 : decode cX4_borderBehind 18 = .ok (.iload_n 2, 1) := by decide +kernel
theorem dX4_borderBehind_19 : decode cX4_borderBehind 19 = .ok (.invokevirtual 121, 3) := by decide +kernel
theorem dX4_borderBehind_22 : decode cX4_borderBehind 22 = .ok (.istore_n 3, 1) := by decide +kernel
theorem dX4_borderBehind_23 : decode cX4_borderBehind 23 = .ok (.goto 12, 3) := by decide +kernel
theorem dX4_borderBehind_26 : decode cX4_borderBehind 26 = .ok (.aload_n 0, 1) := by decide +kernel
theorem dX4_borderBehind_27 : decode cX4_borderBehind 27 = .ok (.iload 4, 2) := by decide +kernel
theorem dX4_borderBehind_29 : decode cX4_borderBehind 29 = .ok (.iload_n 2, 1) := by decide +kernel
theorem dX4_borderBehind_30 : decode cX4_borderBehind 30 = .ok (.invokevirtual 121, 3) := by decide +kernel
theorem dX4_borderBehind_33 : decode cX4_borderBehind 33 = .ok (.istore 4, 2) := by decide +kernel
theorem dX4_borderBehind_35 : decode cX4_borderBehind 35 = .ok (.iload_n 3, 1) := by decide +kernel
theorem dX4_borderBehind_36 : decode cX4_borderBehind 36 = .ok (.iload 4, 2) := by decide +kernel
theorem dX4_borderBehind_38 : decode cX4_borderBehind 38 = .ok (.if_icmp .ne 8, 3) := by decide +kernel
theorem dX4_borderBehind_41 : decode cX4_borderBehind 41 = .ok (.bipush (-9), 2) := by decide +kernel
theorem dX4_borderBehind_43 : decode cX4_borderBehind 43 = .ok (.goto 9, 3) := by decide +kernel
theorem dX4_borderBehind_46 : decode cX4_borderBehind 46 = .ok (.iload_n 3, 1) := by decide +kernel
theorem dX4_borderBehind_47 : decode cX4_borderBehind 47 = .ok (.iload 4, 2) := by decide +kernel
theorem dX4_borderBehind_49 : decode cX4_borderBehind 49 = .ok (.invokestatic 88, 3) := by decide +kernel
theorem dX4_borderBehind_52 : decode cX4_borderBehind 52 = .ok (.ireturn, 1) := by decide +kernel
theorem dX4_isBorder_0 : decode cX4_isBorder 0 = .ok (.iload_n 1, 1) := by decide +kernel
theorem dX4_isBorder_1 : decode cX4_isBorder 1 = .ok (.invokestatic 100, 3) := by decide +kernel
theorem dX4_isBorder_4 : decode cX4_isBorder 4 = .ok (.istore_n 2, 1) := by decide +kernel
theorem dX4_isBorder_5 : decode cX4_isBorder 5 = .ok (.iload_n 1, 1) := by decide +kernel
theorem dX4_isBorder_6 : decode cX4_isBorder 6 = .ok (.invokestatic 103, 3) := by decide +kernel
theorem dX4_isBorder_9 : decode cX4_isBorder 9 = .ok (.istore_n 3, 1) := by decide +kernel
theorem dX4_isBorder_10 : decode cX4_isBorder 10 = .ok (.iload_n 2, 1) := by decide +kernel
theorem dX4_isBorder_11 : decode cX4_isBorder 11 = .ok (.aload_n 0, 1) := by decide +kernel
theorem dX4_isBorder_12 : decode cX4_isBorder 12 = .ok (.getfield 36, 3) := by decide +kernel
theorem dX4_isBorder_15 : decode cX4_isBorder 15 = .ok (.if_icmp .ge 20, 3) := by decide +kernel
theorem dX4_isBorder_18 : decode cX4_isBorder 18 = .ok (.iload_n 3, 1) := by decide +kernel
theorem dX4_isBorder_19 : decode cX4_isBorder 19 = .ok (.aload_n 0, 1) := by decide +kernel
theorem dX4_isBorder_20 : decode cX4_isBorder 20 = .ok (.getfield 36, 3) := by decide +kernel
theorem dX4_isBorder_23 : decode cX4_isBorder 23 = .ok (.if_icmp .ge 12, 3) := by decide +kernel
theorem dX4_isBorder_26 : decode cX4_isBorder 26 = .ok (.iload_n 2, 1) := by decide +kernel
theorem dX4_isBorder_27 : decode cX4_isBorder 27 = .ok (.iload_n 3, 1) := by decide +kernel
theorem dX4_isBorder_28 : decode cX4_isBorder 28 = .ok (.if_icmp .eq 7, 3) := by decide +kernel
theorem dX4_isBorder_31 : decode cX4_isBorder 31 = .ok (.iconst 1, 1) := by decide +kernel
theorem dX4_isBorder_32 : decode cX4_isBorder 32 = .ok (.goto 4, 3) := by decide +kernel
theorem dX4_isBorder_35 : decode cX4_isBorder 35 = .ok (.iconst 0, 1) := by decide +kernel
theorem dX4_isBorder_36 : decode cX4_isBorder 36 = .ok (.ireturn, 1) := by decide +kernel
theorem dX4_bestMargin_0 : decode cX4_bestMargin 0 = .ok (.iload_n 3, 1) := by decide +kernel
theorem dX4_bestMargin_1 : decode cX4_bestMargin 1 = .ok (.ifCond .gt 19, 3) := by decide +kernel
theorem dX4_bestMargin_4 : decode cX4_bestMargin 4 = .ok (.aload_n 0, 1) := by decide +kernel
theorem dX4_bestMargin_5 : decode cX4_bestMargin 5 = .ok (.iload_n 2, 1) := by decide +kernel
theorem dX4_bestMargin_6 : decode cX4_bestMargin 6 = .ok (.iload_n 1, 1) := by decide +kernel
theorem dX4_bestMargin_7 : decode cX4_bestMargin 7 = .ok (.invokevirtual 124, 3) := by decide +kernel
theorem dX4_bestMargin_10 : decode cX4_bestMargin 10 = .ok (.aload_n 0, 1) := by decide +kernel
theorem dX4_bestMargin_11 : decode cX4_bestMargin 11 = .ok (.iconst 1, 1) := by decide +kernel
theorem dX4_bestMargin_12 : decode cX4_bestMargin 12 = .ok (.iload_n 2, 1) := by decide +kernel
theorem dX4_bestMargin_13 : decode cX4_bestMargin 13 = .ok (.isub, 1) := by decide +kernel
theorem dX4_bestMargin_14 : decode cX4_bestMargin 14 = .ok (.iload_n 1, 1) := by decide +kernel
theorem dX4_bestMargin_15 : decode cX4_bestMargin 15 = .ok (.invokevirtual 124, 3) := by decide +kernel
theorem dX4_bestMargin_18 : decode cX4_bestMargin 18 = .ok (.isub, 1) := by decide +kernel
theorem dX4_bestMargin_19 : decode cX4_bestMargin 19 = .ok (.ireturn, 1) := by decide +kernel
theorem dX4_bestMargin_20 : decode cX4_bestMargin 20 = .ok (.sipush (-1000), 3) := by decide +kernel
theorem dX4_bestMargin_23 : decode cX4_bestMargin 23 = .ok (.istore 4, 2) := by decide +kernel
theorem dX4_bestMargin_25 : decode cX4_bestMargin 25 = .ok (.iconst 0, 1) := by decide +kernel
theorem dX4_bestMargin_26 : decode cX4_bestMargin 26 = .ok (.istore 5, 2) := by decide +kernel
theorem dX4_bestMargin_28 : decode cX4_bestMargin 28 = .ok (.iload 5, 2) := by decide +kernel
theorem dX4_bestMargin_30 : decode cX4_bestMargin 30 = .ok (.iconst 4, 1) := by decide +kernel
theorem dX4_bestMargin_31 : decode cX4_bestMargin 31 = .ok (.if_icmp .ge 25, 3) := by decide +kernel
theorem dX4_bestMargin_34 : decode cX4_bestMargin 34 = .ok (.iload 4, 2) := by decide +kernel
theorem dX4_bestMargin_36 : decode cX4_bestMargin 36 = .ok (.aload_n 0, 1) := by decide +kernel
theorem dX4_bestMargin_37 : decode cX4_bestMargin 37 = .ok (.iload_n 1, 1) := by decide +kernel
theorem dX4_bestMargin_38 : decode cX4_bestMargin 38 = .ok (.iload_n 2, 1) := by decide +kernel
theorem dX4_bestMargin_39 : decode cX4_bestMargin 39 = .ok (.iload_n 3, 1) := by decide +kernel
theorem dX4_bestMargin_40 : decode cX4_bestMargin 40 = .ok (.iload 5, 2) := by decide +kernel
theorem dX4_bestMargin_42 : decode cX4_bestMargin 42 = .ok (.invokevirtual 127, 3) := by decide +kernel
theorem dX4_bestMargin_45 : decode cX4_bestMargin 45 = .ok (.invokestatic 112, 3) := by decide +kernel
theorem dX4_bestMargin_48 : decode cX4_bestMargin 48 = .ok (.istore 4, 2) := by decide +kernel
theorem dX4_bestMargin_50 : decode cX4_bestMargin 50 = .ok (.iinc 5 1, 3) := by decide +kernel
theorem dX4_bestMargin_53 : decode cX4_bestMargin 53 = .ok (.goto (-25), 3) := by decide +kernel
theorem dX4_bestMargin_56 : decode cX4_bestMargin 56 = .ok (.iload 4, 2) := by decide +kernel
theorem dX4_bestMargin_58 : decode cX4_bestMargin 58 = .ok (.ireturn, 1) := by decide +kernel
theorem dX4_marginBehind_0 : decode cX4_marginBehind 0 = .ok (.aload_n 0, 1) := by decide +kernel
theorem dX4_marginBehind_1 : decode cX4_marginBehind 1 = .ok (.iload_n 1, 1) := by decide +kernel
theorem dX4_marginBehind_2 : decode cX4_marginBehind 2 = .ok (.iload 4, 2) := by decide +kernel
theorem dX4_marginBehind_4 : decode cX4_marginBehind 4 = .ok (.invokevirtual 131, 3) := by decide +kernel
theorem dX4_marginBehind_7 : decode cX4_marginBehind 7 = .ok (.istore 5, 2) := by decide +kernel
theorem dX4_marginBehind_9 : decode cX4_marginBehind 9 = .ok (.iload 5, 2) := by decide +kernel
theorem dX4_marginBehind_11 : decode cX4_marginBehind 11 = .ok (.bipush (-9), 2) := by decide +kernel
theorem dX4_marginBehind_13 : decode cX4_marginBehind 13 = .ok (.if_icmp .ne 9, 3) := by decide +kernel
theorem dX4_marginBehind_16 : decode cX4_marginBehind 16 = .ok (.sipush (-1000), 3) := by decide +kernel
theorem dX4_marginBehind_19 : decode cX4_marginBehind 19 = .ok (.goto 16, 3) := by decide +kernel
theorem dX4_marginBehind_22 : decode cX4_marginBehind 22 = .ok (.aload_n 0, 1) := by decide +kernel
theorem dX4_marginBehind_23 : decode cX4_marginBehind 23 = .ok (.iload 5, 2) := by decide +kernel
theorem dX4_marginBehind_25 : decode cX4_marginBehind 25 = .ok (.iconst 1, 1) := by decide +kernel
theorem dX4_marginBehind_26 : decode cX4_marginBehind 26 = .ok (.iload_n 2, 1) := by decide +kernel
theorem dX4_marginBehind_27 : decode cX4_marginBehind 27 = .ok (.isub, 1) := by decide +kernel
theorem dX4_marginBehind_28 : decode cX4_marginBehind 28 = .ok (.iload_n 3, 1) := by decide +kernel
theorem dX4_marginBehind_29 : decode cX4_marginBehind 29 = .ok (.iconst 1, 1) := by decide +kernel
theorem dX4_marginBehind_30 : decode cX4_marginBehind 30 = .ok (.isub, 1) := by decide +kernel
theorem dX4_marginBehind_31 : decode cX4_marginBehind 31 = .ok (.invokevirtual 134, 3) := by decide +kernel
theorem dX4_marginBehind_34 : decode cX4_marginBehind 34 = .ok (.ineg, 1) := by decide +kernel
theorem dX4_marginBehind_35 : decode cX4_marginBehind 35 = .ok (.ireturn, 1) := by decide +kernel
theorem dX4_bestRequest_0 : decode cX4_bestRequest 0 = .ok (.iconst 0, 1) := by decide +kernel
theorem dX4_bestRequest_1 : decode cX4_bestRequest 1 = .ok (.istore_n 3, 1) := by decide +kernel
theorem dX4_bestRequest_2 : decode cX4_bestRequest 2 = .ok (.aload_n 0, 1) := by decide +kernel
theorem dX4_bestRequest_3 : decode cX4_bestRequest 3 = .ok (.aload_n 0, 1) := by decide +kernel
theorem dX4_bestRequest_4 : decode cX4_bestRequest 4 = .ok (.getfield 91, 3) := by decide +kernel
theorem dX4_bestRequest_7 : decode cX4_bestRequest 7 = .ok (.iload_n 1, 1) := by decide +kernel
theorem dX4_bestRequest_8 : decode cX4_bestRequest 8 = .ok (.iload_n 2, 1) := by decide +kernel
theorem dX4_bestRequest_9 : decode cX4_bestRequest 9 = .ok (.iconst 0, 1) := by decide +kernel
theorem dX4_bestRequest_10 : decode cX4_bestRequest 10 = .ok (.invokevirtual 127, 3) := by decide +kernel
theorem dX4_bestRequest_13 : decode cX4_bestRequest 13 = .ok (.istore 4, 2) := by decide +kernel
theorem dX4_bestRequest_15 : decode cX4_bestRequest 15 = .ok (.iconst 1, 1) := by decide +kernel
theorem dX4_bestRequest_16 : decode cX4_bestRequest 16 = .ok (.istore 5, 2) := by decide +kernel
theorem dX4_bestRequest_18 : decode cX4_bestRequest 18 = .ok (.iload 5, 2) := by decide +kernel
theorem dX4_bestRequest_20 : decode cX4_bestRequest 20 = .ok (.iconst 4, 1) := by decide +kernel
theorem dX4_bestRequest_21 : decode cX4_bestRequest 21 = .ok (.if_icmp .ge 37, 3) := by decide +kernel
theorem dX4_bestRequest_24 : decode cX4_bestRequest 24 = .ok (.aload_n 0, 1) := by decide +kernel
theorem dX4_bestRequest_25 : decode cX4_bestRequest 25 = .ok (.aload_n 0, 1) := by decide +kernel
theorem dX4_bestRequest_26 : decode cX4_bestRequest 26 = .ok (.getfield 91, 3) := by decide +kernel
theorem dX4_bestRequest_29 : decode cX4_bestRequest 29 = .ok (.iload_n 1, 1) := by decide +kernel
theorem dX4_bestRequest_30 : decode cX4_bestRequest 30 = .ok (.iload_n 2, 1) := by decide +kernel
theorem dX4_bestRequest_31 : decode cX4_bestRequest 31 = .ok (.iload 5, 2) := by decide +kernel
theorem dX4_bestRequest_33 : decode cX4_bestRequest 33 = .ok (.invokevirtual 127, 3) := by decide +kernel
theorem dX4_bestRequest_36 : decode cX4_bestRequest 36 = .ok (.istore 6, 2) := by decide +kernel
theorem dX4_bestRequest_38 : decode cX4_bestRequest 38 = .ok (.iload 6, 2) := by decide +kernel
theorem dX4_bestRequest_40 : decode cX4_bestRequest 40 = .ok (.iload 4, 2) := by decide +kernel
theorem dX4_bestRequest_42 : decode cX4_bestRequest 42 = .ok (.if_icmp .le 10, 3) := by decide +kernel
theorem dX4_bestRequest_45 : decode cX4_bestRequest 45 = .ok (.iload 5, 2) := by decide +kernel
theorem dX4_bestRequest_47 : decode cX4_bestRequest 47 = .ok (.istore_n 3, 1) := by decide +kernel
theorem dX4_bestRequest_48 : decode cX4_bestRequest 48 = .ok (.iload 6, 2) := by decide +kernel
theorem dX4_bestRequest_50 : decode cX4_bestRequest 50 = .ok (.istore 4, 2) := by decide +kernel
theorem dX4_bestRequest_52 : decode cX4_bestRequest 52 = .ok (.iinc 5 1, 3) := by decide +kernel
theorem dX4_bestRequest_55 : decode cX4_bestRequest 55 = .ok (.goto (-37), 3) := by decide +kernel
theorem dX4_bestRequest_58 : decode cX4_bestRequest 58 = .ok (.iload_n 3, 1) := by decide +kernel
theorem dX4_bestRequest_59 : decode cX4_bestRequest 59 = .ok (.ireturn, 1) := by decide +kernel
theorem dX4_wetBy_0 : decode cX4_wetBy 0 = .ok (.iconst 0, 1) := by decide +kernel
theorem dX4_wetBy_1 : decode cX4_wetBy 1 = .ok (.istore_n 2, 1) := by decide +kernel
theorem dX4_wetBy_2 : decode cX4_wetBy 2 = .ok (.iconst 0, 1) := by decide +kernel
theorem dX4_wetBy_3 : decode cX4_wetBy 3 = .ok (.istore_n 3, 1) := by decide +kernel
theorem dX4_wetBy_4 : decode cX4_wetBy 4 = .ok (.iload_n 3, 1) := by decide +kernel
theorem dX4_wetBy_5 : decode cX4_wetBy 5 = .ok (.aload_n 0, 1) := by decide +kernel
theorem dX4_wetBy_6 : decode cX4_wetBy 6 = .ok (.getfield 36, 3) := by decide +kernel
theorem dX4_wetBy_9 : decode cX4_wetBy 9 = .ok (.if_icmp .ge 39, 3) := by decide +kernel
theorem dX4_wetBy_12 : decode cX4_wetBy 12 = .ok (.aload_n 0, 1) := by decide +kernel
theorem dX4_wetBy_13 : decode cX4_wetBy 13 = .ok (.iload_n 1, 1) := by decide +kernel
theorem dX4_wetBy_14 : decode cX4_wetBy 14 = .ok (.iload_n 3, 1) := by decide +kernel
theorem dX4_wetBy_15 : decode cX4_wetBy 15 = .ok (.invokevirtual 106, 3) := by decide +kernel
theorem dX4_wetBy_18 : decode cX4_wetBy 18 = .ok (.aload_n 0, 1) := by decide +kernel
theorem dX4_wetBy_19 : decode cX4_wetBy 19 = .ok (.iload_n 3, 1) := by decide +kernel
theorem dX4_wetBy_20 : decode cX4_wetBy 20 = .ok (.iload_n 1, 1) := by decide +kernel
theorem dX4_wetBy_21 : decode cX4_wetBy 21 = .ok (.invokevirtual 106, 3) := by decide +kernel
theorem dX4_wetBy_24 : decode cX4_wetBy 24 = .ok (.invokestatic 137, 3) := by decide +kernel
theorem dX4_wetBy_27 : decode cX4_wetBy 27 = .ok (.aload_n 0, 1) := by decide +kernel
theorem dX4_wetBy_28 : decode cX4_wetBy 28 = .ok (.getfield 18, 3) := by decide +kernel
theorem dX4_wetBy_31 : decode cX4_wetBy 31 = .ok (.iload_n 1, 1) := by decide +kernel
theorem dX4_wetBy_32 : decode cX4_wetBy 32 = .ok (.iaload, 1) := by decide +kernel
theorem dX4_wetBy_33 : decode cX4_wetBy 33 = .ok (.if_icmp .gt 9, 3) := by decide +kernel
theorem dX4_wetBy_36 : decode cX4_wetBy 36 = .ok (.iload_n 2, 1) := by decide +kernel
theorem dX4_wetBy_37 : decode cX4_wetBy 37 = .ok (.iconst 1, 1) := by decide +kernel
theorem dX4_wetBy_38 : decode cX4_wetBy 38 = .ok (.iload_n 3, 1) := by decide +kernel
theorem dX4_wetBy_39 : decode cX4_wetBy 39 = .ok (.ishl, 1) := by decide +kernel
theorem dX4_wetBy_40 : decode cX4_wetBy 40 = .ok (.ior, 1) := by decide +kernel
theorem dX4_wetBy_41 : decode cX4_wetBy 41 = .ok (.istore_n 2, 1) := by decide +kernel
theorem dX4_wetBy_42 : decode cX4_wetBy 42 = .ok (.iinc 3 1, 3) := by decide +kernel
theorem dX4_wetBy_45 : decode cX4_wetBy 45 = .ok (.goto (-41), 3) := by decide +kernel
theorem dX4_wetBy_48 : decode cX4_wetBy 48 = .ok (.iload_n 2, 1) := by decide +kernel
theorem dX4_wetBy_49 : decode cX4_wetBy 49 = .ok (.ireturn, 1) := by decide +kernel
theorem dX4_wetByAll_0 : decode cX4_wetByAll 0 = .ok (.iconst 0, 1) := by decide +kernel
theorem dX4_wetByAll_1 : decode cX4_wetByAll 1 = .ok (.istore_n 2, 1) := by decide +kernel
theorem dX4_wetByAll_2 : decode cX4_wetByAll 2 = .ok (.iconst 0, 1) := by decide +kernel
theorem dX4_wetByAll_3 : decode cX4_wetByAll 3 = .ok (.istore_n 3, 1) := by decide +kernel
theorem dX4_wetByAll_4 : decode cX4_wetByAll 4 = .ok (.iload_n 3, 1) := by decide +kernel
theorem dX4_wetByAll_5 : decode cX4_wetByAll 5 = .ok (.aload_n 0, 1) := by decide +kernel
theorem dX4_wetByAll_6 : decode cX4_wetByAll 6 = .ok (.getfield 36, 3) := by decide +kernel
theorem dX4_wetByAll_9 : decode cX4_wetByAll 9 = .ok (.if_icmp .ge 27, 3) := by decide +kernel
theorem dX4_wetByAll_12 : decode cX4_wetByAll 12 = .ok (.iload_n 1, 1) := by decide +kernel
theorem dX4_wetByAll_13 : decode cX4_wetByAll 13 = .ok (.iload_n 3, 1) := by decide +kernel
theorem dX4_wetByAll_14 : decode cX4_wetByAll 14 = .ok (.ishr, 1) := by decide +kernel
theorem dX4_wetByAll_15 : decode cX4_wetByAll 15 = .ok (.iconst 1, 1) := by decide +kernel
theorem dX4_wetByAll_16 : decode cX4_wetByAll 16 = .ok (.iand, 1) := by decide +kernel
theorem dX4_wetByAll_17 : decode cX4_wetByAll 17 = .ok (.iconst 1, 1) := by decide +kernel
theorem dX4_wetByAll_18 : decode cX4_wetByAll 18 = .ok (.if_icmp .ne 12, 3) := by decide +kernel
theorem dX4_wetByAll_21 : decode cX4_wetByAll 21 = .ok (.iload_n 2, 1) := by decide +kernel
theorem dX4_wetByAll_22 : decode cX4_wetByAll 22 = .ok (.aload_n 0, 1) := by decide +kernel
theorem dX4_wetByAll_23 : decode cX4_wetByAll 23 = .ok (.getfield 21, 3) := by decide +kernel
theorem dX4_wetByAll_26 : decode cX4_wetByAll 26 = .ok (.iload_n 3, 1) := by decide +kernel
theorem dX4_wetByAll_27 : decode cX4_wetByAll 27 = .ok (.iaload, 1) := by decide +kernel
theorem dX4_wetByAll_28 : decode cX4_wetByAll 28 = .ok (.ior, 1) := by decide +kernel
theorem dX4_wetByAll_29 : decode cX4_wetByAll 29 = .ok (.istore_n 2, 1) := by decide +kernel
theorem dX4_wetByAll_30 : decode cX4_wetByAll 30 = .ok (.iinc 3 1, 3) := by decide +kernel
theorem dX4_wetByAll_33 : decode cX4_wetByAll 33 = .ok (.goto (-29), 3) := by decide +kernel
theorem dX4_wetByAll_36 : decode cX4_wetByAll 36 = .ok (.iload_n 2, 1) := by decide +kernel
theorem dX4_wetByAll_37 : decode cX4_wetByAll 37 = .ok (.ireturn, 1) := by decide +kernel
theorem dX4_fewestWhoWet_0 : decode cX4_fewestWhoWet 0 = .ok (.iconst 0, 1) := by decide +kernel
theorem dX4_fewestWhoWet_1 : decode cX4_fewestWhoWet 1 = .ok (.istore_n 2, 1) := by decide +kernel
theorem dX4_fewestWhoWet_2 : decode cX4_fewestWhoWet 2 = .ok (.iload_n 2, 1) := by decide +kernel
theorem dX4_fewestWhoWet_3 : decode cX4_fewestWhoWet 3 = .ok (.aload_n 0, 1) := by decide +kernel
theorem dX4_fewestWhoWet_4 : decode cX4_fewestWhoWet 4 = .ok (.getfield 36, 3) := by decide +kernel
theorem dX4_fewestWhoWet_7 : decode cX4_fewestWhoWet 7 = .ok (.if_icmp .ge 20, 3) := by decide +kernel
theorem dX4_fewestWhoWet_10 : decode cX4_fewestWhoWet 10 = .ok (.aload_n 0, 1) := by decide +kernel
theorem dX4_fewestWhoWet_11 : decode cX4_fewestWhoWet 11 = .ok (.getfield 21, 3) := by decide +kernel
theorem dX4_fewestWhoWet_14 : decode cX4_fewestWhoWet 14 = .ok (.iload_n 2, 1) := by decide +kernel
theorem dX4_fewestWhoWet_15 : decode cX4_fewestWhoWet 15 = .ok (.aload_n 0, 1) := by decide +kernel
theorem dX4_fewestWhoWet_16 : decode cX4_fewestWhoWet 16 = .ok (.iload_n 2, 1) := by decide +kernel
theorem dX4_fewestWhoWet_17 : decode cX4_fewestWhoWet 17 = .ok (.invokevirtual 140, 3) := by decide +kernel
theorem dX4_fewestWhoWet_20 : decode cX4_fewestWhoWet 20 = .ok (.iastore, 1) := by decide +kernel
theorem dX4_fewestWhoWet_21 : decode cX4_fewestWhoWet 21 = .ok (.iinc 2 1, 3) := by decide +kernel
theorem dX4_fewestWhoWet_24 : decode cX4_fewestWhoWet 24 = .ok (.goto (-22), 3) := by decide +kernel
theorem dX4_fewestWhoWet_27 : decode cX4_fewestWhoWet 27 = .ok (.bipush (-9), 2) := by decide +kernel
theorem dX4_fewestWhoWet_29 : decode cX4_fewestWhoWet 29 = .ok (.istore_n 2, 1) := by decide +kernel
theorem dX4_fewestWhoWet_30 : decode cX4_fewestWhoWet 30 = .ok (.bipush 9, 2) := by decide +kernel
theorem dX4_fewestWhoWet_32 : decode cX4_fewestWhoWet 32 = .ok (.istore_n 3, 1) := by decide +kernel
theorem dX4_fewestWhoWet_33 : decode cX4_fewestWhoWet 33 = .ok (.iconst 0, 1) := by decide +kernel
theorem dX4_fewestWhoWet_34 : decode cX4_fewestWhoWet 34 = .ok (.istore 4, 2) := by decide +kernel
theorem dX4_fewestWhoWet_36 : decode cX4_fewestWhoWet 36 = .ok (.iload 4, 2) := by decide +kernel
theorem dX4_fewestWhoWet_38 : decode cX4_fewestWhoWet 38 = .ok (.iconst 1, 1) := by decide +kernel
theorem dX4_fewestWhoWet_39 : decode cX4_fewestWhoWet 39 = .ok (.aload_n 0, 1) := by decide +kernel
theorem dX4_fewestWhoWet_40 : decode cX4_fewestWhoWet 40 = .ok (.getfield 36, 3) := by decide +kernel
theorem dX4_fewestWhoWet_43 : decode cX4_fewestWhoWet 43 = .ok (.ishl, 1) := by decide +kernel
theorem dX4_fewestWhoWet_44 : decode cX4_fewestWhoWet 44 = .ok (.if_icmp .ge 38, 3) := by decide +kernel
theorem dX4_fewestWhoWet_47 : decode cX4_fewestWhoWet 47 = .ok (.iload 4, 2) := by decide +kernel
theorem dX4_fewestWhoWet_49 : decode cX4_fewestWhoWet 49 = .ok (.invokestatic 143, 3) := by decide +kernel
theorem dX4_fewestWhoWet_52 : decode cX4_fewestWhoWet 52 = .ok (.istore 5, 2) := by decide +kernel
theorem dX4_fewestWhoWet_54 : decode cX4_fewestWhoWet 54 = .ok (.iload 5, 2) := by decide +kernel
theorem dX4_fewestWhoWet_56 : decode cX4_fewestWhoWet 56 = .ok (.iload_n 3, 1) := by decide +kernel
theorem dX4_fewestWhoWet_57 : decode cX4_fewestWhoWet 57 = .ok (.if_icmp .ge 19, 3) := by decide +kernel
theorem dX4_fewestWhoWet_60 : decode cX4_fewestWhoWet 60 = .ok (.aload_n 0, 1) := by decide +kernel
theorem dX4_fewestWhoWet_61 : decode cX4_fewestWhoWet 61 = .ok (.iload 4, 2) := by decide +kernel
theorem dX4_fewestWhoWet_63 : decode cX4_fewestWhoWet 63 = .ok (.invokevirtual 148, 3) := by decide +kernel
theorem dX4_fewestWhoWet_66 : decode cX4_fewestWhoWet 66 = .ok (.iload_n 1, 1) := by decide +kernel
theorem dX4_fewestWhoWet_67 : decode cX4_fewestWhoWet 67 = .ok (.if_icmp .ne 9, 3) := by decide +kernel
theorem dX4_fewestWhoWet_70 : decode cX4_fewestWhoWet 70 = .ok (.iload 4, 2) := by decide +kernel
theorem dX4_fewestWhoWet_72 : decode cX4_fewestWhoWet 72 = .ok (.istore_n 2, 1) := by decide +kernel
theorem dX4_fewestWhoWet_73 : decode cX4_fewestWhoWet 73 = .ok (.iload 5, 2) := by decide +kernel
theorem dX4_fewestWhoWet_75 : decode cX4_fewestWhoWet 75 = .ok (.istore_n 3, 1) := by decide +kernel
theorem dX4_fewestWhoWet_76 : decode cX4_fewestWhoWet 76 = .ok (.iinc 4 1, 3) := by decide +kernel
theorem dX4_fewestWhoWet_79 : decode cX4_fewestWhoWet 79 = .ok (.goto (-43), 3) := by decide +kernel
theorem dX4_fewestWhoWet_82 : decode cX4_fewestWhoWet 82 = .ok (.iload_n 2, 1) := by decide +kernel
theorem dX4_fewestWhoWet_83 : decode cX4_fewestWhoWet 83 = .ok (.ireturn, 1) := by decide +kernel
theorem dX4_areReadingsSo_0 : decode cX4_areReadingsSo 0 = .ok (.iconst 0, 1) := by decide +kernel
theorem dX4_areReadingsSo_1 : decode cX4_areReadingsSo 1 = .ok (.istore 5, 2) := by decide +kernel
theorem dX4_areReadingsSo_3 : decode cX4_areReadingsSo 3 = .ok (.iload 5, 2) := by decide +kernel
theorem dX4_areReadingsSo_5 : decode cX4_areReadingsSo 5 = .ok (.aload_n 0, 1) := by decide +kernel
theorem dX4_areReadingsSo_6 : decode cX4_areReadingsSo 6 = .ok (.getfield 40, 3) := by decide +kernel
theorem dX4_areReadingsSo_9 : decode cX4_areReadingsSo 9 = .ok (.if_icmp .ge 69, 3) := by decide +kernel
theorem dX4_areReadingsSo_12 : decode cX4_areReadingsSo 12 = .ok (.aload_n 0, 1) := by decide +kernel
theorem dX4_areReadingsSo_13 : decode cX4_areReadingsSo 13 = .ok (.getfield 30, 3) := by decide +kernel
theorem dX4_areReadingsSo_16 : decode cX4_areReadingsSo 16 = .ok (.iload 5, 2) := by decide +kernel
theorem dX4_areReadingsSo_18 : decode cX4_areReadingsSo 18 = .ok (.iaload, 1) := by decide +kernel
theorem dX4_areReadingsSo_19 : decode cX4_areReadingsSo 19 = .ok (.istore 6, 2) := by decide +kernel
theorem dX4_areReadingsSo_21 : decode cX4_areReadingsSo 21 = .ok (.iload 6, 2) := by decide +kernel
theorem dX4_areReadingsSo_23 : decode cX4_areReadingsSo 23 = .ok (.iload_n 1, 1) := by decide +kernel
theorem dX4_areReadingsSo_24 : decode cX4_areReadingsSo 24 = .ok (.if_icmp .ne 13, 3) := by decide +kernel
theorem dX4_areReadingsSo_27 : decode cX4_areReadingsSo 27 = .ok (.iload_n 2, 1) := by decide +kernel
theorem dX4_areReadingsSo_28 : decode cX4_areReadingsSo 28 = .ok (.iload_n 3, 1) := by decide +kernel
theorem dX4_areReadingsSo_29 : decode cX4_areReadingsSo 29 = .ok (.iload 4, 2) := by decide +kernel
theorem dX4_areReadingsSo_31 : decode cX4_areReadingsSo 31 = .ok (.invokestatic 117, 3) := by decide +kernel
theorem dX4_areReadingsSo_34 : decode cX4_areReadingsSo 34 = .ok (.goto 22, 3) := by decide +kernel
theorem dX4_areReadingsSo_37 : decode cX4_areReadingsSo 37 = .ok (.aload_n 0, 1) := by decide +kernel
theorem dX4_areReadingsSo_38 : decode cX4_areReadingsSo 38 = .ok (.getfield 9, 3) := by decide +kernel
theorem dX4_areReadingsSo_41 : decode cX4_areReadingsSo 41 = .ok (.iload 6, 2) := by decide +kernel
theorem dX4_areReadingsSo_43 : decode cX4_areReadingsSo 43 = .ok (.iaload, 1) := by decide +kernel
theorem dX4_areReadingsSo_44 : decode cX4_areReadingsSo 44 = .ok (.aload_n 0, 1) := by decide +kernel
theorem dX4_areReadingsSo_45 : decode cX4_areReadingsSo 45 = .ok (.getfield 15, 3) := by decide +kernel
theorem dX4_areReadingsSo_48 : decode cX4_areReadingsSo 48 = .ok (.iload 6, 2) := by decide +kernel
theorem dX4_areReadingsSo_50 : decode cX4_areReadingsSo 50 = .ok (.iaload, 1) := by decide +kernel
theorem dX4_areReadingsSo_51 : decode cX4_areReadingsSo 51 = .ok (.iload 4, 2) := by decide +kernel
theorem dX4_areReadingsSo_53 : decode cX4_areReadingsSo 53 = .ok (.invokestatic 117, 3) := by decide +kernel
theorem dX4_areReadingsSo_56 : decode cX4_areReadingsSo 56 = .ok (.istore 7, 2) := by decide +kernel
theorem dX4_areReadingsSo_58 : decode cX4_areReadingsSo 58 = .ok (.iload 7, 2) := by decide +kernel
theorem dX4_areReadingsSo_60 : decode cX4_areReadingsSo 60 = .ok (.aload_n 0, 1) := by decide +kernel
theorem dX4_areReadingsSo_61 : decode cX4_areReadingsSo 61 = .ok (.getfield 33, 3) := by decide +kernel
theorem dX4_areReadingsSo_64 : decode cX4_areReadingsSo 64 = .ok (.iload 5, 2) := by decide +kernel
theorem dX4_areReadingsSo_66 : decode cX4_areReadingsSo 66 = .ok (.iaload, 1) := by decide +kernel
theorem dX4_areReadingsSo_67 : decode cX4_areReadingsSo 67 = .ok (.if_icmp .eq 5, 3) := by decide +kernel
theorem dX4_areReadingsSo_70 : decode cX4_areReadingsSo 70 = .ok (.iconst 0, 1) := by decide +kernel
theorem dX4_areReadingsSo_71 : decode cX4_areReadingsSo 71 = .ok (.ireturn, 1) := by decide +kernel
theorem dX4_areReadingsSo_72 : decode cX4_areReadingsSo 72 = .ok (.iinc 5 1, 3) := by decide +kernel
theorem dX4_areReadingsSo_75 : decode cX4_areReadingsSo 75 = .ok (.goto (-72), 3) := by decide +kernel
theorem dX4_areReadingsSo_78 : decode cX4_areReadingsSo 78 = .ok (.iconst 1, 1) := by decide +kernel
theorem dX4_areReadingsSo_79 : decode cX4_areReadingsSo 79 = .ok (.ireturn, 1) := by decide +kernel
theorem dX5_init_0 : decode cX5_init 0 = .ok (.aload_n 0, 1) := by decide +kernel
theorem dX5_init_1 : decode cX5_init 1 = .ok (.invokespecial 3, 3) := by decide +kernel
theorem dX5_init_4 : decode cX5_init 4 = .ok (.aload_n 0, 1) := by decide +kernel
theorem dX5_init_5 : decode cX5_init 5 = .ok (.iconst 0, 1) := by decide +kernel
theorem dX5_init_6 : decode cX5_init 6 = .ok (.newarray .int, 2) := by decide +kernel
theorem dX5_init_8 : decode cX5_init 8 = .ok (.putfield 9, 3) := by decide +kernel
theorem dX5_init_11 : decode cX5_init 11 = .ok (.return_, 1) := by decide +kernel
theorem dX5_open_0 : decode cX5_open 0 = .ok (.aload_n 0, 1) := by decide +kernel
theorem dX5_open_1 : decode cX5_open 1 = .ok (.aload_n 1, 1) := by decide +kernel
theorem dX5_open_2 : decode cX5_open 2 = .ok (.putfield 9, 3) := by decide +kernel
theorem dX5_open_5 : decode cX5_open 5 = .ok (.aload_n 0, 1) := by decide +kernel
theorem dX5_open_6 : decode cX5_open 6 = .ok (.iload_n 2, 1) := by decide +kernel
theorem dX5_open_7 : decode cX5_open 7 = .ok (.putfield 15, 3) := by decide +kernel
theorem dX5_open_10 : decode cX5_open 10 = .ok (.aload_n 0, 1) := by decide +kernel
theorem dX5_open_11 : decode cX5_open 11 = .ok (.iload_n 3, 1) := by decide +kernel
theorem dX5_open_12 : decode cX5_open 12 = .ok (.putfield 19, 3) := by decide +kernel
theorem dX5_open_15 : decode cX5_open 15 = .ok (.aload_n 0, 1) := by decide +kernel
theorem dX5_open_16 : decode cX5_open 16 = .ok (.iconst 0, 1) := by decide +kernel
theorem dX5_open_17 : decode cX5_open 17 = .ok (.putfield 22, 3) := by decide +kernel
theorem dX5_open_20 : decode cX5_open 20 = .ok (.return_, 1) := by decide +kernel
theorem dX5_isAtEnd_0 : decode cX5_isAtEnd 0 = .ok (.aload_n 0, 1) := by decide +kernel
theorem dX5_isAtEnd_1 : decode cX5_isAtEnd 1 = .ok (.getfield 22, 3) := by decide +kernel
theorem dX5_isAtEnd_4 : decode cX5_isAtEnd 4 = .ok (.aload_n 0, 1) := by decide +kernel
theorem dX5_isAtEnd_5 : decode cX5_isAtEnd 5 = .ok (.getfield 19, 3) := by decide +kernel
theorem dX5_isAtEnd_8 : decode cX5_isAtEnd 8 = .ok (.if_icmp .lt 7, 3) := by decide +kernel
theorem dX5_isAtEnd_11 : decode cX5_isAtEnd 11 = .ok (.iconst 1, 1) := by decide +kernel
theorem dX5_isAtEnd_12 : decode cX5_isAtEnd 12 = .ok (.goto 4, 3) := by decide +kernel
theorem dX5_isAtEnd_15 : decode cX5_isAtEnd 15 = .ok (.iconst 0, 1) := by decide +kernel
theorem dX5_isAtEnd_16 : decode cX5_isAtEnd 16 = .ok (.ireturn, 1) := by decide +kernel
theorem dX5_isAt_0 : decode cX5_isAt 0 = .ok (.aload_n 0, 1) := by decide +kernel
theorem dX5_isAt_1 : decode cX5_isAt 1 = .ok (.getfield 22, 3) := by decide +kernel
theorem dX5_isAt_4 : decode cX5_isAt 4 = .ok (.aload_n 0, 1) := by decide +kernel
theorem dX5_isAt_5 : decode cX5_isAt 5 = .ok (.getfield 19, 3) := by decide +kernel
theorem dX5_isAt_8 : decode cX5_isAt 8 = .ok (.if_icmp .ge 25, 3) := by decide +kernel
theorem dX5_isAt_11 : decode cX5_isAt 11 = .ok (.aload_n 0, 1) := by decide +kernel
theorem dX5_isAt_12 : decode cX5_isAt 12 = .ok (.getfield 9, 3) := by decide +kernel
theorem dX5_isAt_15 : decode cX5_isAt 15 = .ok (.aload_n 0, 1) := by decide +kernel
theorem dX5_isAt_16 : decode cX5_isAt 16 = .ok (.getfield 15, 3) := by decide +kernel
theorem dX5_isAt_19 : decode cX5_isAt 19 = .ok (.aload_n 0, 1) := by decide +kernel
theorem dX5_isAt_20 : decode cX5_isAt 20 = .ok (.getfield 22, 3) := by decide +kernel
theorem dX5_isAt_23 : decode cX5_isAt 23 = .ok (.iadd, 1) := by decide +kernel
theorem dX5_isAt_24 : decode cX5_isAt 24 = .ok (.iaload, 1) := by decide +kernel
theorem dX5_isAt_25 : decode cX5_isAt 25 = .ok (.iload_n 1, 1) := by decide +kernel
theorem dX5_isAt_26 : decode cX5_isAt 26 = .ok (.if_icmp .ne 7, 3) := by decide +kernel
theorem dX5_isAt_29 : decode cX5_isAt 29 = .ok (.iconst 1, 1) := by decide +kernel
theorem dX5_isAt_30 : decode cX5_isAt 30 = .ok (.goto 4, 3) := by decide +kernel
theorem dX5_isAt_33 : decode cX5_isAt 33 = .ok (.iconst 0, 1) := by decide +kernel
theorem dX5_isAt_34 : decode cX5_isAt 34 = .ok (.ireturn, 1) := by decide +kernel
theorem dX5_take_0 : decode cX5_take 0 = .ok (.aload_n 0, 1) := by decide +kernel
theorem dX5_take_1 : decode cX5_take 1 = .ok (.iload_n 1, 1) := by decide +kernel
theorem dX5_take_2 : decode cX5_take 2 = .ok (.invokevirtual 25, 3) := by decide +kernel
theorem dX5_take_5 : decode cX5_take 5 = .ok (.ifCond .ne 5, 3) := by decide +kernel
theorem dX5_take_8 : decode cX5_take 8 = .ok (.iconst 0, 1) := by decide +kernel
theorem dX5_take_9 : decode cX5_take 9 = .ok (.ireturn, 1) := by decide +kernel
theorem dX5_take_10 : decode cX5_take 10 = .ok (.aload_n 0, 1) := by decide +kernel
theorem dX5_take_11 : decode cX5_take 11 = .ok (.dup, 1) := by decide +kernel
theorem dX5_take_12 : decode cX5_take 12 = .ok (.getfield 22, 3) := by decide +kernel
theorem dX5_take_15 : decode cX5_take 15 = .ok (.iconst 1, 1) := by decide +kernel
theorem dX5_take_16 : decode cX5_take 16 = .ok (.iadd, 1) := by decide +kernel
theorem dX5_take_17 : decode cX5_take 17 = .ok (.putfield 22, 3) := by decide +kernel
theorem dX5_take_20 : decode cX5_take 20 = .ok (.iconst 1, 1) := by decide +kernel
theorem dX5_take_21 : decode cX5_take 21 = .ok (.ireturn, 1) := by decide +kernel
theorem dX5_takeDigit_0 : decode cX5_takeDigit 0 = .ok (.aload_n 0, 1) := by decide +kernel
theorem dX5_takeDigit_1 : decode cX5_takeDigit 1 = .ok (.iload_n 1, 1) := by decide +kernel
theorem dX5_takeDigit_2 : decode cX5_takeDigit 2 = .ok (.bipush (-9), 2) := by decide +kernel
theorem dX5_takeDigit_4 : decode cX5_takeDigit 4 = .ok (.invokevirtual 29, 3) := by decide +kernel
theorem dX5_takeDigit_7 : decode cX5_takeDigit 7 = .ok (.ireturn, 1) := by decide +kernel
theorem dX5_takeDigitBut_0 : decode cX5_takeDigitBut 0 = .ok (.aload_n 0, 1) := by decide +kernel
theorem dX5_takeDigitBut_1 : decode cX5_takeDigitBut 1 = .ok (.invokevirtual 33, 3) := by decide +kernel
theorem dX5_takeDigitBut_4 : decode cX5_takeDigitBut 4 = .ok (.ifCond .eq 6, 3) := by decide +kernel
theorem dX5_takeDigitBut_7 : decode cX5_takeDigitBut 7 = .ok (.bipush (-9), 2) := by decide +kernel
theorem dX5_takeDigitBut_9 : decode cX5_takeDigitBut 9 = .ok (.ireturn, 1) := by decide +kernel
theorem dX5_takeDigitBut_10 : decode cX5_takeDigitBut 10 = .ok (.aload_n 0, 1) := by decide +kernel
theorem dX5_takeDigitBut_11 : decode cX5_takeDigitBut 11 = .ok (.getfield 9, 3) := by decide +kernel
theorem dX5_takeDigitBut_14 : decode cX5_takeDigitBut 14 = .ok (.aload_n 0, 1) := by decide +kernel
theorem dX5_takeDigitBut_15 : decode cX5_takeDigitBut 15 = .ok (.getfield 15, 3) := by decide +kernel
theorem dX5_takeDigitBut_18 : decode cX5_takeDigitBut 18 = .ok (.aload_n 0, 1) := by decide +kernel
theorem dX5_takeDigitBut_19 : decode cX5_takeDigitBut 19 = .ok (.getfield 22, 3) := by decide +kernel
theorem dX5_takeDigitBut_22 : decode cX5_takeDigitBut 22 = .ok (.iadd, 1) := by decide +kernel
theorem dX5_takeDigitBut_23 : decode cX5_takeDigitBut 23 = .ok (.iaload, 1) := by decide +kernel
theorem dX5_takeDigitBut_24 : decode cX5_takeDigitBut 24 = .ok (.bipush 48, 2) := by decide +kernel
theorem dX5_takeDigitBut_26 : decode cX5_takeDigitBut 26 = .ok (.isub, 1) := by decide +kernel
theorem dX5_takeDigitBut_27 : decode cX5_takeDigitBut 27 = .ok (.istore_n 3, 1) := by decide +kernel
theorem dX5_takeDigitBut_28 : decode cX5_takeDigitBut 28 = .ok (.iload_n 3, 1) := by decide +kernel
theorem dX5_takeDigitBut_29 : decode cX5_takeDigitBut 29 = .ok (.iload_n 1, 1) := by decide +kernel
theorem dX5_takeDigitBut_30 : decode cX5_takeDigitBut 30 = .ok (.invokestatic 37, 3) := by decide +kernel
theorem dX5_takeDigitBut_33 : decode cX5_takeDigitBut 33 = .ok (.ifCond .eq 8, 3) := by decide +kernel
theorem dX5_takeDigitBut_36 : decode cX5_takeDigitBut 36 = .ok (.iload_n 3, 1) := by decide +kernel
theorem dX5_takeDigitBut_37 : decode cX5_takeDigitBut 37 = .ok (.iload_n 2, 1) := by decide +kernel
theorem dX5_takeDigitBut_38 : decode cX5_takeDigitBut 38 = .ok (.if_icmp .ne 6, 3) := by decide +kernel
theorem dX5_takeDigitBut_41 : decode cX5_takeDigitBut 41 = .ok (.bipush (-9), 2) := by decide +kernel
theorem dX5_takeDigitBut_43 : decode cX5_takeDigitBut 43 = .ok (.ireturn, 1) := by decide +kernel
theorem dX5_takeDigitBut_44 : decode cX5_takeDigitBut 44 = .ok (.aload_n 0, 1) := by decide +kernel
theorem dX5_takeDigitBut_45 : decode cX5_takeDigitBut 45 = .ok (.dup, 1) := by decide +kernel
theorem dX5_takeDigitBut_46 : decode cX5_takeDigitBut 46 = .ok (.getfield 22, 3) := by decide +kernel
theorem dX5_takeDigitBut_49 : decode cX5_takeDigitBut 49 = .ok (.iconst 1, 1) := by decide +kernel
theorem dX5_takeDigitBut_50 : decode cX5_takeDigitBut 50 = .ok (.iadd, 1) := by decide +kernel
theorem dX5_takeDigitBut_51 : decode cX5_takeDigitBut 51 = .ok (.putfield 22, 3) := by decide +kernel
theorem dX5_takeDigitBut_54 : decode cX5_takeDigitBut 54 = .ok (.iload_n 3, 1) := by decide +kernel
theorem dX5_takeDigitBut_55 : decode cX5_takeDigitBut 55 = .ok (.ireturn, 1) := by decide +kernel
theorem dX5_takeKind_0 : decode cX5_takeKind 0 = .ok (.aload_n 0, 1) := by decide +kernel
theorem dX5_takeKind_1 : decode cX5_takeKind 1 = .ok (.bipush 103, 2) := by decide +kernel
theorem dX5_takeKind_3 : decode cX5_takeKind 3 = .ok (.invokevirtual 41, 3) := by decide +kernel
theorem dX5_takeKind_6 : decode cX5_takeKind 6 = .ok (.ifCond .eq 5, 3) := by decide +kernel
theorem dX5_takeKind_9 : decode cX5_takeKind 9 = .ok (.iconst 0, 1) := by decide +kernel
theorem dX5_takeKind_10 : decode cX5_takeKind 10 = .ok (.ireturn, 1) := by decide +kernel
theorem dX5_takeKind_11 : decode cX5_takeKind 11 = .ok (.aload_n 0, 1) := by decide +kernel
theorem dX5_takeKind_12 : decode cX5_takeKind 12 = .ok (.bipush 97, 2) := by decide +kernel
theorem dX5_takeKind_14 : decode cX5_takeKind 14 = .ok (.invokevirtual 41, 3) := by decide +kernel
theorem dX5_takeKind_17 : decode cX5_takeKind 17 = .ok (.ifCond .eq 5, 3) := by decide +kernel
theorem dX5_takeKind_20 : decode cX5_takeKind 20 = .ok (.iconst 1, 1) := by decide +kernel
theorem dX5_takeKind_21 : decode cX5_takeKind 21 = .ok (.ireturn, 1) := by decide +kernel
theorem dX5_takeKind_22 : decode cX5_takeKind 22 = .ok (.aload_n 0, 1) := by decide +kernel
theorem dX5_takeKind_23 : decode cX5_takeKind 23 = .ok (.bipush 99, 2) := by decide +kernel
theorem dX5_takeKind_25 : decode cX5_takeKind 25 = .ok (.invokevirtual 41, 3) := by decide +kernel
theorem dX5_takeKind_28 : decode cX5_takeKind 28 = .ok (.ifCond .eq 7, 3) := by decide +kernel
theorem dX5_takeKind_31 : decode cX5_takeKind 31 = .ok (.iconst 2, 1) := by decide +kernel
theorem dX5_takeKind_32 : decode cX5_takeKind 32 = .ok (.goto 5, 3) := by decide +kernel
theorem dX5_takeKind_35 : decode cX5_takeKind 35 = .ok (.bipush (-9), 2) := by decide +kernel
theorem dX5_takeKind_37 : decode cX5_takeKind 37 = .ok (.ireturn, 1) := by decide +kernel
theorem dX6_init_0 : decode cX6_init 0 = .ok (.aload_n 0, 1) := by decide +kernel
theorem dX6_init_1 : decode cX6_init 1 = .ok (.invokespecial 5, 3) := by decide +kernel
theorem dX6_init_4 : decode cX6_init 4 = .ok (.aload_n 0, 1) := by decide +kernel
theorem dX6_init_5 : decode cX6_init 5 = .ok (.iconst 4, 1) := by decide +kernel
theorem dX6_init_6 : decode cX6_init 6 = .ok (.anewarray 11, 3) := by decide +kernel
theorem dX6_init_9 : decode cX6_init 9 = .ok (.putfield 13, 3) := by decide +kernel
theorem dX6_init_12 : decode cX6_init 12 = .ok (.aload_n 0, 1) := by decide +kernel
theorem dX6_init_13 : decode cX6_init 13 = .ok (.new 17, 3) := by decide +kernel
theorem dX6_init_16 : decode cX6_init 16 = .ok (.dup, 1) := by decide +kernel
theorem dX6_init_17 : decode cX6_init 17 = .ok (.invokespecial 19, 3) := by decide +kernel
theorem dX6_init_20 : decode cX6_init 20 = .ok (.putfield 20, 3) := by decide +kernel
theorem dX6_init_23 : decode cX6_init 23 = .ok (.aload_n 0, 1) := by decide +kernel
theorem dX6_init_24 : decode cX6_init 24 = .ok (.new 24, 3) := by decide +kernel
theorem dX6_init_27 : decode cX6_init 27 = .ok (.dup, 1) := by decide +kernel
theorem dX6_init_28 : decode cX6_init 28 = .ok (.invokespecial 26, 3) := by decide +kernel
theorem dX6_init_31 : decode cX6_init 31 = .ok (.putfield 27, 3) := by decide +kernel
theorem dX6_init_34 : decode cX6_init 34 = .ok (.aload_n 0, 1) := by decide +kernel
theorem dX6_init_35 : decode cX6_init 35 = .ok (.new 31, 3) := by decide +kernel
theorem dX6_init_38 : decode cX6_init 38 = .ok (.dup, 1) := by decide +kernel
theorem dX6_init_39 : decode cX6_init 39 = .ok (.invokespecial 33, 3) := by decide +kernel
theorem dX6_init_42 : decode cX6_init 42 = .ok (.putfield 34, 3) := by decide +kernel
theorem dX6_init_45 : decode cX6_init 45 = .ok (.aload_n 0, 1) := by decide +kernel
theorem dX6_init_46 : decode cX6_init 46 = .ok (.new 38, 3) := by decide +kernel
theorem dX6_init_49 : decode cX6_init 49 = .ok (.dup, 1) := by decide +kernel
theorem dX6_init_50 : decode cX6_init 50 = .ok (.invokespecial 40, 3) := by decide +kernel
theorem dX6_init_53 : decode cX6_init 53 = .ok (.putfield 41, 3) := by decide +kernel
theorem dX6_init_56 : decode cX6_init 56 = .ok (.aload_n 0, 1) := by decide +kernel
theorem dX6_init_57 : decode cX6_init 57 = .ok (.new 45, 3) := by decide +kernel
theorem dX6_init_60 : decode cX6_init 60 = .ok (.dup, 1) := by decide +kernel
theorem dX6_init_61 : decode cX6_init 61 = .ok (.invokespecial 47, 3) := by decide +kernel
theorem dX6_init_64 : decode cX6_init 64 = .ok (.putfield 48, 3) := by decide +kernel
theorem dX6_init_67 : decode cX6_init 67 = .ok (.aload_n 0, 1) := by decide +kernel
theorem dX6_init_68 : decode cX6_init 68 = .ok (.new 45, 3) := by decide +kernel
theorem dX6_init_71 : decode cX6_init 71 = .ok (.dup, 1) := by decide +kernel
theorem dX6_init_72 : decode cX6_init 72 = .ok (.invokespecial 47, 3) := by decide +kernel
theorem dX6_init_75 : decode cX6_init 75 = .ok (.putfield 52, 3) := by decide +kernel
theorem dX6_init_78 : decode cX6_init 78 = .ok (.iconst 0, 1) := by decide +kernel
theorem dX6_init_79 : decode cX6_init 79 = .ok (.istore_n 1, 1) := by decide +kernel
theorem dX6_init_80 : decode cX6_init 80 = .ok (.iload_n 1, 1) := by decide +kernel
theorem dX6_init_81 : decode cX6_init 81 = .ok (.iconst 4, 1) := by decide +kernel
theorem dX6_init_82 : decode cX6_init 82 = .ok (.if_icmp .ge 22, 3) := by decide +kernel
theorem dX6_init_85 : decode cX6_init 85 = .ok (.aload_n 0, 1) := by decide +kernel
theorem dX6_init_86 : decode cX6_init 86 = .ok (.getfield 13, 3) := by decide +kernel
theorem dX6_init_89 : decode cX6_init 89 = .ok (.iload_n 1, 1) := by decide +kernel
theorem dX6_init_90 : decode cX6_init 90 = .ok (.new 11, 3) := by decide +kernel
theorem dX6_init_93 : decode cX6_init 93 = .ok (.dup, 1) := by decide +kernel
theorem dX6_init_94 : decode cX6_init 94 = .ok (.invokespecial 55, 3) := by decide +kernel
theorem dX6_init_97 : decode cX6_init 97 = .ok (.aastore, 1) := by decide +kernel
theorem dX6_init_98 : decode cX6_init 98 = .ok (.iinc 1 1, 3) := by decide +kernel
theorem dX6_init_101 : decode cX6_init 101 = .ok (.goto (-21), 3) := by decide +kernel
theorem dX6_init_104 : decode cX6_init 104 = .ok (.return_, 1) := by decide +kernel
theorem dX6_table_0 : decode cX6_table 0 = .ok (.aload_n 0, 1) := by decide +kernel
theorem dX6_table_1 : decode cX6_table 1 = .ok (.iconst 0, 1) := by decide +kernel
theorem dX6_table_2 : decode cX6_table 2 = .ok (.putfield 56, 3) := by decide +kernel
theorem dX6_table_5 : decode cX6_table 5 = .ok (.iload_n 1, 1) := by decide +kernel
theorem dX6_table_6 : decode cX6_table 6 = .ok (.invokestatic 60, 3) := by decide +kernel
theorem dX6_table_9 : decode cX6_table 9 = .ok (.ifCond .ne 5, 3) := by decide +kernel
theorem dX6_table_12 : decode cX6_table 12 = .ok (.iconst (-1), 1) := by decide +kernel
theorem dX6_table_13 : decode cX6_table 13 = .ok (.ireturn, 1) := by decide +kernel
theorem dX6_table_14 : decode cX6_table 14 = .ok (.iload_n 2, 1) := by decide +kernel
theorem dX6_table_15 : decode cX6_table 15 = .ok (.iconst 3, 1) := by decide +kernel
theorem dX6_table_16 : decode cX6_table 16 = .ok (.invokestatic 64, 3) := by decide +kernel
theorem dX6_table_19 : decode cX6_table 19 = .ok (.ifCond .ne 6, 3) := by decide +kernel
theorem dX6_table_22 : decode cX6_table 22 = .ok (.bipush (-2), 2) := by decide +kernel
theorem dX6_table_24 : decode cX6_table 24 = .ok (.ireturn, 1) := by decide +kernel
theorem dX6_table_25 : decode cX6_table 25 = .ok (.aload_n 0, 1) := by decide +kernel
theorem dX6_table_26 : decode cX6_table 26 = .ok (.getfield 13, 3) := by decide +kernel
theorem dX6_table_29 : decode cX6_table 29 = .ok (.iload_n 1, 1) := by decide +kernel
theorem dX6_table_30 : decode cX6_table 30 = .ok (.aaload, 1) := by decide +kernel
theorem dX6_table_31 : decode cX6_table 31 = .ok (.iload_n 2, 1) := by decide +kernel
theorem dX6_table_32 : decode cX6_table 32 = .ok (.iload_n 3, 1) := by decide +kernel
theorem dX6_table_33 : decode cX6_table 33 = .ok (.iload 4, 2) := by decide +kernel
theorem dX6_table_35 : decode cX6_table 35 = .ok (.invokevirtual 68, 3) := by decide +kernel
theorem dX6_table_38 : decode cX6_table 38 = .ok (.istore 5, 2) := by decide +kernel
theorem dX6_table_40 : decode cX6_table 40 = .ok (.iload 5, 2) := by decide +kernel
theorem dX6_table_42 : decode cX6_table 42 = .ok (.ifCond .eq 10, 3) := by decide +kernel
theorem dX6_table_45 : decode cX6_table 45 = .ok (.aload_n 0, 1) := by decide +kernel
theorem dX6_table_46 : decode cX6_table 46 = .ok (.iload 5, 2) := by decide +kernel
theorem dX6_table_48 : decode cX6_table 48 = .ok (.invokevirtual 72, 3) := by decide +kernel
theorem dX6_table_51 : decode cX6_table 51 = .ok (.ireturn, 1) := by decide +kernel
theorem dX6_table_52 : decode cX6_table 52 = .ok (.aload_n 0, 1) := by decide +kernel
theorem dX6_table_53 : decode cX6_table 53 = .ok (.getfield 20, 3) := by decide +kernel
theorem dX6_table_56 : decode cX6_table 56 = .ok (.aload_n 0, 1) := by decide +kernel
theorem dX6_table_57 : decode cX6_table 57 = .ok (.getfield 13, 3) := by decide +kernel
theorem dX6_table_60 : decode cX6_table 60 = .ok (.iload_n 1, 1) := by decide +kernel
theorem dX6_table_61 : decode cX6_table 61 = .ok (.aaload, 1) := by decide +kernel
theorem dX6_table_62 : decode cX6_table 62 = .ok (.getfield 76, 3) := by decide +kernel
theorem dX6_table_65 : decode cX6_table 65 = .ok (.iload_n 3, 1) := by decide +kernel
theorem dX6_table_66 : decode cX6_table 66 = .ok (.iload 4, 2) := by decide +kernel
theorem dX6_table_68 : decode cX6_table 68 = .ok (.invokevirtual 80, 3) := by decide +kernel
theorem dX6_table_71 : decode cX6_table 71 = .ok (.aload_n 0, 1) := by decide +kernel
theorem dX6_table_72 : decode cX6_table 72 = .ok (.getfield 52, 3) := by decide +kernel
theorem dX6_table_75 : decode cX6_table 75 = .ok (.aload_n 0, 1) := by decide +kernel
theorem dX6_table_76 : decode cX6_table 76 = .ok (.getfield 20, 3) := by decide +kernel
theorem dX6_table_79 : decode cX6_table 79 = .ok (.invokevirtual 84, 3) := by decide +kernel
theorem dX6_table_82 : decode cX6_table 82 = .ok (.ifCond .ne 14, 3) := by decide +kernel
theorem dX6_table_85 : decode cX6_table 85 = .ok (.bipush (-100), 2) := by decide +kernel
theorem dX6_table_87 : decode cX6_table 87 = .ok (.aload_n 0, 1) := by decide +kernel
theorem dX6_table_88 : decode cX6_table 88 = .ok (.getfield 20, 3) := by decide +kernel
theorem dX6_table_91 : decode cX6_table 91 = .ok (.getfield 88, 3) := by decide +kernel
theorem dX6_table_94 : decode cX6_table 94 = .ok (.isub, 1) := by decide +kernel
theorem dX6_table_95 : decode cX6_table 95 = .ok (.ireturn, 1) := by decide +kernel
theorem dX6_table_96 : decode cX6_table 96 = .ok (.aload_n 0, 1) := by decide +kernel
theorem dX6_table_97 : decode cX6_table 97 = .ok (.getfield 52, 3) := by decide +kernel
theorem dX6_table_100 : decode cX6_table 100 = .ok (.astore 6, 2) := by decide +kernel
theorem dX6_table_102 : decode cX6_table 102 = .ok (.aload_n 0, 1) := by decide +kernel
theorem dX6_table_103 : decode cX6_table 103 = .ok (.aload_n 0, 1) := by decide +kernel
theorem dX6_table_104 : decode cX6_table 104 = .ok (.getfield 48, 3) := by decide +kernel
theorem dX6_table_107 : decode cX6_table 107 = .ok (.putfield 52, 3) := by decide +kernel
theorem dX6_table_110 : decode cX6_table 110 = .ok (.aload_n 0, 1) := by decide +kernel
theorem dX6_table_111 : decode cX6_table 111 = .ok (.aload 6, 2) := by decide +kernel
theorem dX6_table_113 : decode cX6_table 113 = .ok (.putfield 48, 3) := by decide +kernel
theorem dX6_table_116 : decode cX6_table 116 = .ok (.aload_n 0, 1) := by decide +kernel
theorem dX6_table_117 : decode cX6_table 117 = .ok (.getfield 48, 3) := by decide +kernel
theorem dX6_table_120 : decode cX6_table 120 = .ok (.getfield 91, 3) := by decide +kernel
theorem dX6_table_123 : decode cX6_table 123 = .ok (.ireturn, 1) := by decide +kernel
theorem dX6_ofGuest_0 : decode cX6_ofGuest 0 = .ok (.iload_n 1, 1) := by decide +kernel
theorem dX6_ofGuest_1 : decode cX6_ofGuest 1 = .ok (.aload_n 0, 1) := by decide +kernel
theorem dX6_ofGuest_2 : decode cX6_ofGuest 2 = .ok (.getfield 48, 3) := by decide +kernel
theorem dX6_ofGuest_5 : decode cX6_ofGuest 5 = .ok (.getfield 91, 3) := by decide +kernel
theorem dX6_ofGuest_8 : decode cX6_ofGuest 8 = .ok (.invokestatic 64, 3) := by decide +kernel
theorem dX6_ofGuest_11 : decode cX6_ofGuest 11 = .ok (.ifCond .ne 5, 3) := by decide +kernel
theorem dX6_ofGuest_14 : decode cX6_ofGuest 14 = .ok (.iconst (-1), 1) := by decide +kernel
theorem dX6_ofGuest_15 : decode cX6_ofGuest 15 = .ok (.ireturn, 1) := by decide +kernel
theorem dX6_ofGuest_16 : decode cX6_ofGuest 16 = .ok (.iload_n 2, 1) := by decide +kernel
theorem dX6_ofGuest_17 : decode cX6_ofGuest 17 = .ok (.tableswitch 70 0 3 #[31, 41, 51, 61], 31) := by decide +kernel
theorem dX6_ofGuest_48 : decode cX6_ofGuest 48 = .ok (.aload_n 0, 1) := by decide +kernel
theorem dX6_ofGuest_49 : decode cX6_ofGuest 49 = .ok (.getfield 48, 3) := by decide +kernel
theorem dX6_ofGuest_52 : decode cX6_ofGuest 52 = .ok (.getfield 94, 3) := by decide +kernel
theorem dX6_ofGuest_55 : decode cX6_ofGuest 55 = .ok (.iload_n 1, 1) := by decide +kernel
theorem dX6_ofGuest_56 : decode cX6_ofGuest 56 = .ok (.iaload, 1) := by decide +kernel
theorem dX6_ofGuest_57 : decode cX6_ofGuest 57 = .ok (.ireturn, 1) := by decide +kernel
theorem dX6_ofGuest_58 : decode cX6_ofGuest 58 = .ok (.aload_n 0, 1) := by decide +kernel
theorem dX6_ofGuest_59 : decode cX6_ofGuest 59 = .ok (.getfield 48, 3) := by decide +kernel
theorem dX6_ofGuest_62 : decode cX6_ofGuest 62 = .ok (.getfield 97, 3) := by decide +kernel
theorem dX6_ofGuest_65 : decode cX6_ofGuest 65 = .ok (.iload_n 1, 1) := by decide +kernel
theorem dX6_ofGuest_66 : decode cX6_ofGuest 66 = .ok (.iaload, 1) := by decide +kernel
theorem dX6_ofGuest_67 : decode cX6_ofGuest 67 = .ok (.ireturn, 1) := by decide +kernel
theorem dX6_ofGuest_68 : decode cX6_ofGuest 68 = .ok (.aload_n 0, 1) := by decide +kernel
theorem dX6_ofGuest_69 : decode cX6_ofGuest 69 = .ok (.getfield 48, 3) := by decide +kernel
theorem dX6_ofGuest_72 : decode cX6_ofGuest 72 = .ok (.getfield 100, 3) := by decide +kernel
theorem dX6_ofGuest_75 : decode cX6_ofGuest 75 = .ok (.iload_n 1, 1) := by decide +kernel
theorem dX6_ofGuest_76 : decode cX6_ofGuest 76 = .ok (.iaload, 1) := by decide +kernel
theorem dX6_ofGuest_77 : decode cX6_ofGuest 77 = .ok (.ireturn, 1) := by decide +kernel
theorem dX6_ofGuest_78 : decode cX6_ofGuest 78 = .ok (.aload_n 0, 1) := by decide +kernel
theorem dX6_ofGuest_79 : decode cX6_ofGuest 79 = .ok (.getfield 48, 3) := by decide +kernel
theorem dX6_ofGuest_82 : decode cX6_ofGuest 82 = .ok (.iload_n 1, 1) := by decide +kernel
theorem dX6_ofGuest_83 : decode cX6_ofGuest 83 = .ok (.invokevirtual 103, 3) := by decide +kernel
theorem dX6_ofGuest_86 : decode cX6_ofGuest 86 = .ok (.ireturn, 1) := by decide +kernel
theorem dX6_ofGuest_87 : decode cX6_ofGuest 87 = .ok (.bipush (-2), 2) := by decide +kernel
theorem dX6_ofGuest_89 : decode cX6_ofGuest 89 = .ok (.ireturn, 1) := by decide +kernel
theorem dX6_ofDish_0 : decode cX6_ofDish 0 = .ok (.iload_n 1, 1) := by decide +kernel
theorem dX6_ofDish_1 : decode cX6_ofDish 1 = .ok (.aload_n 0, 1) := by decide +kernel
theorem dX6_ofDish_2 : decode cX6_ofDish 2 = .ok (.getfield 48, 3) := by decide +kernel
theorem dX6_ofDish_5 : decode cX6_ofDish 5 = .ok (.getfield 106, 3) := by decide +kernel
theorem dX6_ofDish_8 : decode cX6_ofDish 8 = .ok (.invokestatic 64, 3) := by decide +kernel
theorem dX6_ofDish_11 : decode cX6_ofDish 11 = .ok (.ifCond .ne 5, 3) := by decide +kernel
theorem dX6_ofDish_14 : decode cX6_ofDish 14 = .ok (.iconst (-1), 1) := by decide +kernel
theorem dX6_ofDish_15 : decode cX6_ofDish 15 = .ok (.ireturn, 1) := by decide +kernel
theorem dX6_ofDish_16 : decode cX6_ofDish 16 = .ok (.iload_n 2, 1) := by decide +kernel
theorem dX6_ofDish_17 : decode cX6_ofDish 17 = .ok (.tableswitch 63 0 2 #[27, 37, 47], 27) := by decide +kernel
theorem dX6_ofDish_44 : decode cX6_ofDish 44 = .ok (.aload_n 0, 1) := by decide +kernel
theorem dX6_ofDish_45 : decode cX6_ofDish 45 = .ok (.getfield 48, 3) := by decide +kernel
theorem dX6_ofDish_48 : decode cX6_ofDish 48 = .ok (.getfield 109, 3) := by decide +kernel
theorem dX6_ofDish_51 : decode cX6_ofDish 51 = .ok (.iload_n 1, 1) := by decide +kernel
theorem dX6_ofDish_52 : decode cX6_ofDish 52 = .ok (.iaload, 1) := by decide +kernel
theorem dX6_ofDish_53 : decode cX6_ofDish 53 = .ok (.ireturn, 1) := by decide +kernel
theorem dX6_ofDish_54 : decode cX6_ofDish 54 = .ok (.aload_n 0, 1) := by decide +kernel
theorem dX6_ofDish_55 : decode cX6_ofDish 55 = .ok (.getfield 48, 3) := by decide +kernel
theorem dX6_ofDish_58 : decode cX6_ofDish 58 = .ok (.getfield 112, 3) := by decide +kernel
theorem dX6_ofDish_61 : decode cX6_ofDish 61 = .ok (.iload_n 1, 1) := by decide +kernel
theorem dX6_ofDish_62 : decode cX6_ofDish 62 = .ok (.iaload, 1) := by decide +kernel
theorem dX6_ofDish_63 : decode cX6_ofDish 63 = .ok (.ireturn, 1) := by decide +kernel
theorem dX6_ofDish_64 : decode cX6_ofDish 64 = .ok (.aload_n 0, 1) := by decide +kernel
theorem dX6_ofDish_65 : decode cX6_ofDish 65 = .ok (.getfield 48, 3) := by decide +kernel
theorem dX6_ofDish_68 : decode cX6_ofDish 68 = .ok (.iload_n 1, 1) := by decide +kernel
theorem dX6_ofDish_69 : decode cX6_ofDish 69 = .ok (.aload_n 0, 1) := by decide +kernel
theorem dX6_ofDish_70 : decode cX6_ofDish 70 = .ok (.getfield 48, 3) := by decide +kernel
theorem dX6_ofDish_73 : decode cX6_ofDish 73 = .ok (.getfield 115, 3) := by decide +kernel
theorem dX6_ofDish_76 : decode cX6_ofDish 76 = .ok (.invokevirtual 118, 3) := by decide +kernel
theorem dX6_ofDish_79 : decode cX6_ofDish 79 = .ok (.ireturn, 1) := by decide +kernel
theorem dX6_ofDish_80 : decode cX6_ofDish 80 = .ok (.bipush (-2), 2) := by decide +kernel
theorem dX6_ofDish_82 : decode cX6_ofDish 82 = .ok (.ireturn, 1) := by decide +kernel
theorem dX6_whose_0 : decode cX6_whose 0 = .ok (.iload_n 1, 1) := by decide +kernel
theorem dX6_whose_1 : decode cX6_whose 1 = .ok (.aload_n 0, 1) := by decide +kernel
theorem dX6_whose_2 : decode cX6_whose 2 = .ok (.getfield 48, 3) := by decide +kernel
theorem dX6_whose_5 : decode cX6_whose 5 = .ok (.getfield 91, 3) := by decide +kernel
theorem dX6_whose_8 : decode cX6_whose 8 = .ok (.invokestatic 64, 3) := by decide +kernel
theorem dX6_whose_11 : decode cX6_whose 11 = .ok (.ifCond .ne 5, 3) := by decide +kernel
theorem dX6_whose_14 : decode cX6_whose 14 = .ok (.iconst (-1), 1) := by decide +kernel
theorem dX6_whose_15 : decode cX6_whose 15 = .ok (.ireturn, 1) := by decide +kernel
theorem dX6_whose_16 : decode cX6_whose 16 = .ok (.aload_n 0, 1) := by decide +kernel
theorem dX6_whose_17 : decode cX6_whose 17 = .ok (.getfield 48, 3) := by decide +kernel
theorem dX6_whose_20 : decode cX6_whose 20 = .ok (.iload_n 1, 1) := by decide +kernel
theorem dX6_whose_21 : decode cX6_whose 21 = .ok (.aload_n 0, 1) := by decide +kernel
theorem dX6_whose_22 : decode cX6_whose 22 = .ok (.getfield 48, 3) := by decide +kernel
theorem dX6_whose_25 : decode cX6_whose 25 = .ok (.getfield 115, 3) := by decide +kernel
theorem dX6_whose_28 : decode cX6_whose 28 = .ok (.invokevirtual 122, 3) := by decide +kernel
theorem dX6_whose_31 : decode cX6_whose 31 = .ok (.ireturn, 1) := by decide +kernel
theorem dX6_land_0 : decode cX6_land 0 = .ok (.iload_n 1, 1) := by decide +kernel
theorem dX6_land_1 : decode cX6_land 1 = .ok (.iconst 2, 1) := by decide +kernel
theorem dX6_land_2 : decode cX6_land 2 = .ok (.invokestatic 64, 3) := by decide +kernel
theorem dX6_land_5 : decode cX6_land 5 = .ok (.ifCond .ne 5, 3) := by decide +kernel
theorem dX6_land_8 : decode cX6_land 8 = .ok (.iconst (-1), 1) := by decide +kernel
theorem dX6_land_9 : decode cX6_land 9 = .ok (.ireturn, 1) := by decide +kernel
theorem dX6_land_10 : decode cX6_land 10 = .ok (.aload_n 0, 1) := by decide +kernel
theorem dX6_land_11 : decode cX6_land 11 = .ok (.getfield 48, 3) := by decide +kernel
theorem dX6_land_14 : decode cX6_land 14 = .ok (.invokevirtual 125, 3) := by decide +kernel
theorem dX6_land_17 : decode cX6_land 17 = .ok (.ifCond .ne 6, 3) := by decide +kernel
theorem dX6_land_20 : decode cX6_land 20 = .ok (.bipush (-3), 2) := by decide +kernel
theorem dX6_land_22 : decode cX6_land 22 = .ok (.ireturn, 1) := by decide +kernel
theorem dX6_land_23 : decode cX6_land 23 = .ok (.aload_n 0, 1) := by decide +kernel
theorem dX6_land_24 : decode cX6_land 24 = .ok (.getfield 48, 3) := by decide +kernel
theorem dX6_land_27 : decode cX6_land 27 = .ok (.iload_n 1, 1) := by decide +kernel
theorem dX6_land_28 : decode cX6_land 28 = .ok (.aload_n 0, 1) := by decide +kernel
theorem dX6_land_29 : decode cX6_land 29 = .ok (.getfield 48, 3) := by decide +kernel
theorem dX6_land_32 : decode cX6_land 32 = .ok (.getfield 115, 3) := by decide +kernel
theorem dX6_land_35 : decode cX6_land 35 = .ok (.invokevirtual 129, 3) := by decide +kernel
theorem dX6_land_38 : decode cX6_land 38 = .ok (.ireturn, 1) := by decide +kernel
theorem dX6_chew_0 : decode cX6_chew 0 = .ok (.iload_n 1, 1) := by decide +kernel
theorem dX6_chew_1 : decode cX6_chew 1 = .ok (.aload_n 0, 1) := by decide +kernel
theorem dX6_chew_2 : decode cX6_chew 2 = .ok (.getfield 48, 3) := by decide +kernel
theorem dX6_chew_5 : decode cX6_chew 5 = .ok (.getfield 91, 3) := by decide +kernel
theorem dX6_chew_8 : decode cX6_chew 8 = .ok (.invokestatic 64, 3) := by decide +kernel
theorem dX6_chew_11 : decode cX6_chew 11 = .ok (.ifCond .ne 5, 3) := by decide +kernel
theorem dX6_chew_14 : decode cX6_chew 14 = .ok (.iconst (-1), 1) := by decide +kernel
theorem dX6_chew_15 : decode cX6_chew 15 = .ok (.ireturn, 1) := by decide +kernel
theorem dX6_chew_16 : decode cX6_chew 16 = .ok (.iload_n 2, 1) := by decide +kernel
theorem dX6_chew_17 : decode cX6_chew 17 = .ok (.bipush 10, 2) := by decide +kernel
theorem dX6_chew_19 : decode cX6_chew 19 = .ok (.invokestatic 64, 3) := by decide +kernel
theorem dX6_chew_22 : decode cX6_chew 22 = .ok (.ifCond .ne 6, 3) := by decide +kernel
theorem dX6_chew_25 : decode cX6_chew 25 = .ok (.bipush (-2), 2) := by decide +kernel
theorem dX6_chew_27 : decode cX6_chew 27 = .ok (.ireturn, 1) := by decide +kernel
theorem dX6_chew_28 : decode cX6_chew 28 = .ok (.aload_n 0, 1) := by decide +kernel
theorem dX6_chew_29 : decode cX6_chew 29 = .ok (.getfield 48, 3) := by decide +kernel
theorem dX6_chew_32 : decode cX6_chew 32 = .ok (.getfield 97, 3) := by decide +kernel
theorem dX6_chew_35 : decode cX6_chew 35 = .ok (.iload_n 1, 1) := by decide +kernel
theorem dX6_chew_36 : decode cX6_chew 36 = .ok (.iaload, 1) := by decide +kernel
theorem dX6_chew_37 : decode cX6_chew 37 = .ok (.istore_n 3, 1) := by decide +kernel
theorem dX6_chew_38 : decode cX6_chew 38 = .ok (.aload_n 0, 1) := by decide +kernel
theorem dX6_chew_39 : decode cX6_chew 39 = .ok (.getfield 48, 3) := by decide +kernel
theorem dX6_chew_42 : decode cX6_chew 42 = .ok (.getfield 97, 3) := by decide +kernel
theorem dX6_chew_45 : decode cX6_chew 45 = .ok (.iload_n 1, 1) := by decide +kernel
theorem dX6_chew_46 : decode cX6_chew 46 = .ok (.iload_n 2, 1) := by decide +kernel
theorem dX6_chew_47 : decode cX6_chew 47 = .ok (.iastore, 1) := by decide +kernel
theorem dX6_chew_48 : decode cX6_chew 48 = .ok (.iload_n 3, 1) := by decide +kernel
theorem dX6_chew_49 : decode cX6_chew 49 = .ok (.ireturn, 1) := by decide +kernel
theorem dX6_cook_0 : decode cX6_cook 0 = .ok (.iload_n 1, 1) := by decide +kernel
theorem dX6_cook_1 : decode cX6_cook 1 = .ok (.iconst 4, 1) := by decide +kernel
theorem dX6_cook_2 : decode cX6_cook 2 = .ok (.invokestatic 64, 3) := by decide +kernel
theorem dX6_cook_5 : decode cX6_cook 5 = .ok (.ifCond .ne 6, 3) := by decide +kernel
theorem dX6_cook_8 : decode cX6_cook 8 = .ok (.bipush (-2), 2) := by decide +kernel
theorem dX6_cook_10 : decode cX6_cook 10 = .ok (.ireturn, 1) := by decide +kernel
theorem dX6_cook_11 : decode cX6_cook 11 = .ok (.aload_n 0, 1) := by decide +kernel
theorem dX6_cook_12 : decode cX6_cook 12 = .ok (.getfield 48, 3) := by decide +kernel
theorem dX6_cook_15 : decode cX6_cook 15 = .ok (.invokevirtual 125, 3) := by decide +kernel
theorem dX6_cook_18 : decode cX6_cook 18 = .ok (.ifCond .ne 6, 3) := by decide +kernel
theorem dX6_cook_21 : decode cX6_cook 21 = .ok (.bipush (-3), 2) := by decide +kernel
theorem dX6_cook_23 : decode cX6_cook 23 = .ok (.ireturn, 1) := by decide +kernel
theorem dX6_cook_24 : decode cX6_cook 24 = .ok (.aload_n 0, 1) := by decide +kernel
theorem dX6_cook_25 : decode cX6_cook 25 = .ok (.getfield 48, 3) := by decide +kernel
theorem dX6_cook_28 : decode cX6_cook 28 = .ok (.getfield 132, 3) := by decide +kernel
theorem dX6_cook_31 : decode cX6_cook 31 = .ok (.istore_n 2, 1) := by decide +kernel
theorem dX6_cook_32 : decode cX6_cook 32 = .ok (.aload_n 0, 1) := by decide +kernel
theorem dX6_cook_33 : decode cX6_cook 33 = .ok (.getfield 48, 3) := by decide +kernel
theorem dX6_cook_36 : decode cX6_cook 36 = .ok (.iload_n 1, 1) := by decide +kernel
theorem dX6_cook_37 : decode cX6_cook 37 = .ok (.putfield 132, 3) := by decide +kernel
theorem dX6_cook_40 : decode cX6_cook 40 = .ok (.iload_n 2, 1) := by decide +kernel
theorem dX6_cook_41 : decode cX6_cook 41 = .ok (.ireturn, 1) := by decide +kernel
theorem dX6_rate_0 : decode cX6_rate 0 = .ok (.iload_n 1, 1) := by decide +kernel
theorem dX6_rate_1 : decode cX6_rate 1 = .ok (.aload_n 0, 1) := by decide +kernel
theorem dX6_rate_2 : decode cX6_rate 2 = .ok (.getfield 48, 3) := by decide +kernel
theorem dX6_rate_5 : decode cX6_rate 5 = .ok (.getfield 106, 3) := by decide +kernel
theorem dX6_rate_8 : decode cX6_rate 8 = .ok (.invokestatic 64, 3) := by decide +kernel
theorem dX6_rate_11 : decode cX6_rate 11 = .ok (.ifCond .ne 5, 3) := by decide +kernel
theorem dX6_rate_14 : decode cX6_rate 14 = .ok (.iconst (-1), 1) := by decide +kernel
theorem dX6_rate_15 : decode cX6_rate 15 = .ok (.ireturn, 1) := by decide +kernel
theorem dX6_rate_16 : decode cX6_rate 16 = .ok (.iload_n 2, 1) := by decide +kernel
theorem dX6_rate_17 : decode cX6_rate 17 = .ok (.bipush 10, 2) := by decide +kernel
theorem dX6_rate_19 : decode cX6_rate 19 = .ok (.invokestatic 64, 3) := by decide +kernel
theorem dX6_rate_22 : decode cX6_rate 22 = .ok (.ifCond .ne 6, 3) := by decide +kernel
theorem dX6_rate_25 : decode cX6_rate 25 = .ok (.bipush (-2), 2) := by decide +kernel
theorem dX6_rate_27 : decode cX6_rate 27 = .ok (.ireturn, 1) := by decide +kernel
theorem dX6_rate_28 : decode cX6_rate 28 = .ok (.aload_n 0, 1) := by decide +kernel
theorem dX6_rate_29 : decode cX6_rate 29 = .ok (.getfield 48, 3) := by decide +kernel
theorem dX6_rate_32 : decode cX6_rate 32 = .ok (.getfield 112, 3) := by decide +kernel
theorem dX6_rate_35 : decode cX6_rate 35 = .ok (.iload_n 1, 1) := by decide +kernel
theorem dX6_rate_36 : decode cX6_rate 36 = .ok (.iaload, 1) := by decide +kernel
theorem dX6_rate_37 : decode cX6_rate 37 = .ok (.istore_n 3, 1) := by decide +kernel
theorem dX6_rate_38 : decode cX6_rate 38 = .ok (.aload_n 0, 1) := by decide +kernel
theorem dX6_rate_39 : decode cX6_rate 39 = .ok (.getfield 48, 3) := by decide +kernel
theorem dX6_rate_42 : decode cX6_rate 42 = .ok (.getfield 112, 3) := by decide +kernel
theorem dX6_rate_45 : decode cX6_rate 45 = .ok (.iload_n 1, 1) := by decide +kernel
theorem dX6_rate_46 : decode cX6_rate 46 = .ok (.iload_n 2, 1) := by decide +kernel
theorem dX6_rate_47 : decode cX6_rate 47 = .ok (.iastore, 1) := by decide +kernel
theorem dX6_rate_48 : decode cX6_rate 48 = .ok (.iload_n 3, 1) := by decide +kernel
theorem dX6_rate_49 : decode cX6_rate 49 = .ok (.ireturn, 1) := by decide +kernel
theorem dX6_carry_0 : decode cX6_carry 0 = .ok (.iload_n 1, 1) := by decide +kernel
theorem dX6_carry_1 : decode cX6_carry 1 = .ok (.aload_n 0, 1) := by decide +kernel
theorem dX6_carry_2 : decode cX6_carry 2 = .ok (.getfield 48, 3) := by decide +kernel
theorem dX6_carry_5 : decode cX6_carry 5 = .ok (.getfield 106, 3) := by decide +kernel
theorem dX6_carry_8 : decode cX6_carry 8 = .ok (.invokestatic 64, 3) := by decide +kernel
theorem dX6_carry_11 : decode cX6_carry 11 = .ok (.ifCond .eq 17, 3) := by decide +kernel
theorem dX6_carry_14 : decode cX6_carry 14 = .ok (.iload_n 2, 1) := by decide +kernel
theorem dX6_carry_15 : decode cX6_carry 15 = .ok (.aload_n 0, 1) := by decide +kernel
theorem dX6_carry_16 : decode cX6_carry 16 = .ok (.getfield 48, 3) := by decide +kernel
theorem dX6_carry_19 : decode cX6_carry 19 = .ok (.getfield 91, 3) := by decide +kernel
theorem dX6_carry_22 : decode cX6_carry 22 = .ok (.invokestatic 64, 3) := by decide +kernel
theorem dX6_carry_25 : decode cX6_carry 25 = .ok (.ifCond .ne 5, 3) := by decide +kernel
theorem dX6_carry_28 : decode cX6_carry 28 = .ok (.iconst (-1), 1) := by decide +kernel
theorem dX6_carry_29 : decode cX6_carry 29 = .ok (.ireturn, 1) := by decide +kernel
theorem dX6_carry_30 : decode cX6_carry 30 = .ok (.aload_n 0, 1) := by decide +kernel
theorem dX6_carry_31 : decode cX6_carry 31 = .ok (.getfield 48, 3) := by decide +kernel
theorem dX6_carry_34 : decode cX6_carry 34 = .ok (.getfield 109, 3) := by decide +kernel
theorem dX6_carry_37 : decode cX6_carry 37 = .ok (.iload_n 1, 1) := by decide +kernel
theorem dX6_carry_38 : decode cX6_carry 38 = .ok (.iaload, 1) := by decide +kernel
theorem dX6_carry_39 : decode cX6_carry 39 = .ok (.istore_n 3, 1) := by decide +kernel
theorem dX6_carry_40 : decode cX6_carry 40 = .ok (.aload_n 0, 1) := by decide +kernel
theorem dX6_carry_41 : decode cX6_carry 41 = .ok (.getfield 48, 3) := by decide +kernel
theorem dX6_carry_44 : decode cX6_carry 44 = .ok (.getfield 109, 3) := by decide +kernel
theorem dX6_carry_47 : decode cX6_carry 47 = .ok (.iload_n 1, 1) := by decide +kernel
theorem dX6_carry_48 : decode cX6_carry 48 = .ok (.iload_n 2, 1) := by decide +kernel
theorem dX6_carry_49 : decode cX6_carry 49 = .ok (.iastore, 1) := by decide +kernel
theorem dX6_carry_50 : decode cX6_carry 50 = .ok (.iload_n 3, 1) := by decide +kernel
theorem dX6_carry_51 : decode cX6_carry 51 = .ok (.ireturn, 1) := by decide +kernel
theorem dX6_pass_0 : decode cX6_pass 0 = .ok (.iload_n 1, 1) := by decide +kernel
theorem dX6_pass_1 : decode cX6_pass 1 = .ok (.iconst 4, 1) := by decide +kernel
theorem dX6_pass_2 : decode cX6_pass 2 = .ok (.invokestatic 64, 3) := by decide +kernel
theorem dX6_pass_5 : decode cX6_pass 5 = .ok (.ifCond .ne 6, 3) := by decide +kernel
theorem dX6_pass_8 : decode cX6_pass 8 = .ok (.bipush (-2), 2) := by decide +kernel
theorem dX6_pass_10 : decode cX6_pass 10 = .ok (.ireturn, 1) := by decide +kernel
theorem dX6_pass_11 : decode cX6_pass 11 = .ok (.aload_n 0, 1) := by decide +kernel
theorem dX6_pass_12 : decode cX6_pass 12 = .ok (.getfield 48, 3) := by decide +kernel
theorem dX6_pass_15 : decode cX6_pass 15 = .ok (.invokevirtual 125, 3) := by decide +kernel
theorem dX6_pass_18 : decode cX6_pass 18 = .ok (.ifCond .ne 6, 3) := by decide +kernel
theorem dX6_pass_21 : decode cX6_pass 21 = .ok (.bipush (-3), 2) := by decide +kernel
theorem dX6_pass_23 : decode cX6_pass 23 = .ok (.ireturn, 1) := by decide +kernel
theorem dX6_pass_24 : decode cX6_pass 24 = .ok (.aload_n 0, 1) := by decide +kernel
theorem dX6_pass_25 : decode cX6_pass 25 = .ok (.getfield 48, 3) := by decide +kernel
theorem dX6_pass_28 : decode cX6_pass 28 = .ok (.aload_n 0, 1) := by decide +kernel
theorem dX6_pass_29 : decode cX6_pass 29 = .ok (.getfield 48, 3) := by decide +kernel
theorem dX6_pass_32 : decode cX6_pass 32 = .ok (.getfield 115, 3) := by decide +kernel
theorem dX6_pass_35 : decode cX6_pass 35 = .ok (.iload_n 1, 1) := by decide +kernel
theorem dX6_pass_36 : decode cX6_pass 36 = .ok (.invokevirtual 135, 3) := by decide +kernel
theorem dX6_pass_39 : decode cX6_pass 39 = .ok (.istore_n 2, 1) := by decide +kernel
theorem dX6_pass_40 : decode cX6_pass 40 = .ok (.iload_n 2, 1) := by decide +kernel
theorem dX6_pass_41 : decode cX6_pass 41 = .ok (.bipush (-9), 2) := by decide +kernel
theorem dX6_pass_43 : decode cX6_pass 43 = .ok (.if_icmp .ne 6, 3) := by decide +kernel
theorem dX6_pass_46 : decode cX6_pass 46 = .ok (.bipush (-3), 2) := by decide +kernel
theorem dX6_pass_48 : decode cX6_pass 48 = .ok (.ireturn, 1) := by decide +kernel
theorem dX6_pass_49 : decode cX6_pass 49 = .ok (.aload_n 0, 1) := by decide +kernel
theorem dX6_pass_50 : decode cX6_pass 50 = .ok (.getfield 48, 3) := by decide +kernel
theorem dX6_pass_53 : decode cX6_pass 53 = .ok (.aload_n 0, 1) := by decide +kernel
theorem dX6_pass_54 : decode cX6_pass 54 = .ok (.getfield 48, 3) := by decide +kernel
theorem dX6_pass_57 : decode cX6_pass 57 = .ok (.getfield 115, 3) := by decide +kernel
theorem dX6_pass_60 : decode cX6_pass 60 = .ok (.iload_n 1, 1) := by decide +kernel
theorem dX6_pass_61 : decode cX6_pass 61 = .ok (.invokestatic 138, 3) := by decide +kernel
theorem dX6_pass_64 : decode cX6_pass 64 = .ok (.invokevirtual 103, 3) := by decide +kernel
theorem dX6_pass_67 : decode cX6_pass 67 = .ok (.istore_n 3, 1) := by decide +kernel
theorem dX6_pass_68 : decode cX6_pass 68 = .ok (.aload_n 0, 1) := by decide +kernel
theorem dX6_pass_69 : decode cX6_pass 69 = .ok (.getfield 48, 3) := by decide +kernel
theorem dX6_pass_72 : decode cX6_pass 72 = .ok (.iload_n 2, 1) := by decide +kernel
theorem dX6_pass_73 : decode cX6_pass 73 = .ok (.putfield 115, 3) := by decide +kernel
theorem dX6_pass_76 : decode cX6_pass 76 = .ok (.iload_n 3, 1) := by decide +kernel
theorem dX6_pass_77 : decode cX6_pass 77 = .ok (.ireturn, 1) := by decide +kernel
theorem dX6_dinner_0 : decode cX6_dinner 0 = .ok (.aload_n 0, 1) := by decide +kernel
theorem dX6_dinner_1 : decode cX6_dinner 1 = .ok (.iconst 0, 1) := by decide +kernel
theorem dX6_dinner_2 : decode cX6_dinner 2 = .ok (.putfield 56, 3) := by decide +kernel
theorem dX6_dinner_5 : decode cX6_dinner 5 = .ok (.iload_n 1, 1) := by decide +kernel
theorem dX6_dinner_6 : decode cX6_dinner 6 = .ok (.invokestatic 60, 3) := by decide +kernel
theorem dX6_dinner_9 : decode cX6_dinner 9 = .ok (.ifCond .ne 5, 3) := by decide +kernel
theorem dX6_dinner_12 : decode cX6_dinner 12 = .ok (.iconst (-1), 1) := by decide +kernel
theorem dX6_dinner_13 : decode cX6_dinner 13 = .ok (.ireturn, 1) := by decide +kernel
theorem dX6_dinner_14 : decode cX6_dinner 14 = .ok (.iload_n 2, 1) := by decide +kernel
theorem dX6_dinner_15 : decode cX6_dinner 15 = .ok (.iconst 3, 1) := by decide +kernel
theorem dX6_dinner_16 : decode cX6_dinner 16 = .ok (.invokestatic 64, 3) := by decide +kernel
theorem dX6_dinner_19 : decode cX6_dinner 19 = .ok (.ifCond .eq 21, 3) := by decide +kernel
theorem dX6_dinner_22 : decode cX6_dinner 22 = .ok (.iload 4, 2) := by decide +kernel
theorem dX6_dinner_24 : decode cX6_dinner 24 = .ok (.bipush 41, 2) := by decide +kernel
theorem dX6_dinner_26 : decode cX6_dinner 26 = .ok (.invokestatic 64, 3) := by decide +kernel
theorem dX6_dinner_29 : decode cX6_dinner 29 = .ok (.ifCond .eq 11, 3) := by decide +kernel
theorem dX6_dinner_32 : decode cX6_dinner 32 = .ok (.iload 5, 2) := by decide +kernel
theorem dX6_dinner_34 : decode cX6_dinner 34 = .ok (.invokestatic 141, 3) := by decide +kernel
theorem dX6_dinner_37 : decode cX6_dinner 37 = .ok (.ifCond .ne 6, 3) := by decide +kernel
theorem dX6_dinner_40 : decode cX6_dinner 40 = .ok (.bipush (-2), 2) := by decide +kernel
theorem dX6_dinner_42 : decode cX6_dinner 42 = .ok (.ireturn, 1) := by decide +kernel
theorem dX6_dinner_43 : decode cX6_dinner 43 = .ok (.aload_n 0, 1) := by decide +kernel
theorem dX6_dinner_44 : decode cX6_dinner 44 = .ok (.getfield 13, 3) := by decide +kernel
theorem dX6_dinner_47 : decode cX6_dinner 47 = .ok (.iload_n 1, 1) := by decide +kernel
theorem dX6_dinner_48 : decode cX6_dinner 48 = .ok (.aaload, 1) := by decide +kernel
theorem dX6_dinner_49 : decode cX6_dinner 49 = .ok (.astore 6, 2) := by decide +kernel
theorem dX6_dinner_51 : decode cX6_dinner 51 = .ok (.aload 6, 2) := by decide +kernel
theorem dX6_dinner_53 : decode cX6_dinner 53 = .ok (.iload_n 2, 1) := by decide +kernel
theorem dX6_dinner_54 : decode cX6_dinner 54 = .ok (.iload_n 3, 1) := by decide +kernel
theorem dX6_dinner_55 : decode cX6_dinner 55 = .ok (.iload 4, 2) := by decide +kernel
theorem dX6_dinner_57 : decode cX6_dinner 57 = .ok (.invokevirtual 68, 3) := by decide +kernel
theorem dX6_dinner_60 : decode cX6_dinner 60 = .ok (.istore 7, 2) := by decide +kernel
theorem dX6_dinner_62 : decode cX6_dinner 62 = .ok (.iload 7, 2) := by decide +kernel
theorem dX6_dinner_64 : decode cX6_dinner 64 = .ok (.ifCond .eq 10, 3) := by decide +kernel
theorem dX6_dinner_67 : decode cX6_dinner 67 = .ok (.aload_n 0, 1) := by decide +kernel
theorem dX6_dinner_68 : decode cX6_dinner 68 = .ok (.iload 7, 2) := by decide +kernel
theorem dX6_dinner_70 : decode cX6_dinner 70 = .ok (.invokevirtual 72, 3) := by decide +kernel
theorem dX6_dinner_73 : decode cX6_dinner 73 = .ok (.ireturn, 1) := by decide +kernel
theorem dX6_dinner_74 : decode cX6_dinner 74 = .ok (.aload_n 0, 1) := by decide +kernel
theorem dX6_dinner_75 : decode cX6_dinner 75 = .ok (.getfield 48, 3) := by decide +kernel
theorem dX6_dinner_78 : decode cX6_dinner 78 = .ok (.invokevirtual 125, 3) := by decide +kernel
theorem dX6_dinner_81 : decode cX6_dinner 81 = .ok (.ifCond .ne 6, 3) := by decide +kernel
theorem dX6_dinner_84 : decode cX6_dinner 84 = .ok (.bipush (-3), 2) := by decide +kernel
theorem dX6_dinner_86 : decode cX6_dinner 86 = .ok (.ireturn, 1) := by decide +kernel
theorem dX6_dinner_87 : decode cX6_dinner 87 = .ok (.aload 6, 2) := by decide +kernel
theorem dX6_dinner_89 : decode cX6_dinner 89 = .ok (.iload_n 3, 1) := by decide +kernel
theorem dX6_dinner_90 : decode cX6_dinner 90 = .ok (.iload 4, 2) := by decide +kernel
theorem dX6_dinner_92 : decode cX6_dinner 92 = .ok (.invokevirtual 144, 3) := by decide +kernel
theorem dX6_dinner_95 : decode cX6_dinner 95 = .ok (.ifCond .ne 6, 3) := by decide +kernel
theorem dX6_dinner_98 : decode cX6_dinner 98 = .ok (.bipush (-2), 2) := by decide +kernel
theorem dX6_dinner_100 : decode cX6_dinner 100 = .ok (.ireturn, 1) := by decide +kernel
theorem dX6_dinner_101 : decode cX6_dinner 101 = .ok (.aload_n 0, 1) := by decide +kernel
theorem dX6_dinner_102 : decode cX6_dinner 102 = .ok (.getfield 27, 3) := by decide +kernel
theorem dX6_dinner_105 : decode cX6_dinner 105 = .ok (.aload_n 0, 1) := by decide +kernel
theorem dX6_dinner_106 : decode cX6_dinner 106 = .ok (.getfield 48, 3) := by decide +kernel
theorem dX6_dinner_109 : decode cX6_dinner 109 = .ok (.aload 6, 2) := by decide +kernel
theorem dX6_dinner_111 : decode cX6_dinner 111 = .ok (.getfield 76, 3) := by decide +kernel
theorem dX6_dinner_114 : decode cX6_dinner 114 = .ok (.iload_n 3, 1) := by decide +kernel
theorem dX6_dinner_115 : decode cX6_dinner 115 = .ok (.iload 4, 2) := by decide +kernel
theorem dX6_dinner_117 : decode cX6_dinner 117 = .ok (.invokevirtual 147, 3) := by decide +kernel
theorem dX6_dinner_120 : decode cX6_dinner 120 = .ok (.aload_n 0, 1) := by decide +kernel
theorem dX6_dinner_121 : decode cX6_dinner 121 = .ok (.iload 5, 2) := by decide +kernel
theorem dX6_dinner_123 : decode cX6_dinner 123 = .ok (.invokevirtual 151, 3) := by decide +kernel
theorem dX6_dinner_126 : decode cX6_dinner 126 = .ok (.ireturn, 1) := by decide +kernel
theorem dX6_isAskedOfDinner_0 : decode cX6_isAskedOfDinner 0 = .ok (.iload_n 0, 1) := by decide +kernel
theorem dX6_isAskedOfDinner_1 : decode cX6_isAskedOfDinner 1 = .ok (.bipush 6, 2) := by decide +kernel
theorem dX6_isAskedOfDinner_3 : decode cX6_isAskedOfDinner 3 = .ok (.invokestatic 64, 3) := by decide +kernel
theorem dX6_isAskedOfDinner_6 : decode cX6_isAskedOfDinner 6 = .ok (.ifCond .ne 15, 3) := by decide +kernel
theorem dX6_isAskedOfDinner_9 : decode cX6_isAskedOfDinner 9 = .ok (.iload_n 0, 1) := by decide +kernel
theorem dX6_isAskedOfDinner_10 : decode cX6_isAskedOfDinner 10 = .ok (.bipush 10, 2) := by decide +kernel
theorem dX6_isAskedOfDinner_12 : decode cX6_isAskedOfDinner 12 = .ok (.if_icmp .lt 13, 3) := by decide +kernel
theorem dX6_isAskedOfDinner_15 : decode cX6_isAskedOfDinner 15 = .ok (.iload_n 0, 1) := by decide +kernel
theorem dX6_isAskedOfDinner_16 : decode cX6_isAskedOfDinner 16 = .ok (.bipush 16, 2) := by decide +kernel
theorem dX6_isAskedOfDinner_18 : decode cX6_isAskedOfDinner 18 = .ok (.if_icmp .ge 7, 3) := by decide +kernel
theorem dX6_isAskedOfDinner_21 : decode cX6_isAskedOfDinner 21 = .ok (.iconst 1, 1) := by decide +kernel
theorem dX6_isAskedOfDinner_22 : decode cX6_isAskedOfDinner 22 = .ok (.goto 4, 3) := by decide +kernel
theorem dX6_isAskedOfDinner_25 : decode cX6_isAskedOfDinner 25 = .ok (.iconst 0, 1) := by decide +kernel
theorem dX6_isAskedOfDinner_26 : decode cX6_isAskedOfDinner 26 = .ok (.ireturn, 1) := by decide +kernel
theorem dX6_answerOfDinner_0 : decode cX6_answerOfDinner 0 = .ok (.iload_n 1, 1) := by decide +kernel
theorem dX6_answerOfDinner_1 : decode cX6_answerOfDinner 1 = .ok (.iconst 1, 1) := by decide +kernel
theorem dX6_answerOfDinner_2 : decode cX6_answerOfDinner 2 = .ok (.if_icmp .ne 11, 3) := by decide +kernel
theorem dX6_answerOfDinner_5 : decode cX6_answerOfDinner 5 = .ok (.aload_n 0, 1) := by decide +kernel
theorem dX6_answerOfDinner_6 : decode cX6_answerOfDinner 6 = .ok (.getfield 27, 3) := by decide +kernel
theorem dX6_answerOfDinner_9 : decode cX6_answerOfDinner 9 = .ok (.getfield 154, 3) := by decide +kernel
theorem dX6_answerOfDinner_12 : decode cX6_answerOfDinner 12 = .ok (.ireturn, 1) := by decide +kernel
theorem dX6_answerOfDinner_13 : decode cX6_answerOfDinner 13 = .ok (.aload_n 0, 1) := by decide +kernel
theorem dX6_answerOfDinner_14 : decode cX6_answerOfDinner 14 = .ok (.getfield 27, 3) := by decide +kernel
theorem dX6_answerOfDinner_17 : decode cX6_answerOfDinner 17 = .ok (.getfield 154, 3) := by decide +kernel
theorem dX6_answerOfDinner_20 : decode cX6_answerOfDinner 20 = .ok (.bipush (-9), 2) := by decide +kernel
theorem dX6_answerOfDinner_22 : decode cX6_answerOfDinner 22 = .ok (.if_icmp .eq 14, 3) := by decide +kernel
theorem dX6_answerOfDinner_25 : decode cX6_answerOfDinner 25 = .ok (.bipush (-100), 2) := by decide +kernel
theorem dX6_answerOfDinner_27 : decode cX6_answerOfDinner 27 = .ok (.aload_n 0, 1) := by decide +kernel
theorem dX6_answerOfDinner_28 : decode cX6_answerOfDinner 28 = .ok (.getfield 27, 3) := by decide +kernel
theorem dX6_answerOfDinner_31 : decode cX6_answerOfDinner 31 = .ok (.getfield 154, 3) := by decide +kernel
theorem dX6_answerOfDinner_34 : decode cX6_answerOfDinner 34 = .ok (.isub, 1) := by decide +kernel
theorem dX6_answerOfDinner_35 : decode cX6_answerOfDinner 35 = .ok (.ireturn, 1) := by decide +kernel
theorem dX6_answerOfDinner_36 : decode cX6_answerOfDinner 36 = .ok (.iload_n 1, 1) := by decide +kernel
theorem dX6_answerOfDinner_37 : decode cX6_answerOfDinner 37 = .ok (.tableswitch 101 0 5 #[39, 101, 47, 63, 79, 90], 39) := by decide +kernel
theorem dX6_answerOfDinner_76 : decode cX6_answerOfDinner 76 = .ok (.aload_n 0, 1) := by decide +kernel
theorem dX6_answerOfDinner_77 : decode cX6_answerOfDinner 77 = .ok (.getfield 27, 3) := by decide +kernel
theorem dX6_answerOfDinner_80 : decode cX6_answerOfDinner 80 = .ok (.getfield 157, 3) := by decide +kernel
theorem dX6_answerOfDinner_83 : decode cX6_answerOfDinner 83 = .ok (.ireturn, 1) := by decide +kernel
theorem dX6_answerOfDinner_84 : decode cX6_answerOfDinner 84 = .ok (.aload_n 0, 1) := by decide +kernel
theorem dX6_answerOfDinner_85 : decode cX6_answerOfDinner 85 = .ok (.getfield 48, 3) := by decide +kernel
theorem dX6_answerOfDinner_88 : decode cX6_answerOfDinner 88 = .ok (.iconst 0, 1) := by decide +kernel
theorem dX6_answerOfDinner_89 : decode cX6_answerOfDinner 89 = .ok (.aload_n 0, 1) := by decide +kernel
theorem dX6_answerOfDinner_90 : decode cX6_answerOfDinner 90 = .ok (.getfield 27, 3) := by decide +kernel
theorem dX6_answerOfDinner_93 : decode cX6_answerOfDinner 93 = .ok (.getfield 160, 3) := by decide +kernel
theorem dX6_answerOfDinner_96 : decode cX6_answerOfDinner 96 = .ok (.invokevirtual 129, 3) := by decide +kernel
theorem dX6_answerOfDinner_99 : decode cX6_answerOfDinner 99 = .ok (.ireturn, 1) := by decide +kernel
theorem dX6_answerOfDinner_100 : decode cX6_answerOfDinner 100 = .ok (.aload_n 0, 1) := by decide +kernel
theorem dX6_answerOfDinner_101 : decode cX6_answerOfDinner 101 = .ok (.getfield 48, 3) := by decide +kernel
theorem dX6_answerOfDinner_104 : decode cX6_answerOfDinner 104 = .ok (.iconst 1, 1) := by decide +kernel
theorem dX6_answerOfDinner_105 : decode cX6_answerOfDinner 105 = .ok (.aload_n 0, 1) := by decide +kernel
theorem dX6_answerOfDinner_106 : decode cX6_answerOfDinner 106 = .ok (.getfield 27, 3) := by decide +kernel
theorem dX6_answerOfDinner_109 : decode cX6_answerOfDinner 109 = .ok (.getfield 160, 3) := by decide +kernel
theorem dX6_answerOfDinner_112 : decode cX6_answerOfDinner 112 = .ok (.invokevirtual 129, 3) := by decide +kernel
theorem dX6_answerOfDinner_115 : decode cX6_answerOfDinner 115 = .ok (.ireturn, 1) := by decide +kernel
theorem dX6_answerOfDinner_116 : decode cX6_answerOfDinner 116 = .ok (.aload_n 0, 1) := by decide +kernel
theorem dX6_answerOfDinner_117 : decode cX6_answerOfDinner 117 = .ok (.getfield 27, 3) := by decide +kernel
theorem dX6_answerOfDinner_120 : decode cX6_answerOfDinner 120 = .ok (.getfield 160, 3) := by decide +kernel
theorem dX6_answerOfDinner_123 : decode cX6_answerOfDinner 123 = .ok (.invokestatic 161, 3) := by decide +kernel
theorem dX6_answerOfDinner_126 : decode cX6_answerOfDinner 126 = .ok (.ireturn, 1) := by decide +kernel
theorem dX6_answerOfDinner_127 : decode cX6_answerOfDinner 127 = .ok (.aload_n 0, 1) := by decide +kernel
theorem dX6_answerOfDinner_128 : decode cX6_answerOfDinner 128 = .ok (.getfield 27, 3) := by decide +kernel
theorem dX6_answerOfDinner_131 : decode cX6_answerOfDinner 131 = .ok (.getfield 160, 3) := by decide +kernel
theorem dX6_answerOfDinner_134 : decode cX6_answerOfDinner 134 = .ok (.invokestatic 164, 3) := by decide +kernel
theorem dX6_answerOfDinner_137 : decode cX6_answerOfDinner 137 = .ok (.ireturn, 1) := by decide +kernel
theorem dX6_answerOfDinner_138 : decode cX6_answerOfDinner 138 = .ok (.iload_n 1, 1) := by decide +kernel
theorem dX6_answerOfDinner_139 : decode cX6_answerOfDinner 139 = .ok (.bipush 10, 2) := by decide +kernel
theorem dX6_answerOfDinner_141 : decode cX6_answerOfDinner 141 = .ok (.isub, 1) := by decide +kernel
theorem dX6_answerOfDinner_142 : decode cX6_answerOfDinner 142 = .ok (.istore_n 2, 1) := by decide +kernel
theorem dX6_answerOfDinner_143 : decode cX6_answerOfDinner 143 = .ok (.iload_n 2, 1) := by decide +kernel
theorem dX6_answerOfDinner_144 : decode cX6_answerOfDinner 144 = .ok (.aload_n 0, 1) := by decide +kernel
theorem dX6_answerOfDinner_145 : decode cX6_answerOfDinner 145 = .ok (.getfield 48, 3) := by decide +kernel
theorem dX6_answerOfDinner_148 : decode cX6_answerOfDinner 148 = .ok (.getfield 106, 3) := by decide +kernel
theorem dX6_answerOfDinner_151 : decode cX6_answerOfDinner 151 = .ok (.invokestatic 64, 3) := by decide +kernel
theorem dX6_answerOfDinner_154 : decode cX6_answerOfDinner 154 = .ok (.ifCond .eq 21, 3) := by decide +kernel
theorem dX6_answerOfDinner_157 : decode cX6_answerOfDinner 157 = .ok (.aload_n 0, 1) := by decide +kernel
theorem dX6_answerOfDinner_158 : decode cX6_answerOfDinner 158 = .ok (.getfield 48, 3) := by decide +kernel
theorem dX6_answerOfDinner_161 : decode cX6_answerOfDinner 161 = .ok (.iload_n 2, 1) := by decide +kernel
theorem dX6_answerOfDinner_162 : decode cX6_answerOfDinner 162 = .ok (.aload_n 0, 1) := by decide +kernel
theorem dX6_answerOfDinner_163 : decode cX6_answerOfDinner 163 = .ok (.getfield 27, 3) := by decide +kernel
theorem dX6_answerOfDinner_166 : decode cX6_answerOfDinner 166 = .ok (.getfield 160, 3) := by decide +kernel
theorem dX6_answerOfDinner_169 : decode cX6_answerOfDinner 169 = .ok (.invokevirtual 118, 3) := by decide +kernel
theorem dX6_answerOfDinner_172 : decode cX6_answerOfDinner 172 = .ok (.goto 5, 3) := by decide +kernel
theorem dX6_answerOfDinner_175 : decode cX6_answerOfDinner 175 = .ok (.bipush (-9), 2) := by decide +kernel
theorem dX6_answerOfDinner_177 : decode cX6_answerOfDinner 177 = .ok (.ireturn, 1) := by decide +kernel
theorem dX6_ask_0 : decode cX6_ask 0 = .ok (.iload_n 1, 1) := by decide +kernel
theorem dX6_ask_1 : decode cX6_ask 1 = .ok (.aload_n 0, 1) := by decide +kernel
theorem dX6_ask_2 : decode cX6_ask 2 = .ok (.getfield 48, 3) := by decide +kernel
theorem dX6_ask_5 : decode cX6_ask 5 = .ok (.getfield 106, 3) := by decide +kernel
theorem dX6_ask_8 : decode cX6_ask 8 = .ok (.invokestatic 64, 3) := by decide +kernel
theorem dX6_ask_11 : decode cX6_ask 11 = .ok (.ifCond .eq 11, 3) := by decide +kernel
theorem dX6_ask_14 : decode cX6_ask 14 = .ok (.iload_n 2, 1) := by decide +kernel
theorem dX6_ask_15 : decode cX6_ask 15 = .ok (.iconst 2, 1) := by decide +kernel
theorem dX6_ask_16 : decode cX6_ask 16 = .ok (.invokestatic 64, 3) := by decide +kernel
theorem dX6_ask_19 : decode cX6_ask 19 = .ok (.ifCond .ne 5, 3) := by decide +kernel
theorem dX6_ask_22 : decode cX6_ask 22 = .ok (.iconst (-1), 1) := by decide +kernel
theorem dX6_ask_23 : decode cX6_ask 23 = .ok (.ireturn, 1) := by decide +kernel
theorem dX6_ask_24 : decode cX6_ask 24 = .ok (.iload_n 3, 1) := by decide +kernel
theorem dX6_ask_25 : decode cX6_ask 25 = .ok (.bipush (-2), 2) := by decide +kernel
theorem dX6_ask_27 : decode cX6_ask 27 = .ok (.if_icmp .lt 9, 3) := by decide +kernel
theorem dX6_ask_30 : decode cX6_ask 30 = .ok (.iload_n 3, 1) := by decide +kernel
theorem dX6_ask_31 : decode cX6_ask 31 = .ok (.bipush 15, 2) := by decide +kernel
theorem dX6_ask_33 : decode cX6_ask 33 = .ok (.if_icmp .le 6, 3) := by decide +kernel
theorem dX6_ask_36 : decode cX6_ask 36 = .ok (.bipush (-2), 2) := by decide +kernel
theorem dX6_ask_38 : decode cX6_ask 38 = .ok (.ireturn, 1) := by decide +kernel
theorem dX6_ask_39 : decode cX6_ask 39 = .ok (.aload_n 0, 1) := by decide +kernel
theorem dX6_ask_40 : decode cX6_ask 40 = .ok (.getfield 34, 3) := by decide +kernel
theorem dX6_ask_43 : decode cX6_ask 43 = .ok (.aload_n 0, 1) := by decide +kernel
theorem dX6_ask_44 : decode cX6_ask 44 = .ok (.getfield 48, 3) := by decide +kernel
theorem dX6_ask_47 : decode cX6_ask 47 = .ok (.iload_n 1, 1) := by decide +kernel
theorem dX6_ask_48 : decode cX6_ask 48 = .ok (.iload_n 2, 1) := by decide +kernel
theorem dX6_ask_49 : decode cX6_ask 49 = .ok (.invokevirtual 167, 3) := by decide +kernel
theorem dX6_ask_52 : decode cX6_ask 52 = .ok (.iload_n 3, 1) := by decide +kernel
theorem dX6_ask_53 : decode cX6_ask 53 = .ok (.bipush (-2), 2) := by decide +kernel
theorem dX6_ask_55 : decode cX6_ask 55 = .ok (.if_icmp .ne 15, 3) := by decide +kernel
theorem dX6_ask_58 : decode cX6_ask 58 = .ok (.aload_n 0, 1) := by decide +kernel
theorem dX6_ask_59 : decode cX6_ask 59 = .ok (.getfield 34, 3) := by decide +kernel
theorem dX6_ask_62 : decode cX6_ask 62 = .ok (.aload_n 0, 1) := by decide +kernel
theorem dX6_ask_63 : decode cX6_ask 63 = .ok (.getfield 48, 3) := by decide +kernel
theorem dX6_ask_66 : decode cX6_ask 66 = .ok (.invokevirtual 171, 3) := by decide +kernel
theorem dX6_ask_69 : decode cX6_ask 69 = .ok (.ireturn, 1) := by decide +kernel
theorem dX6_ask_70 : decode cX6_ask 70 = .ok (.iload_n 3, 1) := by decide +kernel
theorem dX6_ask_71 : decode cX6_ask 71 = .ok (.iconst (-1), 1) := by decide +kernel
theorem dX6_ask_72 : decode cX6_ask 72 = .ok (.if_icmp .ne 17, 3) := by decide +kernel
theorem dX6_ask_75 : decode cX6_ask 75 = .ok (.aload_n 0, 1) := by decide +kernel
theorem dX6_ask_76 : decode cX6_ask 76 = .ok (.getfield 34, 3) := by decide +kernel
theorem dX6_ask_79 : decode cX6_ask 79 = .ok (.aload_n 0, 1) := by decide +kernel
theorem dX6_ask_80 : decode cX6_ask 80 = .ok (.getfield 48, 3) := by decide +kernel
theorem dX6_ask_83 : decode cX6_ask 83 = .ok (.invokevirtual 174, 3) := by decide +kernel
theorem dX6_ask_86 : decode cX6_ask 86 = .ok (.goto 15, 3) := by decide +kernel
theorem dX6_ask_89 : decode cX6_ask 89 = .ok (.aload_n 0, 1) := by decide +kernel
theorem dX6_ask_90 : decode cX6_ask 90 = .ok (.getfield 34, 3) := by decide +kernel
theorem dX6_ask_93 : decode cX6_ask 93 = .ok (.aload_n 0, 1) := by decide +kernel
theorem dX6_ask_94 : decode cX6_ask 94 = .ok (.getfield 48, 3) := by decide +kernel
theorem dX6_ask_97 : decode cX6_ask 97 = .ok (.iload_n 3, 1) := by decide +kernel
theorem dX6_ask_98 : decode cX6_ask 98 = .ok (.invokevirtual 177, 3) := by decide +kernel
theorem dX6_ask_101 : decode cX6_ask 101 = .ok (.ireturn, 1) := by decide +kernel
theorem dX6_treaty_0 : decode cX6_treaty 0 = .ok (.iload_n 1, 1) := by decide +kernel
theorem dX6_treaty_1 : decode cX6_treaty 1 = .ok (.iconst (-1), 1) := by decide +kernel
theorem dX6_treaty_2 : decode cX6_treaty 2 = .ok (.if_icmp .lt 9, 3) := by decide +kernel
theorem dX6_treaty_5 : decode cX6_treaty 5 = .ok (.iload_n 1, 1) := by decide +kernel
theorem dX6_treaty_6 : decode cX6_treaty 6 = .ok (.bipush 15, 2) := by decide +kernel
theorem dX6_treaty_8 : decode cX6_treaty 8 = .ok (.if_icmp .le 6, 3) := by decide +kernel
theorem dX6_treaty_11 : decode cX6_treaty 11 = .ok (.bipush (-2), 2) := by decide +kernel
theorem dX6_treaty_13 : decode cX6_treaty 13 = .ok (.ireturn, 1) := by decide +kernel
theorem dX6_treaty_14 : decode cX6_treaty 14 = .ok (.aload_n 0, 1) := by decide +kernel
theorem dX6_treaty_15 : decode cX6_treaty 15 = .ok (.getfield 48, 3) := by decide +kernel
theorem dX6_treaty_18 : decode cX6_treaty 18 = .ok (.invokevirtual 125, 3) := by decide +kernel
theorem dX6_treaty_21 : decode cX6_treaty 21 = .ok (.ifCond .ne 6, 3) := by decide +kernel
theorem dX6_treaty_24 : decode cX6_treaty 24 = .ok (.bipush (-3), 2) := by decide +kernel
theorem dX6_treaty_26 : decode cX6_treaty 26 = .ok (.ireturn, 1) := by decide +kernel
theorem dX6_treaty_27 : decode cX6_treaty 27 = .ok (.aload_n 0, 1) := by decide +kernel
theorem dX6_treaty_28 : decode cX6_treaty 28 = .ok (.getfield 34, 3) := by decide +kernel
theorem dX6_treaty_31 : decode cX6_treaty 31 = .ok (.aload_n 0, 1) := by decide +kernel
theorem dX6_treaty_32 : decode cX6_treaty 32 = .ok (.getfield 48, 3) := by decide +kernel
theorem dX6_treaty_35 : decode cX6_treaty 35 = .ok (.invokevirtual 181, 3) := by decide +kernel
theorem dX6_treaty_38 : decode cX6_treaty 38 = .ok (.iload_n 1, 1) := by decide +kernel
theorem dX6_treaty_39 : decode cX6_treaty 39 = .ok (.iconst (-1), 1) := by decide +kernel
theorem dX6_treaty_40 : decode cX6_treaty 40 = .ok (.if_icmp .ne 17, 3) := by decide +kernel
theorem dX6_treaty_43 : decode cX6_treaty 43 = .ok (.aload_n 0, 1) := by decide +kernel
theorem dX6_treaty_44 : decode cX6_treaty 44 = .ok (.getfield 34, 3) := by decide +kernel
theorem dX6_treaty_47 : decode cX6_treaty 47 = .ok (.aload_n 0, 1) := by decide +kernel
theorem dX6_treaty_48 : decode cX6_treaty 48 = .ok (.getfield 48, 3) := by decide +kernel
theorem dX6_treaty_51 : decode cX6_treaty 51 = .ok (.invokevirtual 174, 3) := by decide +kernel
theorem dX6_treaty_54 : decode cX6_treaty 54 = .ok (.goto 15, 3) := by decide +kernel
theorem dX6_treaty_57 : decode cX6_treaty 57 = .ok (.aload_n 0, 1) := by decide +kernel
theorem dX6_treaty_58 : decode cX6_treaty 58 = .ok (.getfield 34, 3) := by decide +kernel
theorem dX6_treaty_61 : decode cX6_treaty 61 = .ok (.aload_n 0, 1) := by decide +kernel
theorem dX6_treaty_62 : decode cX6_treaty 62 = .ok (.getfield 48, 3) := by decide +kernel
theorem dX6_treaty_65 : decode cX6_treaty 65 = .ok (.iload_n 1, 1) := by decide +kernel
theorem dX6_treaty_66 : decode cX6_treaty 66 = .ok (.invokevirtual 177, 3) := by decide +kernel
theorem dX6_treaty_69 : decode cX6_treaty 69 = .ok (.ireturn, 1) := by decide +kernel
theorem dX6_game_0 : decode cX6_game 0 = .ok (.iload_n 1, 1) := by decide +kernel
theorem dX6_game_1 : decode cX6_game 1 = .ok (.iconst 2, 1) := by decide +kernel
theorem dX6_game_2 : decode cX6_game 2 = .ok (.invokestatic 64, 3) := by decide +kernel
theorem dX6_game_5 : decode cX6_game 5 = .ok (.ifCond .ne 5, 3) := by decide +kernel
theorem dX6_game_8 : decode cX6_game 8 = .ok (.iconst (-1), 1) := by decide +kernel
theorem dX6_game_9 : decode cX6_game 9 = .ok (.ireturn, 1) := by decide +kernel
theorem dX6_game_10 : decode cX6_game 10 = .ok (.iload_n 2, 1) := by decide +kernel
theorem dX6_game_11 : decode cX6_game 11 = .ok (.iconst 1, 1) := by decide +kernel
theorem dX6_game_12 : decode cX6_game 12 = .ok (.if_icmp .lt 17, 3) := by decide +kernel
theorem dX6_game_15 : decode cX6_game 15 = .ok (.iload_n 2, 1) := by decide +kernel
theorem dX6_game_16 : decode cX6_game 16 = .ok (.iconst 4, 1) := by decide +kernel
theorem dX6_game_17 : decode cX6_game 17 = .ok (.if_icmp .gt 12, 3) := by decide +kernel
theorem dX6_game_20 : decode cX6_game 20 = .ok (.iload_n 3, 1) := by decide +kernel
theorem dX6_game_21 : decode cX6_game 21 = .ok (.ifCond .lt 8, 3) := by decide +kernel
theorem dX6_game_24 : decode cX6_game 24 = .ok (.iload_n 3, 1) := by decide +kernel
theorem dX6_game_25 : decode cX6_game 25 = .ok (.iconst 1, 1) := by decide +kernel
theorem dX6_game_26 : decode cX6_game 26 = .ok (.if_icmp .le 6, 3) := by decide +kernel
theorem dX6_game_29 : decode cX6_game 29 = .ok (.bipush (-2), 2) := by decide +kernel
theorem dX6_game_31 : decode cX6_game 31 = .ok (.ireturn, 1) := by decide +kernel
theorem dX6_game_32 : decode cX6_game 32 = .ok (.aload_n 0, 1) := by decide +kernel
theorem dX6_game_33 : decode cX6_game 33 = .ok (.getfield 48, 3) := by decide +kernel
theorem dX6_game_36 : decode cX6_game 36 = .ok (.invokevirtual 125, 3) := by decide +kernel
theorem dX6_game_39 : decode cX6_game 39 = .ok (.ifCond .ne 6, 3) := by decide +kernel
theorem dX6_game_42 : decode cX6_game 42 = .ok (.bipush (-3), 2) := by decide +kernel
theorem dX6_game_44 : decode cX6_game 44 = .ok (.ireturn, 1) := by decide +kernel
theorem dX6_game_45 : decode cX6_game 45 = .ok (.iload_n 3, 1) := by decide +kernel
theorem dX6_game_46 : decode cX6_game 46 = .ok (.ifCond .ne 23, 3) := by decide +kernel
theorem dX6_game_49 : decode cX6_game 49 = .ok (.bipush 100, 2) := by decide +kernel
theorem dX6_game_51 : decode cX6_game 51 = .ok (.aload_n 0, 1) := by decide +kernel
theorem dX6_game_52 : decode cX6_game 52 = .ok (.getfield 48, 3) := by decide +kernel
theorem dX6_game_55 : decode cX6_game 55 = .ok (.aload_n 0, 1) := by decide +kernel
theorem dX6_game_56 : decode cX6_game 56 = .ok (.getfield 48, 3) := by decide +kernel
theorem dX6_game_59 : decode cX6_game 59 = .ok (.getfield 115, 3) := by decide +kernel
theorem dX6_game_62 : decode cX6_game 62 = .ok (.iload_n 1, 1) := by decide +kernel
theorem dX6_game_63 : decode cX6_game 63 = .ok (.iload_n 2, 1) := by decide +kernel
theorem dX6_game_64 : decode cX6_game 64 = .ok (.invokevirtual 185, 3) := by decide +kernel
theorem dX6_game_67 : decode cX6_game 67 = .ok (.iadd, 1) := by decide +kernel
theorem dX6_game_68 : decode cX6_game 68 = .ok (.ireturn, 1) := by decide +kernel
theorem dX6_game_69 : decode cX6_game 69 = .ok (.aload_n 0, 1) := by decide +kernel
theorem dX6_game_70 : decode cX6_game 70 = .ok (.getfield 48, 3) := by decide +kernel
theorem dX6_game_73 : decode cX6_game 73 = .ok (.iload_n 1, 1) := by decide +kernel
theorem dX6_game_74 : decode cX6_game 74 = .ok (.iload_n 2, 1) := by decide +kernel
theorem dX6_game_75 : decode cX6_game 75 = .ok (.invokevirtual 188, 3) := by decide +kernel
theorem dX6_game_78 : decode cX6_game 78 = .ok (.ireturn, 1) := by decide +kernel
theorem dX6_spilt_0 : decode cX6_spilt 0 = .ok (.aload_n 0, 1) := by decide +kernel
theorem dX6_spilt_1 : decode cX6_spilt 1 = .ok (.getfield 48, 3) := by decide +kernel
theorem dX6_spilt_4 : decode cX6_spilt 4 = .ok (.invokevirtual 125, 3) := by decide +kernel
theorem dX6_spilt_7 : decode cX6_spilt 7 = .ok (.ifCond .ne 6, 3) := by decide +kernel
theorem dX6_spilt_10 : decode cX6_spilt 10 = .ok (.bipush (-3), 2) := by decide +kernel
theorem dX6_spilt_12 : decode cX6_spilt 12 = .ok (.ireturn, 1) := by decide +kernel
theorem dX6_spilt_13 : decode cX6_spilt 13 = .ok (.iload_n 1, 1) := by decide +kernel
theorem dX6_spilt_14 : decode cX6_spilt 14 = .ok (.iconst 1, 1) := by decide +kernel
theorem dX6_spilt_15 : decode cX6_spilt 15 = .ok (.aload_n 0, 1) := by decide +kernel
theorem dX6_spilt_16 : decode cX6_spilt 16 = .ok (.getfield 48, 3) := by decide +kernel
theorem dX6_spilt_19 : decode cX6_spilt 19 = .ok (.getfield 91, 3) := by decide +kernel
theorem dX6_spilt_22 : decode cX6_spilt 22 = .ok (.ishl, 1) := by decide +kernel
theorem dX6_spilt_23 : decode cX6_spilt 23 = .ok (.invokestatic 64, 3) := by decide +kernel
theorem dX6_spilt_26 : decode cX6_spilt 26 = .ok (.ifCond .ne 6, 3) := by decide +kernel
theorem dX6_spilt_29 : decode cX6_spilt 29 = .ok (.bipush (-2), 2) := by decide +kernel
theorem dX6_spilt_31 : decode cX6_spilt 31 = .ok (.ireturn, 1) := by decide +kernel
theorem dX6_spilt_32 : decode cX6_spilt 32 = .ok (.aload_n 0, 1) := by decide +kernel
theorem dX6_spilt_33 : decode cX6_spilt 33 = .ok (.getfield 48, 3) := by decide +kernel
theorem dX6_spilt_36 : decode cX6_spilt 36 = .ok (.iload_n 1, 1) := by decide +kernel
theorem dX6_spilt_37 : decode cX6_spilt 37 = .ok (.invokevirtual 191, 3) := by decide +kernel
theorem dX6_spilt_40 : decode cX6_spilt 40 = .ok (.ireturn, 1) := by decide +kernel
theorem dX6_home_0 : decode cX6_home 0 = .ok (.iload_n 1, 1) := by decide +kernel
theorem dX6_home_1 : decode cX6_home 1 = .ok (.bipush 21, 2) := by decide +kernel
theorem dX6_home_3 : decode cX6_home 3 = .ok (.invokestatic 64, 3) := by decide +kernel
theorem dX6_home_6 : decode cX6_home 6 = .ok (.ifCond .eq 13, 3) := by decide +kernel
theorem dX6_home_9 : decode cX6_home 9 = .ok (.aload_n 0, 1) := by decide +kernel
theorem dX6_home_10 : decode cX6_home 10 = .ok (.getfield 48, 3) := by decide +kernel
theorem dX6_home_13 : decode cX6_home 13 = .ok (.invokevirtual 125, 3) := by decide +kernel
theorem dX6_home_16 : decode cX6_home 16 = .ok (.ifCond .ne 7, 3) := by decide +kernel
theorem dX6_home_19 : decode cX6_home 19 = .ok (.ldc2_w 194, 3) := by decide +kernel
theorem dX6_home_22 : decode cX6_home 22 = .ok (.lreturn, 1) := by decide +kernel
theorem dX6_home_23 : decode cX6_home 23 = .ok (.aload_n 0, 1) := by decide +kernel
theorem dX6_home_24 : decode cX6_home 24 = .ok (.getfield 41, 3) := by decide +kernel
theorem dX6_home_27 : decode cX6_home 27 = .ok (.aload_n 0, 1) := by decide +kernel
theorem dX6_home_28 : decode cX6_home 28 = .ok (.getfield 48, 3) := by decide +kernel
theorem dX6_home_31 : decode cX6_home 31 = .ok (.iload_n 1, 1) := by decide +kernel
theorem dX6_home_32 : decode cX6_home 32 = .ok (.iconst 0, 1) := by decide +kernel
theorem dX6_home_33 : decode cX6_home 33 = .ok (.invokevirtual 196, 3) := by decide +kernel
theorem dX6_home_36 : decode cX6_home 36 = .ok (.aload_n 0, 1) := by decide +kernel
theorem dX6_home_37 : decode cX6_home 37 = .ok (.getfield 41, 3) := by decide +kernel
theorem dX6_home_40 : decode cX6_home 40 = .ok (.getfield 200, 3) := by decide +kernel
theorem dX6_home_43 : decode cX6_home 43 = .ok (.aload_n 0, 1) := by decide +kernel
theorem dX6_home_44 : decode cX6_home 44 = .ok (.getfield 48, 3) := by decide +kernel
theorem dX6_home_47 : decode cX6_home 47 = .ok (.getfield 115, 3) := by decide +kernel
theorem dX6_home_50 : decode cX6_home 50 = .ok (.invokestatic 161, 3) := by decide +kernel
theorem dX6_home_53 : decode cX6_home 53 = .ok (.laload, 1) := by decide +kernel
theorem dX6_home_54 : decode cX6_home 54 = .ok (.lreturn, 1) := by decide +kernel
theorem dX6_reading_0 : decode cX6_reading 0 = .ok (.iload_n 1, 1) := by decide +kernel
theorem dX6_reading_1 : decode cX6_reading 1 = .ok (.aload_n 0, 1) := by decide +kernel
theorem dX6_reading_2 : decode cX6_reading 2 = .ok (.getfield 48, 3) := by decide +kernel
theorem dX6_reading_5 : decode cX6_reading 5 = .ok (.getfield 91, 3) := by decide +kernel
theorem dX6_reading_8 : decode cX6_reading 8 = .ok (.invokestatic 64, 3) := by decide +kernel
theorem dX6_reading_11 : decode cX6_reading 11 = .ok (.ifCond .ne 5, 3) := by decide +kernel
theorem dX6_reading_14 : decode cX6_reading 14 = .ok (.iconst (-1), 1) := by decide +kernel
theorem dX6_reading_15 : decode cX6_reading 15 = .ok (.ireturn, 1) := by decide +kernel
theorem dX6_reading_16 : decode cX6_reading 16 = .ok (.iload_n 2, 1) := by decide +kernel
theorem dX6_reading_17 : decode cX6_reading 17 = .ok (.bipush 20, 2) := by decide +kernel
theorem dX6_reading_19 : decode cX6_reading 19 = .ok (.invokestatic 64, 3) := by decide +kernel
theorem dX6_reading_22 : decode cX6_reading 22 = .ok (.ifCond .ne 6, 3) := by decide +kernel
theorem dX6_reading_25 : decode cX6_reading 25 = .ok (.bipush (-2), 2) := by decide +kernel
theorem dX6_reading_27 : decode cX6_reading 27 = .ok (.ireturn, 1) := by decide +kernel
theorem dX6_reading_28 : decode cX6_reading 28 = .ok (.aload_n 0, 1) := by decide +kernel
theorem dX6_reading_29 : decode cX6_reading 29 = .ok (.getfield 48, 3) := by decide +kernel
theorem dX6_reading_32 : decode cX6_reading 32 = .ok (.getfield 204, 3) := by decide +kernel
theorem dX6_reading_35 : decode cX6_reading 35 = .ok (.bipush 8, 2) := by decide +kernel
theorem dX6_reading_37 : decode cX6_reading 37 = .ok (.if_icmp .lt 6, 3) := by decide +kernel
theorem dX6_reading_40 : decode cX6_reading 40 = .ok (.bipush (-4), 2) := by decide +kernel
theorem dX6_reading_42 : decode cX6_reading 42 = .ok (.ireturn, 1) := by decide +kernel
theorem dX6_reading_43 : decode cX6_reading 43 = .ok (.aload_n 0, 1) := by decide +kernel
theorem dX6_reading_44 : decode cX6_reading 44 = .ok (.getfield 48, 3) := by decide +kernel
theorem dX6_reading_47 : decode cX6_reading 47 = .ok (.getfield 207, 3) := by decide +kernel
theorem dX6_reading_50 : decode cX6_reading 50 = .ok (.aload_n 0, 1) := by decide +kernel
theorem dX6_reading_51 : decode cX6_reading 51 = .ok (.getfield 48, 3) := by decide +kernel
theorem dX6_reading_54 : decode cX6_reading 54 = .ok (.getfield 204, 3) := by decide +kernel
theorem dX6_reading_57 : decode cX6_reading 57 = .ok (.iload_n 1, 1) := by decide +kernel
theorem dX6_reading_58 : decode cX6_reading 58 = .ok (.iastore, 1) := by decide +kernel
theorem dX6_reading_59 : decode cX6_reading 59 = .ok (.aload_n 0, 1) := by decide +kernel
theorem dX6_reading_60 : decode cX6_reading 60 = .ok (.getfield 48, 3) := by decide +kernel
theorem dX6_reading_63 : decode cX6_reading 63 = .ok (.getfield 210, 3) := by decide +kernel
theorem dX6_reading_66 : decode cX6_reading 66 = .ok (.aload_n 0, 1) := by decide +kernel
theorem dX6_reading_67 : decode cX6_reading 67 = .ok (.getfield 48, 3) := by decide +kernel
theorem dX6_reading_70 : decode cX6_reading 70 = .ok (.getfield 204, 3) := by decide +kernel
theorem dX6_reading_73 : decode cX6_reading 73 = .ok (.iload_n 2, 1) := by decide +kernel
theorem dX6_reading_74 : decode cX6_reading 74 = .ok (.iastore, 1) := by decide +kernel
theorem dX6_reading_75 : decode cX6_reading 75 = .ok (.aload_n 0, 1) := by decide +kernel
theorem dX6_reading_76 : decode cX6_reading 76 = .ok (.getfield 48, 3) := by decide +kernel
theorem dX6_reading_79 : decode cX6_reading 79 = .ok (.dup, 1) := by decide +kernel
theorem dX6_reading_80 : decode cX6_reading 80 = .ok (.getfield 204, 3) := by decide +kernel
theorem dX6_reading_83 : decode cX6_reading 83 = .ok (.iconst 1, 1) := by decide +kernel
theorem dX6_reading_84 : decode cX6_reading 84 = .ok (.iadd, 1) := by decide +kernel
theorem dX6_reading_85 : decode cX6_reading 85 = .ok (.putfield 204, 3) := by decide +kernel
theorem dX6_reading_88 : decode cX6_reading 88 = .ok (.aload_n 0, 1) := by decide +kernel
theorem dX6_reading_89 : decode cX6_reading 89 = .ok (.getfield 48, 3) := by decide +kernel
theorem dX6_reading_92 : decode cX6_reading 92 = .ok (.getfield 204, 3) := by decide +kernel
theorem dX6_reading_95 : decode cX6_reading 95 = .ok (.iconst 1, 1) := by decide +kernel
theorem dX6_reading_96 : decode cX6_reading 96 = .ok (.isub, 1) := by decide +kernel
theorem dX6_reading_97 : decode cX6_reading 97 = .ok (.ireturn, 1) := by decide +kernel
theorem dX6_back_0 : decode cX6_back 0 = .ok (.iload_n 1, 1) := by decide +kernel
theorem dX6_back_1 : decode cX6_back 1 = .ok (.aload_n 0, 1) := by decide +kernel
theorem dX6_back_2 : decode cX6_back 2 = .ok (.getfield 48, 3) := by decide +kernel
theorem dX6_back_5 : decode cX6_back 5 = .ok (.getfield 204, 3) := by decide +kernel
theorem dX6_back_8 : decode cX6_back 8 = .ok (.iconst 1, 1) := by decide +kernel
theorem dX6_back_9 : decode cX6_back 9 = .ok (.iadd, 1) := by decide +kernel
theorem dX6_back_10 : decode cX6_back 10 = .ok (.invokestatic 64, 3) := by decide +kernel
theorem dX6_back_13 : decode cX6_back 13 = .ok (.ifCond .ne 6, 3) := by decide +kernel
theorem dX6_back_16 : decode cX6_back 16 = .ok (.bipush (-2), 2) := by decide +kernel
theorem dX6_back_18 : decode cX6_back 18 = .ok (.ireturn, 1) := by decide +kernel
theorem dX6_back_19 : decode cX6_back 19 = .ok (.aload_n 0, 1) := by decide +kernel
theorem dX6_back_20 : decode cX6_back 20 = .ok (.getfield 48, 3) := by decide +kernel
theorem dX6_back_23 : decode cX6_back 23 = .ok (.dup, 1) := by decide +kernel
theorem dX6_back_24 : decode cX6_back 24 = .ok (.getfield 204, 3) := by decide +kernel
theorem dX6_back_27 : decode cX6_back 27 = .ok (.iload_n 1, 1) := by decide +kernel
theorem dX6_back_28 : decode cX6_back 28 = .ok (.isub, 1) := by decide +kernel
theorem dX6_back_29 : decode cX6_back 29 = .ok (.putfield 204, 3) := by decide +kernel
theorem dX6_back_32 : decode cX6_back 32 = .ok (.aload_n 0, 1) := by decide +kernel
theorem dX6_back_33 : decode cX6_back 33 = .ok (.getfield 48, 3) := by decide +kernel
theorem dX6_back_36 : decode cX6_back 36 = .ok (.getfield 204, 3) := by decide +kernel
theorem dX6_back_39 : decode cX6_back 39 = .ok (.ireturn, 1) := by decide +kernel
theorem dX6_mouths_0 : decode cX6_mouths 0 = .ok (.iload_n 1, 1) := by decide +kernel
theorem dX6_mouths_1 : decode cX6_mouths 1 = .ok (.aload_n 0, 1) := by decide +kernel
theorem dX6_mouths_2 : decode cX6_mouths 2 = .ok (.getfield 48, 3) := by decide +kernel
theorem dX6_mouths_5 : decode cX6_mouths 5 = .ok (.getfield 91, 3) := by decide +kernel
theorem dX6_mouths_8 : decode cX6_mouths 8 = .ok (.invokestatic 64, 3) := by decide +kernel
theorem dX6_mouths_11 : decode cX6_mouths 11 = .ok (.ifCond .ne 5, 3) := by decide +kernel
theorem dX6_mouths_14 : decode cX6_mouths 14 = .ok (.iconst (-1), 1) := by decide +kernel
theorem dX6_mouths_15 : decode cX6_mouths 15 = .ok (.ireturn, 1) := by decide +kernel
theorem dX6_mouths_16 : decode cX6_mouths 16 = .ok (.iconst 0, 1) := by decide +kernel
theorem dX6_mouths_17 : decode cX6_mouths 17 = .ok (.istore_n 2, 1) := by decide +kernel
theorem dX6_mouths_18 : decode cX6_mouths 18 = .ok (.iconst 0, 1) := by decide +kernel
theorem dX6_mouths_19 : decode cX6_mouths 19 = .ok (.istore_n 3, 1) := by decide +kernel
theorem dX6_mouths_20 : decode cX6_mouths 20 = .ok (.iload_n 3, 1) := by decide +kernel
theorem dX6_mouths_21 : decode cX6_mouths 21 = .ok (.bipush 10, 2) := by decide +kernel
theorem dX6_mouths_23 : decode cX6_mouths 23 = .ok (.if_icmp .ge 43, 3) := by decide +kernel
theorem dX6_mouths_26 : decode cX6_mouths 26 = .ok (.aload_n 0, 1) := by decide +kernel
theorem dX6_mouths_27 : decode cX6_mouths 27 = .ok (.getfield 48, 3) := by decide +kernel
theorem dX6_mouths_30 : decode cX6_mouths 30 = .ok (.iload_n 1, 1) := by decide +kernel
theorem dX6_mouths_31 : decode cX6_mouths 31 = .ok (.aload_n 0, 1) := by decide +kernel
theorem dX6_mouths_32 : decode cX6_mouths 32 = .ok (.getfield 48, 3) := by decide +kernel
theorem dX6_mouths_35 : decode cX6_mouths 35 = .ok (.getfield 94, 3) := by decide +kernel
theorem dX6_mouths_38 : decode cX6_mouths 38 = .ok (.iload_n 1, 1) := by decide +kernel
theorem dX6_mouths_39 : decode cX6_mouths 39 = .ok (.iaload, 1) := by decide +kernel
theorem dX6_mouths_40 : decode cX6_mouths 40 = .ok (.iload_n 3, 1) := by decide +kernel
theorem dX6_mouths_41 : decode cX6_mouths 41 = .ok (.aload_n 0, 1) := by decide +kernel
theorem dX6_mouths_42 : decode cX6_mouths 42 = .ok (.getfield 48, 3) := by decide +kernel
theorem dX6_mouths_45 : decode cX6_mouths 45 = .ok (.getfield 132, 3) := by decide +kernel
theorem dX6_mouths_48 : decode cX6_mouths 48 = .ok (.invokevirtual 213, 3) := by decide +kernel
theorem dX6_mouths_51 : decode cX6_mouths 51 = .ok (.ifCond .eq 9, 3) := by decide +kernel
theorem dX6_mouths_54 : decode cX6_mouths 54 = .ok (.iload_n 2, 1) := by decide +kernel
theorem dX6_mouths_55 : decode cX6_mouths 55 = .ok (.iconst 1, 1) := by decide +kernel
theorem dX6_mouths_56 : decode cX6_mouths 56 = .ok (.iload_n 3, 1) := by decide +kernel
theorem dX6_mouths_57 : decode cX6_mouths 57 = .ok (.ishl, 1) := by decide +kernel
theorem dX6_mouths_58 : decode cX6_mouths 58 = .ok (.ior, 1) := by decide +kernel
theorem dX6_mouths_59 : decode cX6_mouths 59 = .ok (.istore_n 2, 1) := by decide +kernel
theorem dX6_mouths_60 : decode cX6_mouths 60 = .ok (.iinc 3 1, 3) := by decide +kernel
theorem dX6_mouths_63 : decode cX6_mouths 63 = .ok (.goto (-43), 3) := by decide +kernel
theorem dX6_mouths_66 : decode cX6_mouths 66 = .ok (.iload_n 2, 1) := by decide +kernel
theorem dX6_mouths_67 : decode cX6_mouths 67 = .ok (.ireturn, 1) := by decide +kernel
theorem dX6_kinds_0 : decode cX6_kinds 0 = .ok (.iload_n 1, 1) := by decide +kernel
theorem dX6_kinds_1 : decode cX6_kinds 1 = .ok (.aload_n 0, 1) := by decide +kernel
theorem dX6_kinds_2 : decode cX6_kinds 2 = .ok (.getfield 48, 3) := by decide +kernel
theorem dX6_kinds_5 : decode cX6_kinds 5 = .ok (.getfield 91, 3) := by decide +kernel
theorem dX6_kinds_8 : decode cX6_kinds 8 = .ok (.invokestatic 64, 3) := by decide +kernel
theorem dX6_kinds_11 : decode cX6_kinds 11 = .ok (.ifCond .ne 5, 3) := by decide +kernel
theorem dX6_kinds_14 : decode cX6_kinds 14 = .ok (.iconst (-1), 1) := by decide +kernel
theorem dX6_kinds_15 : decode cX6_kinds 15 = .ok (.ireturn, 1) := by decide +kernel
theorem dX6_kinds_16 : decode cX6_kinds 16 = .ok (.iconst 0, 1) := by decide +kernel
theorem dX6_kinds_17 : decode cX6_kinds 17 = .ok (.istore_n 2, 1) := by decide +kernel
theorem dX6_kinds_18 : decode cX6_kinds 18 = .ok (.iconst 0, 1) := by decide +kernel
theorem dX6_kinds_19 : decode cX6_kinds 19 = .ok (.istore_n 3, 1) := by decide +kernel
theorem dX6_kinds_20 : decode cX6_kinds 20 = .ok (.iload_n 3, 1) := by decide +kernel
theorem dX6_kinds_21 : decode cX6_kinds 21 = .ok (.iconst 3, 1) := by decide +kernel
theorem dX6_kinds_22 : decode cX6_kinds 22 = .ok (.if_icmp .ge 43, 3) := by decide +kernel
theorem dX6_kinds_25 : decode cX6_kinds 25 = .ok (.aload_n 0, 1) := by decide +kernel
theorem dX6_kinds_26 : decode cX6_kinds 26 = .ok (.getfield 48, 3) := by decide +kernel
theorem dX6_kinds_29 : decode cX6_kinds 29 = .ok (.iload_n 1, 1) := by decide +kernel
theorem dX6_kinds_30 : decode cX6_kinds 30 = .ok (.iload_n 3, 1) := by decide +kernel
theorem dX6_kinds_31 : decode cX6_kinds 31 = .ok (.aload_n 0, 1) := by decide +kernel
theorem dX6_kinds_32 : decode cX6_kinds 32 = .ok (.getfield 48, 3) := by decide +kernel
theorem dX6_kinds_35 : decode cX6_kinds 35 = .ok (.getfield 97, 3) := by decide +kernel
theorem dX6_kinds_38 : decode cX6_kinds 38 = .ok (.iload_n 1, 1) := by decide +kernel
theorem dX6_kinds_39 : decode cX6_kinds 39 = .ok (.iaload, 1) := by decide +kernel
theorem dX6_kinds_40 : decode cX6_kinds 40 = .ok (.aload_n 0, 1) := by decide +kernel
theorem dX6_kinds_41 : decode cX6_kinds 41 = .ok (.getfield 48, 3) := by decide +kernel
theorem dX6_kinds_44 : decode cX6_kinds 44 = .ok (.getfield 132, 3) := by decide +kernel
theorem dX6_kinds_47 : decode cX6_kinds 47 = .ok (.invokevirtual 213, 3) := by decide +kernel
theorem dX6_kinds_50 : decode cX6_kinds 50 = .ok (.ifCond .eq 9, 3) := by decide +kernel
theorem dX6_kinds_53 : decode cX6_kinds 53 = .ok (.iload_n 2, 1) := by decide +kernel
theorem dX6_kinds_54 : decode cX6_kinds 54 = .ok (.iconst 1, 1) := by decide +kernel
theorem dX6_kinds_55 : decode cX6_kinds 55 = .ok (.iload_n 3, 1) := by decide +kernel
theorem dX6_kinds_56 : decode cX6_kinds 56 = .ok (.ishl, 1) := by decide +kernel
theorem dX6_kinds_57 : decode cX6_kinds 57 = .ok (.ior, 1) := by decide +kernel
theorem dX6_kinds_58 : decode cX6_kinds 58 = .ok (.istore_n 2, 1) := by decide +kernel
theorem dX6_kinds_59 : decode cX6_kinds 59 = .ok (.iinc 3 1, 3) := by decide +kernel
theorem dX6_kinds_62 : decode cX6_kinds 62 = .ok (.goto (-42), 3) := by decide +kernel
theorem dX6_kinds_65 : decode cX6_kinds 65 = .ok (.iload_n 2, 1) := by decide +kernel
theorem dX6_kinds_66 : decode cX6_kinds 66 = .ok (.ireturn, 1) := by decide +kernel
theorem dX6_soups_0 : decode cX6_soups 0 = .ok (.aload_n 0, 1) := by decide +kernel
theorem dX6_soups_1 : decode cX6_soups 1 = .ok (.getfield 48, 3) := by decide +kernel
theorem dX6_soups_4 : decode cX6_soups 4 = .ok (.invokevirtual 125, 3) := by decide +kernel
theorem dX6_soups_7 : decode cX6_soups 7 = .ok (.ifCond .ne 6, 3) := by decide +kernel
theorem dX6_soups_10 : decode cX6_soups 10 = .ok (.bipush (-3), 2) := by decide +kernel
theorem dX6_soups_12 : decode cX6_soups 12 = .ok (.ireturn, 1) := by decide +kernel
theorem dX6_soups_13 : decode cX6_soups 13 = .ok (.iconst 0, 1) := by decide +kernel
theorem dX6_soups_14 : decode cX6_soups 14 = .ok (.istore_n 1, 1) := by decide +kernel
theorem dX6_soups_15 : decode cX6_soups 15 = .ok (.iconst 0, 1) := by decide +kernel
theorem dX6_soups_16 : decode cX6_soups 16 = .ok (.istore_n 2, 1) := by decide +kernel
theorem dX6_soups_17 : decode cX6_soups 17 = .ok (.iload_n 2, 1) := by decide +kernel
theorem dX6_soups_18 : decode cX6_soups 18 = .ok (.iconst 4, 1) := by decide +kernel
theorem dX6_soups_19 : decode cX6_soups 19 = .ok (.if_icmp .ge 45, 3) := by decide +kernel
theorem dX6_soups_22 : decode cX6_soups 22 = .ok (.aload_n 0, 1) := by decide +kernel
theorem dX6_soups_23 : decode cX6_soups 23 = .ok (.getfield 48, 3) := by decide +kernel
theorem dX6_soups_26 : decode cX6_soups 26 = .ok (.iconst 0, 1) := by decide +kernel
theorem dX6_soups_27 : decode cX6_soups 27 = .ok (.aload_n 0, 1) := by decide +kernel
theorem dX6_soups_28 : decode cX6_soups 28 = .ok (.getfield 48, 3) := by decide +kernel
theorem dX6_soups_31 : decode cX6_soups 31 = .ok (.getfield 94, 3) := by decide +kernel
theorem dX6_soups_34 : decode cX6_soups 34 = .ok (.iconst 0, 1) := by decide +kernel
theorem dX6_soups_35 : decode cX6_soups 35 = .ok (.iaload, 1) := by decide +kernel
theorem dX6_soups_36 : decode cX6_soups 36 = .ok (.aload_n 0, 1) := by decide +kernel
theorem dX6_soups_37 : decode cX6_soups 37 = .ok (.getfield 48, 3) := by decide +kernel
theorem dX6_soups_40 : decode cX6_soups 40 = .ok (.getfield 97, 3) := by decide +kernel
theorem dX6_soups_43 : decode cX6_soups 43 = .ok (.iconst 0, 1) := by decide +kernel
theorem dX6_soups_44 : decode cX6_soups 44 = .ok (.iaload, 1) := by decide +kernel
theorem dX6_soups_45 : decode cX6_soups 45 = .ok (.iload_n 2, 1) := by decide +kernel
theorem dX6_soups_46 : decode cX6_soups 46 = .ok (.invokevirtual 213, 3) := by decide +kernel
theorem dX6_soups_49 : decode cX6_soups 49 = .ok (.ifCond .eq 9, 3) := by decide +kernel
theorem dX6_soups_52 : decode cX6_soups 52 = .ok (.iload_n 1, 1) := by decide +kernel
theorem dX6_soups_53 : decode cX6_soups 53 = .ok (.iconst 1, 1) := by decide +kernel
theorem dX6_soups_54 : decode cX6_soups 54 = .ok (.iload_n 2, 1) := by decide +kernel
theorem dX6_soups_55 : decode cX6_soups 55 = .ok (.ishl, 1) := by decide +kernel
theorem dX6_soups_56 : decode cX6_soups 56 = .ok (.ior, 1) := by decide +kernel
theorem dX6_soups_57 : decode cX6_soups 57 = .ok (.istore_n 1, 1) := by decide +kernel
theorem dX6_soups_58 : decode cX6_soups 58 = .ok (.iinc 2 1, 3) := by decide +kernel
theorem dX6_soups_61 : decode cX6_soups 61 = .ok (.goto (-44), 3) := by decide +kernel
theorem dX6_soups_64 : decode cX6_soups 64 = .ok (.iload_n 1, 1) := by decide +kernel
theorem dX6_soups_65 : decode cX6_soups 65 = .ok (.ireturn, 1) := by decide +kernel
theorem dX6_odds_0 : decode cX6_odds 0 = .ok (.iload_n 1, 1) := by decide +kernel
theorem dX6_odds_1 : decode cX6_odds 1 = .ok (.aload_n 0, 1) := by decide +kernel
theorem dX6_odds_2 : decode cX6_odds 2 = .ok (.getfield 48, 3) := by decide +kernel
theorem dX6_odds_5 : decode cX6_odds 5 = .ok (.getfield 106, 3) := by decide +kernel
theorem dX6_odds_8 : decode cX6_odds 8 = .ok (.invokestatic 64, 3) := by decide +kernel
theorem dX6_odds_11 : decode cX6_odds 11 = .ok (.ifCond .eq 11, 3) := by decide +kernel
theorem dX6_odds_14 : decode cX6_odds 14 = .ok (.iload_n 2, 1) := by decide +kernel
theorem dX6_odds_15 : decode cX6_odds 15 = .ok (.iconst 2, 1) := by decide +kernel
theorem dX6_odds_16 : decode cX6_odds 16 = .ok (.invokestatic 64, 3) := by decide +kernel
theorem dX6_odds_19 : decode cX6_odds 19 = .ok (.ifCond .ne 7, 3) := by decide +kernel
theorem dX6_odds_22 : decode cX6_odds 22 = .ok (.ldc2_w 194, 3) := by decide +kernel
theorem dX6_odds_25 : decode cX6_odds 25 = .ok (.lreturn, 1) := by decide +kernel
theorem dX6_odds_26 : decode cX6_odds 26 = .ok (.iload_n 3, 1) := by decide +kernel
theorem dX6_odds_27 : decode cX6_odds 27 = .ok (.bipush 9, 2) := by decide +kernel
theorem dX6_odds_29 : decode cX6_odds 29 = .ok (.invokestatic 64, 3) := by decide +kernel
theorem dX6_odds_32 : decode cX6_odds 32 = .ok (.ifCond .eq 14, 3) := by decide +kernel
theorem dX6_odds_35 : decode cX6_odds 35 = .ok (.iload 4, 2) := by decide +kernel
theorem dX6_odds_37 : decode cX6_odds 37 = .ok (.ifCond .lt 9, 3) := by decide +kernel
theorem dX6_odds_40 : decode cX6_odds 40 = .ok (.iload 4, 2) := by decide +kernel
theorem dX6_odds_42 : decode cX6_odds 42 = .ok (.iconst 1, 1) := by decide +kernel
theorem dX6_odds_43 : decode cX6_odds 43 = .ok (.if_icmp .le 7, 3) := by decide +kernel
theorem dX6_odds_46 : decode cX6_odds 46 = .ok (.ldc2_w 194, 3) := by decide +kernel
theorem dX6_odds_49 : decode cX6_odds 49 = .ok (.lreturn, 1) := by decide +kernel
theorem dX6_odds_50 : decode cX6_odds 50 = .ok (.aload_n 0, 1) := by decide +kernel
theorem dX6_odds_51 : decode cX6_odds 51 = .ok (.getfield 41, 3) := by decide +kernel
theorem dX6_odds_54 : decode cX6_odds 54 = .ok (.aload_n 0, 1) := by decide +kernel
theorem dX6_odds_55 : decode cX6_odds 55 = .ok (.getfield 48, 3) := by decide +kernel
theorem dX6_odds_58 : decode cX6_odds 58 = .ok (.iload_n 3, 1) := by decide +kernel
theorem dX6_odds_59 : decode cX6_odds 59 = .ok (.iconst 1, 1) := by decide +kernel
theorem dX6_odds_60 : decode cX6_odds 60 = .ok (.invokevirtual 196, 3) := by decide +kernel
theorem dX6_odds_63 : decode cX6_odds 63 = .ok (.aload_n 0, 1) := by decide +kernel
theorem dX6_odds_64 : decode cX6_odds 64 = .ok (.getfield 41, 3) := by decide +kernel
theorem dX6_odds_67 : decode cX6_odds 67 = .ok (.aload_n 0, 1) := by decide +kernel
theorem dX6_odds_68 : decode cX6_odds 68 = .ok (.getfield 48, 3) := by decide +kernel
theorem dX6_odds_71 : decode cX6_odds 71 = .ok (.iload_n 1, 1) := by decide +kernel
theorem dX6_odds_72 : decode cX6_odds 72 = .ok (.iload_n 2, 1) := by decide +kernel
theorem dX6_odds_73 : decode cX6_odds 73 = .ok (.invokevirtual 217, 3) := by decide +kernel
theorem dX6_odds_76 : decode cX6_odds 76 = .ok (.lstore 5, 2) := by decide +kernel
theorem dX6_odds_78 : decode cX6_odds 78 = .ok (.lconst 1, 1) := by decide +kernel
theorem dX6_odds_79 : decode cX6_odds 79 = .ok (.iload_n 3, 1) := by decide +kernel
theorem dX6_odds_80 : decode cX6_odds 80 = .ok (.lshl, 1) := by decide +kernel
theorem dX6_odds_81 : decode cX6_odds 81 = .ok (.lstore 7, 2) := by decide +kernel
theorem dX6_odds_83 : decode cX6_odds 83 = .ok (.iconst 0, 1) := by decide +kernel
theorem dX6_odds_84 : decode cX6_odds 84 = .ok (.istore 9, 2) := by decide +kernel
theorem dX6_odds_86 : decode cX6_odds 86 = .ok (.iload 9, 2) := by decide +kernel
theorem dX6_odds_88 : decode cX6_odds 88 = .ok (.iload_n 3, 1) := by decide +kernel
theorem dX6_odds_89 : decode cX6_odds 89 = .ok (.if_icmp .ge 36, 3) := by decide +kernel
theorem dX6_odds_92 : decode cX6_odds 92 = .ok (.lload 5, 2) := by decide +kernel
theorem dX6_odds_94 : decode cX6_odds 94 = .ok (.ldc2_w 221, 3) := by decide +kernel
theorem dX6_odds_97 : decode cX6_odds 97 = .ok (.lrem, 1) := by decide +kernel
theorem dX6_odds_98 : decode cX6_odds 98 = .ok (.lconst 0, 1) := by decide +kernel
theorem dX6_odds_99 : decode cX6_odds 99 = .ok (.lcmp, 1) := by decide +kernel
theorem dX6_odds_100 : decode cX6_odds 100 = .ok (.ifCond .ne 25, 3) := by decide +kernel
theorem dX6_odds_103 : decode cX6_odds 103 = .ok (.lload 5, 2) := by decide +kernel
theorem dX6_odds_105 : decode cX6_odds 105 = .ok (.ldc2_w 221, 3) := by decide +kernel
theorem dX6_odds_108 : decode cX6_odds 108 = .ok (.ldiv, 1) := by decide +kernel
theorem dX6_odds_109 : decode cX6_odds 109 = .ok (.lstore 5, 2) := by decide +kernel
theorem dX6_odds_111 : decode cX6_odds 111 = .ok (.lload 7, 2) := by decide +kernel
theorem dX6_odds_113 : decode cX6_odds 113 = .ok (.ldc2_w 221, 3) := by decide +kernel
theorem dX6_odds_116 : decode cX6_odds 116 = .ok (.ldiv, 1) := by decide +kernel
theorem dX6_odds_117 : decode cX6_odds 117 = .ok (.lstore 7, 2) := by decide +kernel
theorem dX6_odds_119 : decode cX6_odds 119 = .ok (.iinc 9 1, 3) := by decide +kernel
theorem dX6_odds_122 : decode cX6_odds 122 = .ok (.goto (-36), 3) := by decide +kernel
theorem dX6_odds_125 : decode cX6_odds 125 = .ok (.iload 4, 2) := by decide +kernel
theorem dX6_odds_127 : decode cX6_odds 127 = .ok (.ifCond .ne 8, 3) := by decide +kernel
theorem dX6_odds_130 : decode cX6_odds 130 = .ok (.lload 5, 2) := by decide +kernel
theorem dX6_odds_132 : decode cX6_odds 132 = .ok (.goto 5, 3) := by decide +kernel
theorem dX6_odds_135 : decode cX6_odds 135 = .ok (.lload 7, 2) := by decide +kernel
theorem dX6_odds_137 : decode cX6_odds 137 = .ok (.lreturn, 1) := by decide +kernel
theorem dX6_sheet_0 : decode cX6_sheet 0 = .ok (.aload_n 0, 1) := by decide +kernel
theorem dX6_sheet_1 : decode cX6_sheet 1 = .ok (.iconst 0, 1) := by decide +kernel
theorem dX6_sheet_2 : decode cX6_sheet 2 = .ok (.putfield 56, 3) := by decide +kernel
theorem dX6_sheet_5 : decode cX6_sheet 5 = .ok (.iload_n 1, 1) := by decide +kernel
theorem dX6_sheet_6 : decode cX6_sheet 6 = .ok (.invokestatic 60, 3) := by decide +kernel
theorem dX6_sheet_9 : decode cX6_sheet 9 = .ok (.ifCond .ne 5, 3) := by decide +kernel
theorem dX6_sheet_12 : decode cX6_sheet 12 = .ok (.iconst (-1), 1) := by decide +kernel
theorem dX6_sheet_13 : decode cX6_sheet 13 = .ok (.ireturn, 1) := by decide +kernel
theorem dX6_sheet_14 : decode cX6_sheet 14 = .ok (.iload_n 2, 1) := by decide +kernel
theorem dX6_sheet_15 : decode cX6_sheet 15 = .ok (.iconst 3, 1) := by decide +kernel
theorem dX6_sheet_16 : decode cX6_sheet 16 = .ok (.invokestatic 64, 3) := by decide +kernel
theorem dX6_sheet_19 : decode cX6_sheet 19 = .ok (.ifCond .eq 9, 3) := by decide +kernel
theorem dX6_sheet_22 : decode cX6_sheet 22 = .ok (.iload_n 3, 1) := by decide +kernel
theorem dX6_sheet_23 : decode cX6_sheet 23 = .ok (.bipush 60, 2) := by decide +kernel
theorem dX6_sheet_25 : decode cX6_sheet 25 = .ok (.if_icmp .le 6, 3) := by decide +kernel
theorem dX6_sheet_28 : decode cX6_sheet 28 = .ok (.bipush (-2), 2) := by decide +kernel
theorem dX6_sheet_30 : decode cX6_sheet 30 = .ok (.ireturn, 1) := by decide +kernel
theorem dX6_sheet_31 : decode cX6_sheet 31 = .ok (.iload_n 3, 1) := by decide +kernel
theorem dX6_sheet_32 : decode cX6_sheet 32 = .ok (.ifCond .ge 9, 3) := by decide +kernel
theorem dX6_sheet_35 : decode cX6_sheet 35 = .ok (.aload_n 0, 1) := by decide +kernel
theorem dX6_sheet_36 : decode cX6_sheet 36 = .ok (.iconst 4, 1) := by decide +kernel
theorem dX6_sheet_37 : decode cX6_sheet 37 = .ok (.invokevirtual 72, 3) := by decide +kernel
theorem dX6_sheet_40 : decode cX6_sheet 40 = .ok (.ireturn, 1) := by decide +kernel
theorem dX6_sheet_41 : decode cX6_sheet 41 = .ok (.aload_n 0, 1) := by decide +kernel
theorem dX6_sheet_42 : decode cX6_sheet 42 = .ok (.getfield 13, 3) := by decide +kernel
theorem dX6_sheet_45 : decode cX6_sheet 45 = .ok (.iload_n 1, 1) := by decide +kernel
theorem dX6_sheet_46 : decode cX6_sheet 46 = .ok (.aaload, 1) := by decide +kernel
theorem dX6_sheet_47 : decode cX6_sheet 47 = .ok (.iload_n 2, 1) := by decide +kernel
theorem dX6_sheet_48 : decode cX6_sheet 48 = .ok (.iload_n 3, 1) := by decide +kernel
theorem dX6_sheet_49 : decode cX6_sheet 49 = .ok (.invokevirtual 223, 3) := by decide +kernel
theorem dX6_sheet_52 : decode cX6_sheet 52 = .ok (.iconst 1, 1) := by decide +kernel
theorem dX6_sheet_53 : decode cX6_sheet 53 = .ok (.ireturn, 1) := by decide +kernel
theorem dX6_lose_0 : decode cX6_lose 0 = .ok (.iload_n 1, 1) := by decide +kernel
theorem dX6_lose_1 : decode cX6_lose 1 = .ok (.invokestatic 60, 3) := by decide +kernel
theorem dX6_lose_4 : decode cX6_lose 4 = .ok (.ifCond .ne 5, 3) := by decide +kernel
theorem dX6_lose_7 : decode cX6_lose 7 = .ok (.iconst (-1), 1) := by decide +kernel
theorem dX6_lose_8 : decode cX6_lose 8 = .ok (.ireturn, 1) := by decide +kernel
theorem dX6_lose_9 : decode cX6_lose 9 = .ok (.aload_n 0, 1) := by decide +kernel
theorem dX6_lose_10 : decode cX6_lose 10 = .ok (.getfield 13, 3) := by decide +kernel
theorem dX6_lose_13 : decode cX6_lose 13 = .ok (.iload_n 1, 1) := by decide +kernel
theorem dX6_lose_14 : decode cX6_lose 14 = .ok (.aaload, 1) := by decide +kernel
theorem dX6_lose_15 : decode cX6_lose 15 = .ok (.getfield 227, 3) := by decide +kernel
theorem dX6_lose_18 : decode cX6_lose 18 = .ok (.ifCond .eq 7, 3) := by decide +kernel
theorem dX6_lose_21 : decode cX6_lose 21 = .ok (.iconst 1, 1) := by decide +kernel
theorem dX6_lose_22 : decode cX6_lose 22 = .ok (.goto 4, 3) := by decide +kernel
theorem dX6_lose_25 : decode cX6_lose 25 = .ok (.iconst 0, 1) := by decide +kernel
theorem dX6_lose_26 : decode cX6_lose 26 = .ok (.istore_n 2, 1) := by decide +kernel
theorem dX6_lose_27 : decode cX6_lose 27 = .ok (.aload_n 0, 1) := by decide +kernel
theorem dX6_lose_28 : decode cX6_lose 28 = .ok (.getfield 13, 3) := by decide +kernel
theorem dX6_lose_31 : decode cX6_lose 31 = .ok (.iload_n 1, 1) := by decide +kernel
theorem dX6_lose_32 : decode cX6_lose 32 = .ok (.aaload, 1) := by decide +kernel
theorem dX6_lose_33 : decode cX6_lose 33 = .ok (.iconst 0, 1) := by decide +kernel
theorem dX6_lose_34 : decode cX6_lose 34 = .ok (.putfield 227, 3) := by decide +kernel
theorem dX6_lose_37 : decode cX6_lose 37 = .ok (.iload_n 2, 1) := by decide +kernel
theorem dX6_lose_38 : decode cX6_lose 38 = .ok (.ireturn, 1) := by decide +kernel
theorem dX6_put_0 : decode cX6_put 0 = .ok (.aload_n 0, 1) := by decide +kernel
theorem dX6_put_1 : decode cX6_put 1 = .ok (.iconst 0, 1) := by decide +kernel
theorem dX6_put_2 : decode cX6_put 2 = .ok (.putfield 56, 3) := by decide +kernel
theorem dX6_put_5 : decode cX6_put 5 = .ok (.iload_n 1, 1) := by decide +kernel
theorem dX6_put_6 : decode cX6_put 6 = .ok (.invokestatic 60, 3) := by decide +kernel
theorem dX6_put_9 : decode cX6_put 9 = .ok (.ifCond .ne 5, 3) := by decide +kernel
theorem dX6_put_12 : decode cX6_put 12 = .ok (.iconst (-1), 1) := by decide +kernel
theorem dX6_put_13 : decode cX6_put 13 = .ok (.ireturn, 1) := by decide +kernel
theorem dX6_put_14 : decode cX6_put 14 = .ok (.aload_n 0, 1) := by decide +kernel
theorem dX6_put_15 : decode cX6_put 15 = .ok (.getfield 13, 3) := by decide +kernel
theorem dX6_put_18 : decode cX6_put 18 = .ok (.iload_n 1, 1) := by decide +kernel
theorem dX6_put_19 : decode cX6_put 19 = .ok (.aaload, 1) := by decide +kernel
theorem dX6_put_20 : decode cX6_put 20 = .ok (.astore 4, 2) := by decide +kernel
theorem dX6_put_22 : decode cX6_put 22 = .ok (.aload 4, 2) := by decide +kernel
theorem dX6_put_24 : decode cX6_put 24 = .ok (.getfield 227, 3) := by decide +kernel
theorem dX6_put_27 : decode cX6_put 27 = .ok (.ifCond .ne 9, 3) := by decide +kernel
theorem dX6_put_30 : decode cX6_put 30 = .ok (.aload_n 0, 1) := by decide +kernel
theorem dX6_put_31 : decode cX6_put 31 = .ok (.iconst 1, 1) := by decide +kernel
theorem dX6_put_32 : decode cX6_put 32 = .ok (.invokevirtual 72, 3) := by decide +kernel
theorem dX6_put_35 : decode cX6_put 35 = .ok (.ireturn, 1) := by decide +kernel
theorem dX6_put_36 : decode cX6_put 36 = .ok (.aload 4, 2) := by decide +kernel
theorem dX6_put_38 : decode cX6_put 38 = .ok (.iload_n 2, 1) := by decide +kernel
theorem dX6_put_39 : decode cX6_put 39 = .ok (.iconst 1, 1) := by decide +kernel
theorem dX6_put_40 : decode cX6_put 40 = .ok (.invokevirtual 231, 3) := by decide +kernel
theorem dX6_put_43 : decode cX6_put 43 = .ok (.ifCond .ne 9, 3) := by decide +kernel
theorem dX6_put_46 : decode cX6_put 46 = .ok (.aload_n 0, 1) := by decide +kernel
theorem dX6_put_47 : decode cX6_put 47 = .ok (.iconst 3, 1) := by decide +kernel
theorem dX6_put_48 : decode cX6_put 48 = .ok (.invokevirtual 72, 3) := by decide +kernel
theorem dX6_put_51 : decode cX6_put 51 = .ok (.ireturn, 1) := by decide +kernel
theorem dX6_put_52 : decode cX6_put 52 = .ok (.aload 4, 2) := by decide +kernel
theorem dX6_put_54 : decode cX6_put 54 = .ok (.getfield 76, 3) := by decide +kernel
theorem dX6_put_57 : decode cX6_put 57 = .ok (.iload_n 2, 1) := by decide +kernel
theorem dX6_put_58 : decode cX6_put 58 = .ok (.aload 4, 2) := by decide +kernel
theorem dX6_put_60 : decode cX6_put 60 = .ok (.iload_n 3, 1) := by decide +kernel
theorem dX6_put_61 : decode cX6_put 61 = .ok (.invokevirtual 234, 3) := by decide +kernel
theorem dX6_put_64 : decode cX6_put 64 = .ok (.iastore, 1) := by decide +kernel
theorem dX6_put_65 : decode cX6_put 65 = .ok (.iconst 1, 1) := by decide +kernel
theorem dX6_put_66 : decode cX6_put 66 = .ok (.ireturn, 1) := by decide +kernel
theorem dX6_cell_0 : decode cX6_cell 0 = .ok (.aload_n 0, 1) := by decide +kernel
theorem dX6_cell_1 : decode cX6_cell 1 = .ok (.iconst 0, 1) := by decide +kernel
theorem dX6_cell_2 : decode cX6_cell 2 = .ok (.putfield 56, 3) := by decide +kernel
theorem dX6_cell_5 : decode cX6_cell 5 = .ok (.iload_n 1, 1) := by decide +kernel
theorem dX6_cell_6 : decode cX6_cell 6 = .ok (.invokestatic 60, 3) := by decide +kernel
theorem dX6_cell_9 : decode cX6_cell 9 = .ok (.ifCond .eq 11, 3) := by decide +kernel
theorem dX6_cell_12 : decode cX6_cell 12 = .ok (.iload_n 3, 1) := by decide +kernel
theorem dX6_cell_13 : decode cX6_cell 13 = .ok (.iconst 3, 1) := by decide +kernel
theorem dX6_cell_14 : decode cX6_cell 14 = .ok (.invokestatic 64, 3) := by decide +kernel
theorem dX6_cell_17 : decode cX6_cell 17 = .ok (.ifCond .ne 7, 3) := by decide +kernel
theorem dX6_cell_20 : decode cX6_cell 20 = .ok (.ldc2_w 194, 3) := by decide +kernel
theorem dX6_cell_23 : decode cX6_cell 23 = .ok (.lreturn, 1) := by decide +kernel
theorem dX6_cell_24 : decode cX6_cell 24 = .ok (.aload_n 0, 1) := by decide +kernel
theorem dX6_cell_25 : decode cX6_cell 25 = .ok (.aload_n 0, 1) := by decide +kernel
theorem dX6_cell_26 : decode cX6_cell 26 = .ok (.getfield 13, 3) := by decide +kernel
theorem dX6_cell_29 : decode cX6_cell 29 = .ok (.iload_n 1, 1) := by decide +kernel
theorem dX6_cell_30 : decode cX6_cell 30 = .ok (.aaload, 1) := by decide +kernel
theorem dX6_cell_31 : decode cX6_cell 31 = .ok (.iload_n 3, 1) := by decide +kernel
theorem dX6_cell_32 : decode cX6_cell 32 = .ok (.iload_n 2, 1) := by decide +kernel
theorem dX6_cell_33 : decode cX6_cell 33 = .ok (.iconst 1, 1) := by decide +kernel
theorem dX6_cell_34 : decode cX6_cell 34 = .ok (.invokevirtual 68, 3) := by decide +kernel
theorem dX6_cell_37 : decode cX6_cell 37 = .ok (.putfield 56, 3) := by decide +kernel
theorem dX6_cell_40 : decode cX6_cell 40 = .ok (.aload_n 0, 1) := by decide +kernel
theorem dX6_cell_41 : decode cX6_cell 41 = .ok (.getfield 56, 3) := by decide +kernel
theorem dX6_cell_44 : decode cX6_cell 44 = .ok (.ifCond .ne 18, 3) := by decide +kernel
theorem dX6_cell_47 : decode cX6_cell 47 = .ok (.aload_n 0, 1) := by decide +kernel
theorem dX6_cell_48 : decode cX6_cell 48 = .ok (.getfield 13, 3) := by decide +kernel
theorem dX6_cell_51 : decode cX6_cell 51 = .ok (.iload_n 1, 1) := by decide +kernel
theorem dX6_cell_52 : decode cX6_cell 52 = .ok (.aaload, 1) := by decide +kernel
theorem dX6_cell_53 : decode cX6_cell 53 = .ok (.getfield 76, 3) := by decide +kernel
theorem dX6_cell_56 : decode cX6_cell 56 = .ok (.iload_n 2, 1) := by decide +kernel
theorem dX6_cell_57 : decode cX6_cell 57 = .ok (.iaload, 1) := by decide +kernel
theorem dX6_cell_58 : decode cX6_cell 58 = .ok (.i2l, 1) := by decide +kernel
theorem dX6_cell_59 : decode cX6_cell 59 = .ok (.goto 6, 3) := by decide +kernel
theorem dX6_cell_62 : decode cX6_cell 62 = .ok (.ldc2_w 194, 3) := by decide +kernel
theorem dX6_cell_65 : decode cX6_cell 65 = .ok (.lreturn, 1) := by decide +kernel
theorem dX6_copy_0 : decode cX6_copy 0 = .ok (.aload_n 0, 1) := by decide +kernel
theorem dX6_copy_1 : decode cX6_copy 1 = .ok (.iconst 0, 1) := by decide +kernel
theorem dX6_copy_2 : decode cX6_copy 2 = .ok (.putfield 56, 3) := by decide +kernel
theorem dX6_copy_5 : decode cX6_copy 5 = .ok (.iload_n 1, 1) := by decide +kernel
theorem dX6_copy_6 : decode cX6_copy 6 = .ok (.invokestatic 60, 3) := by decide +kernel
theorem dX6_copy_9 : decode cX6_copy 9 = .ok (.ifCond .eq 10, 3) := by decide +kernel
theorem dX6_copy_12 : decode cX6_copy 12 = .ok (.iload_n 3, 1) := by decide +kernel
theorem dX6_copy_13 : decode cX6_copy 13 = .ok (.invokestatic 60, 3) := by decide +kernel
theorem dX6_copy_16 : decode cX6_copy 16 = .ok (.ifCond .ne 5, 3) := by decide +kernel
theorem dX6_copy_19 : decode cX6_copy 19 = .ok (.iconst (-1), 1) := by decide +kernel
theorem dX6_copy_20 : decode cX6_copy 20 = .ok (.ireturn, 1) := by decide +kernel
theorem dX6_copy_21 : decode cX6_copy 21 = .ok (.aload_n 0, 1) := by decide +kernel
theorem dX6_copy_22 : decode cX6_copy 22 = .ok (.getfield 13, 3) := by decide +kernel
theorem dX6_copy_25 : decode cX6_copy 25 = .ok (.iload_n 1, 1) := by decide +kernel
theorem dX6_copy_26 : decode cX6_copy 26 = .ok (.aaload, 1) := by decide +kernel
theorem dX6_copy_27 : decode cX6_copy 27 = .ok (.astore 6, 2) := by decide +kernel
theorem dX6_copy_29 : decode cX6_copy 29 = .ok (.aload_n 0, 1) := by decide +kernel
theorem dX6_copy_30 : decode cX6_copy 30 = .ok (.getfield 13, 3) := by decide +kernel
theorem dX6_copy_33 : decode cX6_copy 33 = .ok (.iload_n 3, 1) := by decide +kernel
theorem dX6_copy_34 : decode cX6_copy 34 = .ok (.aaload, 1) := by decide +kernel
theorem dX6_copy_35 : decode cX6_copy 35 = .ok (.astore 7, 2) := by decide +kernel
theorem dX6_copy_37 : decode cX6_copy 37 = .ok (.aload 6, 2) := by decide +kernel
theorem dX6_copy_39 : decode cX6_copy 39 = .ok (.getfield 227, 3) := by decide +kernel
theorem dX6_copy_42 : decode cX6_copy 42 = .ok (.ifCond .eq 11, 3) := by decide +kernel
theorem dX6_copy_45 : decode cX6_copy 45 = .ok (.aload 7, 2) := by decide +kernel
theorem dX6_copy_47 : decode cX6_copy 47 = .ok (.getfield 227, 3) := by decide +kernel
theorem dX6_copy_50 : decode cX6_copy 50 = .ok (.ifCond .ne 9, 3) := by decide +kernel
theorem dX6_copy_53 : decode cX6_copy 53 = .ok (.aload_n 0, 1) := by decide +kernel
theorem dX6_copy_54 : decode cX6_copy 54 = .ok (.iconst 1, 1) := by decide +kernel
theorem dX6_copy_55 : decode cX6_copy 55 = .ok (.invokevirtual 72, 3) := by decide +kernel
theorem dX6_copy_58 : decode cX6_copy 58 = .ok (.ireturn, 1) := by decide +kernel
theorem dX6_copy_59 : decode cX6_copy 59 = .ok (.aload 6, 2) := by decide +kernel
theorem dX6_copy_61 : decode cX6_copy 61 = .ok (.getfield 237, 3) := by decide +kernel
theorem dX6_copy_64 : decode cX6_copy 64 = .ok (.aload 7, 2) := by decide +kernel
theorem dX6_copy_66 : decode cX6_copy 66 = .ok (.getfield 237, 3) := by decide +kernel
theorem dX6_copy_69 : decode cX6_copy 69 = .ok (.if_icmp .eq 9, 3) := by decide +kernel
theorem dX6_copy_72 : decode cX6_copy 72 = .ok (.aload_n 0, 1) := by decide +kernel
theorem dX6_copy_73 : decode cX6_copy 73 = .ok (.iconst 2, 1) := by decide +kernel
theorem dX6_copy_74 : decode cX6_copy 74 = .ok (.invokevirtual 72, 3) := by decide +kernel
theorem dX6_copy_77 : decode cX6_copy 77 = .ok (.ireturn, 1) := by decide +kernel
theorem dX6_copy_78 : decode cX6_copy 78 = .ok (.aload 6, 2) := by decide +kernel
theorem dX6_copy_80 : decode cX6_copy 80 = .ok (.iload_n 2, 1) := by decide +kernel
theorem dX6_copy_81 : decode cX6_copy 81 = .ok (.iload 5, 2) := by decide +kernel
theorem dX6_copy_83 : decode cX6_copy 83 = .ok (.invokevirtual 231, 3) := by decide +kernel
theorem dX6_copy_86 : decode cX6_copy 86 = .ok (.ifCond .eq 15, 3) := by decide +kernel
theorem dX6_copy_89 : decode cX6_copy 89 = .ok (.aload 7, 2) := by decide +kernel
theorem dX6_copy_91 : decode cX6_copy 91 = .ok (.iload 4, 2) := by decide +kernel
theorem dX6_copy_93 : decode cX6_copy 93 = .ok (.iload 5, 2) := by decide +kernel
theorem dX6_copy_95 : decode cX6_copy 95 = .ok (.invokevirtual 231, 3) := by decide +kernel
theorem dX6_copy_98 : decode cX6_copy 98 = .ok (.ifCond .ne 9, 3) := by decide +kernel
theorem dX6_copy_101 : decode cX6_copy 101 = .ok (.aload_n 0, 1) := by decide +kernel
theorem dX6_copy_102 : decode cX6_copy 102 = .ok (.iconst 3, 1) := by decide +kernel
theorem dX6_copy_103 : decode cX6_copy 103 = .ok (.invokevirtual 72, 3) := by decide +kernel
theorem dX6_copy_106 : decode cX6_copy 106 = .ok (.ireturn, 1) := by decide +kernel
theorem dX6_copy_107 : decode cX6_copy 107 = .ok (.aload 6, 2) := by decide +kernel
theorem dX6_copy_109 : decode cX6_copy 109 = .ok (.getfield 76, 3) := by decide +kernel
theorem dX6_copy_112 : decode cX6_copy 112 = .ok (.iload_n 2, 1) := by decide +kernel
theorem dX6_copy_113 : decode cX6_copy 113 = .ok (.aload 7, 2) := by decide +kernel
theorem dX6_copy_115 : decode cX6_copy 115 = .ok (.getfield 76, 3) := by decide +kernel
theorem dX6_copy_118 : decode cX6_copy 118 = .ok (.iload 4, 2) := by decide +kernel
theorem dX6_copy_120 : decode cX6_copy 120 = .ok (.iload 5, 2) := by decide +kernel
theorem dX6_copy_122 : decode cX6_copy 122 = .ok (.invokestatic 240, 3) := by decide +kernel
theorem dX6_copy_125 : decode cX6_copy 125 = .ok (.iload 5, 2) := by decide +kernel
theorem dX6_copy_127 : decode cX6_copy 127 = .ok (.ireturn, 1) := by decide +kernel
theorem dX6_tell_0 : decode cX6_tell 0 = .ok (.iload_n 1, 1) := by decide +kernel
theorem dX6_tell_1 : decode cX6_tell 1 = .ok (.aload_n 0, 1) := by decide +kernel
theorem dX6_tell_2 : decode cX6_tell 2 = .ok (.getfield 48, 3) := by decide +kernel
theorem dX6_tell_5 : decode cX6_tell 5 = .ok (.getfield 91, 3) := by decide +kernel
theorem dX6_tell_8 : decode cX6_tell 8 = .ok (.invokestatic 64, 3) := by decide +kernel
theorem dX6_tell_11 : decode cX6_tell 11 = .ok (.ifCond .ne 5, 3) := by decide +kernel
theorem dX6_tell_14 : decode cX6_tell 14 = .ok (.iconst (-1), 1) := by decide +kernel
theorem dX6_tell_15 : decode cX6_tell 15 = .ok (.ireturn, 1) := by decide +kernel
theorem dX6_tell_16 : decode cX6_tell 16 = .ok (.aload_n 0, 1) := by decide +kernel
theorem dX6_tell_17 : decode cX6_tell 17 = .ok (.getfield 48, 3) := by decide +kernel
theorem dX6_tell_20 : decode cX6_tell 20 = .ok (.getfield 94, 3) := by decide +kernel
theorem dX6_tell_23 : decode cX6_tell 23 = .ok (.iload_n 1, 1) := by decide +kernel
theorem dX6_tell_24 : decode cX6_tell 24 = .ok (.iaload, 1) := by decide +kernel
theorem dX6_tell_25 : decode cX6_tell 25 = .ok (.lookupswitch 39 #[(1, 33), (2, 27)], 27) := by decide +kernel
theorem dX6_tell_52 : decode cX6_tell 52 = .ok (.aload_n 0, 1) := by decide +kernel
theorem dX6_tell_53 : decode cX6_tell 53 = .ok (.iload_n 1, 1) := by decide +kernel
theorem dX6_tell_54 : decode cX6_tell 54 = .ok (.invokevirtual 246, 3) := by decide +kernel
theorem dX6_tell_57 : decode cX6_tell 57 = .ok (.ireturn, 1) := by decide +kernel
theorem dX6_tell_58 : decode cX6_tell 58 = .ok (.aload_n 0, 1) := by decide +kernel
theorem dX6_tell_59 : decode cX6_tell 59 = .ok (.iload_n 1, 1) := by decide +kernel
theorem dX6_tell_60 : decode cX6_tell 60 = .ok (.invokevirtual 249, 3) := by decide +kernel
theorem dX6_tell_63 : decode cX6_tell 63 = .ok (.ireturn, 1) := by decide +kernel
theorem dX6_tell_64 : decode cX6_tell 64 = .ok (.aload_n 0, 1) := by decide +kernel
theorem dX6_tell_65 : decode cX6_tell 65 = .ok (.iload_n 1, 1) := by decide +kernel
theorem dX6_tell_66 : decode cX6_tell 66 = .ok (.invokevirtual 252, 3) := by decide +kernel
theorem dX6_tell_69 : decode cX6_tell 69 = .ok (.ireturn, 1) := by decide +kernel
theorem dX6_guestTells_0 : decode cX6_guestTells 0 = .ok (.aload_n 0, 1) := by decide +kernel
theorem dX6_guestTells_1 : decode cX6_guestTells 1 = .ok (.iconst 1, 1) := by decide +kernel
theorem dX6_guestTells_2 : decode cX6_guestTells 2 = .ok (.invokevirtual 255, 3) := by decide +kernel
theorem dX6_guestTells_5 : decode cX6_guestTells 5 = .ok (.aload_n 0, 1) := by decide +kernel
theorem dX6_guestTells_6 : decode cX6_guestTells 6 = .ok (.getfield 48, 3) := by decide +kernel
theorem dX6_guestTells_9 : decode cX6_guestTells 9 = .ok (.getfield 97, 3) := by decide +kernel
theorem dX6_guestTells_12 : decode cX6_guestTells 12 = .ok (.iload_n 1, 1) := by decide +kernel
theorem dX6_guestTells_13 : decode cX6_guestTells 13 = .ok (.iaload, 1) := by decide +kernel
theorem dX6_guestTells_14 : decode cX6_guestTells 14 = .ok (.ireturn, 1) := by decide +kernel
theorem dX6_auntTells_0 : decode cX6_auntTells 0 = .ok (.aload_n 0, 1) := by decide +kernel
theorem dX6_auntTells_1 : decode cX6_auntTells 1 = .ok (.iconst 2, 1) := by decide +kernel
theorem dX6_auntTells_2 : decode cX6_auntTells 2 = .ok (.invokevirtual 255, 3) := by decide +kernel
theorem dX6_auntTells_5 : decode cX6_auntTells 5 = .ok (.aload_n 0, 1) := by decide +kernel
theorem dX6_auntTells_6 : decode cX6_auntTells 6 = .ok (.iload_n 1, 1) := by decide +kernel
theorem dX6_auntTells_7 : decode cX6_auntTells 7 = .ok (.invokevirtual 252, 3) := by decide +kernel
theorem dX6_auntTells_10 : decode cX6_auntTells 10 = .ok (.bipush 100, 2) := by decide +kernel
theorem dX6_auntTells_12 : decode cX6_auntTells 12 = .ok (.iadd, 1) := by decide +kernel
theorem dX6_auntTells_13 : decode cX6_auntTells 13 = .ok (.ireturn, 1) := by decide +kernel
theorem dX6_childTells_0 : decode cX6_childTells 0 = .ok (.aload_n 0, 1) := by decide +kernel
theorem dX6_childTells_1 : decode cX6_childTells 1 = .ok (.iconst 3, 1) := by decide +kernel
theorem dX6_childTells_2 : decode cX6_childTells 2 = .ok (.invokevirtual 255, 3) := by decide +kernel
theorem dX6_childTells_5 : decode cX6_childTells 5 = .ok (.aload_n 0, 1) := by decide +kernel
theorem dX6_childTells_6 : decode cX6_childTells 6 = .ok (.iload_n 1, 1) := by decide +kernel
theorem dX6_childTells_7 : decode cX6_childTells 7 = .ok (.invokevirtual 249, 3) := by decide +kernel
theorem dX6_childTells_10 : decode cX6_childTells 10 = .ok (.aload_n 0, 1) := by decide +kernel
theorem dX6_childTells_11 : decode cX6_childTells 11 = .ok (.iload_n 1, 1) := by decide +kernel
theorem dX6_childTells_12 : decode cX6_childTells 12 = .ok (.invokevirtual 252, 3) := by decide +kernel
theorem dX6_childTells_15 : decode cX6_childTells 15 = .ok (.iadd, 1) := by decide +kernel
theorem dX6_childTells_16 : decode cX6_childTells 16 = .ok (.ireturn, 1) := by decide +kernel
theorem dX6_toast_0 : decode cX6_toast 0 = .ok (.iload_n 1, 1) := by decide +kernel
theorem dX6_toast_1 : decode cX6_toast 1 = .ok (.aload_n 0, 1) := by decide +kernel
theorem dX6_toast_2 : decode cX6_toast 2 = .ok (.getfield 48, 3) := by decide +kernel
theorem dX6_toast_5 : decode cX6_toast 5 = .ok (.getfield 91, 3) := by decide +kernel
theorem dX6_toast_8 : decode cX6_toast 8 = .ok (.invokestatic 64, 3) := by decide +kernel
theorem dX6_toast_11 : decode cX6_toast 11 = .ok (.ifCond .ne 5, 3) := by decide +kernel
theorem dX6_toast_14 : decode cX6_toast 14 = .ok (.iconst (-1), 1) := by decide +kernel
theorem dX6_toast_15 : decode cX6_toast 15 = .ok (.ireturn, 1) := by decide +kernel
theorem dX6_toast_16 : decode cX6_toast 16 = .ok (.aload_n 0, 1) := by decide +kernel
theorem dX6_toast_17 : decode cX6_toast 17 = .ok (.getfield 48, 3) := by decide +kernel
theorem dX6_toast_20 : decode cX6_toast 20 = .ok (.getfield 94, 3) := by decide +kernel
theorem dX6_toast_23 : decode cX6_toast 23 = .ok (.iload_n 1, 1) := by decide +kernel
theorem dX6_toast_24 : decode cX6_toast 24 = .ok (.iaload, 1) := by decide +kernel
theorem dX6_toast_25 : decode cX6_toast 25 = .ok (.iconst 2, 1) := by decide +kernel
theorem dX6_toast_26 : decode cX6_toast 26 = .ok (.if_icmp .ne 11, 3) := by decide +kernel
theorem dX6_toast_29 : decode cX6_toast 29 = .ok (.aload_n 0, 1) := by decide +kernel
theorem dX6_toast_30 : decode cX6_toast 30 = .ok (.iconst 5, 1) := by decide +kernel
theorem dX6_toast_31 : decode cX6_toast 31 = .ok (.invokevirtual 255, 3) := by decide +kernel
theorem dX6_toast_34 : decode cX6_toast 34 = .ok (.bipush 20, 2) := by decide +kernel
theorem dX6_toast_36 : decode cX6_toast 36 = .ok (.ireturn, 1) := by decide +kernel
theorem dX6_toast_37 : decode cX6_toast 37 = .ok (.aload_n 0, 1) := by decide +kernel
theorem dX6_toast_38 : decode cX6_toast 38 = .ok (.iconst 4, 1) := by decide +kernel
theorem dX6_toast_39 : decode cX6_toast 39 = .ok (.invokevirtual 255, 3) := by decide +kernel
theorem dX6_toast_42 : decode cX6_toast 42 = .ok (.iload_n 1, 1) := by decide +kernel
theorem dX6_toast_43 : decode cX6_toast 43 = .ok (.ireturn, 1) := by decide +kernel
theorem dX6_leave_0 : decode cX6_leave 0 = .ok (.aload_n 0, 1) := by decide +kernel
theorem dX6_leave_1 : decode cX6_leave 1 = .ok (.bipush 31, 2) := by decide +kernel
theorem dX6_leave_3 : decode cX6_leave 3 = .ok (.aload_n 0, 1) := by decide +kernel
theorem dX6_leave_4 : decode cX6_leave 4 = .ok (.getfield 259, 3) := by decide +kernel
theorem dX6_leave_7 : decode cX6_leave 7 = .ok (.imul, 1) := by decide +kernel
theorem dX6_leave_8 : decode cX6_leave 8 = .ok (.iload_n 1, 1) := by decide +kernel
theorem dX6_leave_9 : decode cX6_leave 9 = .ok (.iadd, 1) := by decide +kernel
theorem dX6_leave_10 : decode cX6_leave 10 = .ok (.putfield 259, 3) := by decide +kernel
theorem dX6_leave_13 : decode cX6_leave 13 = .ok (.return_, 1) := by decide +kernel
theorem dX6_as_0 : decode cX6_as 0 = .ok (.aload_n 0, 1) := by decide +kernel
theorem dX6_as_1 : decode cX6_as 1 = .ok (.iconst 0, 1) := by decide +kernel
theorem dX6_as_2 : decode cX6_as 2 = .ok (.putfield 56, 3) := by decide +kernel
theorem dX6_as_5 : decode cX6_as 5 = .ok (.iload_n 1, 1) := by decide +kernel
theorem dX6_as_6 : decode cX6_as 6 = .ok (.aload_n 0, 1) := by decide +kernel
theorem dX6_as_7 : decode cX6_as 7 = .ok (.getfield 48, 3) := by decide +kernel
theorem dX6_as_10 : decode cX6_as 10 = .ok (.getfield 91, 3) := by decide +kernel
theorem dX6_as_13 : decode cX6_as 13 = .ok (.invokestatic 64, 3) := by decide +kernel
theorem dX6_as_16 : decode cX6_as 16 = .ok (.ifCond .ne 5, 3) := by decide +kernel
theorem dX6_as_19 : decode cX6_as 19 = .ok (.iconst (-1), 1) := by decide +kernel
theorem dX6_as_20 : decode cX6_as 20 = .ok (.ireturn, 1) := by decide +kernel
theorem dX6_as_21 : decode cX6_as 21 = .ok (.iload_n 2, 1) := by decide +kernel
theorem dX6_as_22 : decode cX6_as 22 = .ok (.iconst 3, 1) := by decide +kernel
theorem dX6_as_23 : decode cX6_as 23 = .ok (.invokestatic 64, 3) := by decide +kernel
theorem dX6_as_26 : decode cX6_as 26 = .ok (.ifCond .ne 6, 3) := by decide +kernel
theorem dX6_as_29 : decode cX6_as 29 = .ok (.bipush (-2), 2) := by decide +kernel
theorem dX6_as_31 : decode cX6_as 31 = .ok (.ireturn, 1) := by decide +kernel
theorem dX6_as_32 : decode cX6_as 32 = .ok (.aload_n 0, 1) := by decide +kernel
theorem dX6_as_33 : decode cX6_as 33 = .ok (.getfield 48, 3) := by decide +kernel
theorem dX6_as_36 : decode cX6_as 36 = .ok (.getfield 94, 3) := by decide +kernel
theorem dX6_as_39 : decode cX6_as 39 = .ok (.iload_n 1, 1) := by decide +kernel
theorem dX6_as_40 : decode cX6_as 40 = .ok (.iaload, 1) := by decide +kernel
theorem dX6_as_41 : decode cX6_as 41 = .ok (.iload_n 2, 1) := by decide +kernel
theorem dX6_as_42 : decode cX6_as 42 = .ok (.if_icmp .lt 7, 3) := by decide +kernel
theorem dX6_as_45 : decode cX6_as 45 = .ok (.iconst 1, 1) := by decide +kernel
theorem dX6_as_46 : decode cX6_as 46 = .ok (.goto 8, 3) := by decide +kernel
theorem dX6_as_49 : decode cX6_as 49 = .ok (.aload_n 0, 1) := by decide +kernel
theorem dX6_as_50 : decode cX6_as 50 = .ok (.iconst 2, 1) := by decide +kernel
theorem dX6_as_51 : decode cX6_as 51 = .ok (.invokevirtual 72, 3) := by decide +kernel
theorem dX6_as_54 : decode cX6_as 54 = .ok (.ireturn, 1) := by decide +kernel
theorem dX6_trace_0 : decode cX6_trace 0 = .ok (.aload_n 0, 1) := by decide +kernel
theorem dX6_trace_1 : decode cX6_trace 1 = .ok (.getfield 259, 3) := by decide +kernel
theorem dX6_trace_4 : decode cX6_trace 4 = .ok (.ireturn, 1) := by decide +kernel
theorem dX6_fault_0 : decode cX6_fault 0 = .ok (.aload_n 0, 1) := by decide +kernel
theorem dX6_fault_1 : decode cX6_fault 1 = .ok (.getfield 56, 3) := by decide +kernel
theorem dX6_fault_4 : decode cX6_fault 4 = .ok (.ireturn, 1) := by decide +kernel
theorem dX6_many_0 : decode cX6_many 0 = .ok (.iload_n 1, 1) := by decide +kernel
theorem dX6_many_1 : decode cX6_many 1 = .ok (.tableswitch 93 0 5 #[39, 47, 55, 63, 74, 85], 39) := by decide +kernel
theorem dX6_many_40 : decode cX6_many 40 = .ok (.aload_n 0, 1) := by decide +kernel
theorem dX6_many_41 : decode cX6_many 41 = .ok (.getfield 48, 3) := by decide +kernel
theorem dX6_many_44 : decode cX6_many 44 = .ok (.getfield 91, 3) := by decide +kernel
theorem dX6_many_47 : decode cX6_many 47 = .ok (.ireturn, 1) := by decide +kernel
theorem dX6_many_48 : decode cX6_many 48 = .ok (.aload_n 0, 1) := by decide +kernel
theorem dX6_many_49 : decode cX6_many 49 = .ok (.getfield 48, 3) := by decide +kernel
theorem dX6_many_52 : decode cX6_many 52 = .ok (.getfield 106, 3) := by decide +kernel
theorem dX6_many_55 : decode cX6_many 55 = .ok (.ireturn, 1) := by decide +kernel
theorem dX6_many_56 : decode cX6_many 56 = .ok (.aload_n 0, 1) := by decide +kernel
theorem dX6_many_57 : decode cX6_many 57 = .ok (.getfield 48, 3) := by decide +kernel
theorem dX6_many_60 : decode cX6_many 60 = .ok (.getfield 132, 3) := by decide +kernel
theorem dX6_many_63 : decode cX6_many 63 = .ok (.ireturn, 1) := by decide +kernel
theorem dX6_many_64 : decode cX6_many 64 = .ok (.aload_n 0, 1) := by decide +kernel
theorem dX6_many_65 : decode cX6_many 65 = .ok (.getfield 48, 3) := by decide +kernel
theorem dX6_many_68 : decode cX6_many 68 = .ok (.getfield 115, 3) := by decide +kernel
theorem dX6_many_71 : decode cX6_many 71 = .ok (.invokestatic 161, 3) := by decide +kernel
theorem dX6_many_74 : decode cX6_many 74 = .ok (.ireturn, 1) := by decide +kernel
theorem dX6_many_75 : decode cX6_many 75 = .ok (.aload_n 0, 1) := by decide +kernel
theorem dX6_many_76 : decode cX6_many 76 = .ok (.getfield 48, 3) := by decide +kernel
theorem dX6_many_79 : decode cX6_many 79 = .ok (.getfield 115, 3) := by decide +kernel
theorem dX6_many_82 : decode cX6_many 82 = .ok (.invokestatic 164, 3) := by decide +kernel
theorem dX6_many_85 : decode cX6_many 85 = .ok (.ireturn, 1) := by decide +kernel
theorem dX6_many_86 : decode cX6_many 86 = .ok (.aload_n 0, 1) := by decide +kernel
theorem dX6_many_87 : decode cX6_many 87 = .ok (.getfield 48, 3) := by decide +kernel
theorem dX6_many_90 : decode cX6_many 90 = .ok (.getfield 204, 3) := by decide +kernel
theorem dX6_many_93 : decode cX6_many 93 = .ok (.ireturn, 1) := by decide +kernel
theorem dX6_many_94 : decode cX6_many 94 = .ok (.bipush (-2), 2) := by decide +kernel
theorem dX6_many_96 : decode cX6_many 96 = .ok (.ireturn, 1) := by decide +kernel
theorem dX6_broken_0 : decode cX6_broken 0 = .ok (.aload_n 0, 1) := by decide +kernel
theorem dX6_broken_1 : decode cX6_broken 1 = .ok (.iload_n 1, 1) := by decide +kernel
theorem dX6_broken_2 : decode cX6_broken 2 = .ok (.putfield 56, 3) := by decide +kernel
theorem dX6_broken_5 : decode cX6_broken 5 = .ok (.bipush (-10), 2) := by decide +kernel
theorem dX6_broken_7 : decode cX6_broken 7 = .ok (.iload_n 1, 1) := by decide +kernel
theorem dX6_broken_8 : decode cX6_broken 8 = .ok (.isub, 1) := by decide +kernel
theorem dX6_broken_9 : decode cX6_broken 9 = .ok (.ireturn, 1) := by decide +kernel
theorem dX6_isSheet_0 : decode cX6_isSheet 0 = .ok (.iload_n 0, 1) := by decide +kernel
theorem dX6_isSheet_1 : decode cX6_isSheet 1 = .ok (.iconst 4, 1) := by decide +kernel
theorem dX6_isSheet_2 : decode cX6_isSheet 2 = .ok (.invokestatic 64, 3) := by decide +kernel
theorem dX6_isSheet_5 : decode cX6_isSheet 5 = .ok (.ireturn, 1) := by decide +kernel
theorem dX6_isBelow_0 : decode cX6_isBelow 0 = .ok (.iload_n 0, 1) := by decide +kernel
theorem dX6_isBelow_1 : decode cX6_isBelow 1 = .ok (.ifCond .lt 12, 3) := by decide +kernel
theorem dX6_isBelow_4 : decode cX6_isBelow 4 = .ok (.iload_n 0, 1) := by decide +kernel
theorem dX6_isBelow_5 : decode cX6_isBelow 5 = .ok (.iload_n 1, 1) := by decide +kernel
theorem dX6_isBelow_6 : decode cX6_isBelow 6 = .ok (.if_icmp .ge 7, 3) := by decide +kernel
theorem dX6_isBelow_9 : decode cX6_isBelow 9 = .ok (.iconst 1, 1) := by decide +kernel
theorem dX6_isBelow_10 : decode cX6_isBelow 10 = .ok (.goto 4, 3) := by decide +kernel
theorem dX6_isBelow_13 : decode cX6_isBelow 13 = .ok (.iconst 0, 1) := by decide +kernel
theorem dX6_isBelow_14 : decode cX6_isBelow 14 = .ok (.ireturn, 1) := by decide +kernel
theorem dX6_borderOf_0 : decode cX6_borderOf 0 = .ok (.iload_n 0, 1) := by decide +kernel
theorem dX6_borderOf_1 : decode cX6_borderOf 1 = .ok (.bipush 8, 2) := by decide +kernel
theorem dX6_borderOf_3 : decode cX6_borderOf 3 = .ok (.imul, 1) := by decide +kernel
theorem dX6_borderOf_4 : decode cX6_borderOf 4 = .ok (.iload_n 1, 1) := by decide +kernel
theorem dX6_borderOf_5 : decode cX6_borderOf 5 = .ok (.iadd, 1) := by decide +kernel
theorem dX6_borderOf_6 : decode cX6_borderOf 6 = .ok (.ireturn, 1) := by decide +kernel
theorem dX6_saltOf_0 : decode cX6_saltOf 0 = .ok (.iload_n 0, 1) := by decide +kernel
theorem dX6_saltOf_1 : decode cX6_saltOf 1 = .ok (.bipush 8, 2) := by decide +kernel
theorem dX6_saltOf_3 : decode cX6_saltOf 3 = .ok (.idiv, 1) := by decide +kernel
theorem dX6_saltOf_4 : decode cX6_saltOf 4 = .ok (.ireturn, 1) := by decide +kernel
theorem dX6_pepperOf_0 : decode cX6_pepperOf 0 = .ok (.iload_n 0, 1) := by decide +kernel
theorem dX6_pepperOf_1 : decode cX6_pepperOf 1 = .ok (.bipush 8, 2) := by decide +kernel
theorem dX6_pepperOf_3 : decode cX6_pepperOf 3 = .ok (.irem, 1) := by decide +kernel
theorem dX6_pepperOf_4 : decode cX6_pepperOf 4 = .ok (.ireturn, 1) := by decide +kernel
theorem dX6_standsAt_0 : decode cX6_standsAt 0 = .ok (.iload_n 1, 1) := by decide +kernel
theorem dX6_standsAt_1 : decode cX6_standsAt 1 = .ok (.iconst 2, 1) := by decide +kernel
theorem dX6_standsAt_2 : decode cX6_standsAt 2 = .ok (.if_icmp .ge 10, 3) := by decide +kernel
theorem dX6_standsAt_5 : decode cX6_standsAt 5 = .ok (.iload_n 0, 1) := by decide +kernel
theorem dX6_standsAt_6 : decode cX6_standsAt 6 = .ok (.invokestatic 161, 3) := by decide +kernel
theorem dX6_standsAt_9 : decode cX6_standsAt 9 = .ok (.goto 7, 3) := by decide +kernel
theorem dX6_standsAt_12 : decode cX6_standsAt 12 = .ok (.iload_n 0, 1) := by decide +kernel
theorem dX6_standsAt_13 : decode cX6_standsAt 13 = .ok (.invokestatic 164, 3) := by decide +kernel
theorem dX6_standsAt_16 : decode cX6_standsAt 16 = .ok (.ireturn, 1) := by decide +kernel
theorem dJ6_bitCount_0f7a4_0 : decode cJ6_bitCount_0f7a4 0 = .ok (.iload_n 0, 1) := by decide +kernel
theorem dJ6_bitCount_0f7a4_1 : decode cJ6_bitCount_0f7a4 1 = .ok (.iload_n 0, 1) := by decide +kernel
theorem dJ6_bitCount_0f7a4_2 : decode cJ6_bitCount_0f7a4 2 = .ok (.iconst 1, 1) := by decide +kernel
theorem dJ6_bitCount_0f7a4_3 : decode cJ6_bitCount_0f7a4 3 = .ok (.iushr, 1) := by decide +kernel
theorem dJ6_bitCount_0f7a4_4 : decode cJ6_bitCount_0f7a4 4 = .ok (.ldc_w 265, 3) := by decide +kernel
theorem dJ6_bitCount_0f7a4_7 : decode cJ6_bitCount_0f7a4 7 = .ok (.iand, 1) := by decide +kernel
theorem dJ6_bitCount_0f7a4_8 : decode cJ6_bitCount_0f7a4 8 = .ok (.isub, 1) := by decide +kernel
theorem dJ6_bitCount_0f7a4_9 : decode cJ6_bitCount_0f7a4 9 = .ok (.istore_n 0, 1) := by decide +kernel
theorem dJ6_bitCount_0f7a4_10 : decode cJ6_bitCount_0f7a4 10 = .ok (.iload_n 0, 1) := by decide +kernel
theorem dJ6_bitCount_0f7a4_11 : decode cJ6_bitCount_0f7a4 11 = .ok (.ldc_w 266, 3) := by decide +kernel
theorem dJ6_bitCount_0f7a4_14 : decode cJ6_bitCount_0f7a4 14 = .ok (.iand, 1) := by decide +kernel
theorem dJ6_bitCount_0f7a4_15 : decode cJ6_bitCount_0f7a4 15 = .ok (.iload_n 0, 1) := by decide +kernel
theorem dJ6_bitCount_0f7a4_16 : decode cJ6_bitCount_0f7a4 16 = .ok (.iconst 2, 1) := by decide +kernel
theorem dJ6_bitCount_0f7a4_17 : decode cJ6_bitCount_0f7a4 17 = .ok (.iushr, 1) := by decide +kernel
theorem dJ6_bitCount_0f7a4_18 : decode cJ6_bitCount_0f7a4 18 = .ok (.ldc_w 266, 3) := by decide +kernel
theorem dJ6_bitCount_0f7a4_21 : decode cJ6_bitCount_0f7a4 21 = .ok (.iand, 1) := by decide +kernel
theorem dJ6_bitCount_0f7a4_22 : decode cJ6_bitCount_0f7a4 22 = .ok (.iadd, 1) := by decide +kernel
theorem dJ6_bitCount_0f7a4_23 : decode cJ6_bitCount_0f7a4 23 = .ok (.istore_n 0, 1) := by decide +kernel
theorem dJ6_bitCount_0f7a4_24 : decode cJ6_bitCount_0f7a4 24 = .ok (.iload_n 0, 1) := by decide +kernel
theorem dJ6_bitCount_0f7a4_25 : decode cJ6_bitCount_0f7a4 25 = .ok (.iload_n 0, 1) := by decide +kernel
theorem dJ6_bitCount_0f7a4_26 : decode cJ6_bitCount_0f7a4 26 = .ok (.iconst 4, 1) := by decide +kernel
theorem dJ6_bitCount_0f7a4_27 : decode cJ6_bitCount_0f7a4 27 = .ok (.iushr, 1) := by decide +kernel
theorem dJ6_bitCount_0f7a4_28 : decode cJ6_bitCount_0f7a4 28 = .ok (.iadd, 1) := by decide +kernel
theorem dJ6_bitCount_0f7a4_29 : decode cJ6_bitCount_0f7a4 29 = .ok (.ldc_w 267, 3) := by decide +kernel
theorem dJ6_bitCount_0f7a4_32 : decode cJ6_bitCount_0f7a4 32 = .ok (.iand, 1) := by decide +kernel
theorem dJ6_bitCount_0f7a4_33 : decode cJ6_bitCount_0f7a4 33 = .ok (.istore_n 0, 1) := by decide +kernel
theorem dJ6_bitCount_0f7a4_34 : decode cJ6_bitCount_0f7a4 34 = .ok (.iload_n 0, 1) := by decide +kernel
theorem dJ6_bitCount_0f7a4_35 : decode cJ6_bitCount_0f7a4 35 = .ok (.iload_n 0, 1) := by decide +kernel
theorem dJ6_bitCount_0f7a4_36 : decode cJ6_bitCount_0f7a4 36 = .ok (.bipush 8, 2) := by decide +kernel
theorem dJ6_bitCount_0f7a4_38 : decode cJ6_bitCount_0f7a4 38 = .ok (.iushr, 1) := by decide +kernel
theorem dJ6_bitCount_0f7a4_39 : decode cJ6_bitCount_0f7a4 39 = .ok (.iadd, 1) := by decide +kernel
theorem dJ6_bitCount_0f7a4_40 : decode cJ6_bitCount_0f7a4 40 = .ok (.istore_n 0, 1) := by decide +kernel
theorem dJ6_bitCount_0f7a4_41 : decode cJ6_bitCount_0f7a4 41 = .ok (.iload_n 0, 1) := by decide +kernel
theorem dJ6_bitCount_0f7a4_42 : decode cJ6_bitCount_0f7a4 42 = .ok (.iload_n 0, 1) := by decide +kernel
theorem dJ6_bitCount_0f7a4_43 : decode cJ6_bitCount_0f7a4 43 = .ok (.bipush 16, 2) := by decide +kernel
theorem dJ6_bitCount_0f7a4_45 : decode cJ6_bitCount_0f7a4 45 = .ok (.iushr, 1) := by decide +kernel
theorem dJ6_bitCount_0f7a4_46 : decode cJ6_bitCount_0f7a4 46 = .ok (.iadd, 1) := by decide +kernel
theorem dJ6_bitCount_0f7a4_47 : decode cJ6_bitCount_0f7a4 47 = .ok (.istore_n 0, 1) := by decide +kernel
theorem dJ6_bitCount_0f7a4_48 : decode cJ6_bitCount_0f7a4 48 = .ok (.iload_n 0, 1) := by decide +kernel
theorem dJ6_bitCount_0f7a4_49 : decode cJ6_bitCount_0f7a4 49 = .ok (.bipush 63, 2) := by decide +kernel
theorem dJ6_bitCount_0f7a4_51 : decode cJ6_bitCount_0f7a4 51 = .ok (.iand, 1) := by decide +kernel
theorem dJ6_bitCount_0f7a4_52 : decode cJ6_bitCount_0f7a4 52 = .ok (.ireturn, 1) := by decide +kernel
theorem dJ9_max_7cf53_0 : decode cJ9_max_7cf53 0 = .ok (.iload_n 0, 1) := by decide +kernel
theorem dJ9_max_7cf53_1 : decode cJ9_max_7cf53 1 = .ok (.iload_n 1, 1) := by decide +kernel
theorem dJ9_max_7cf53_2 : decode cJ9_max_7cf53 2 = .ok (.if_icmp .lt 7, 3) := by decide +kernel
theorem dJ9_max_7cf53_5 : decode cJ9_max_7cf53 5 = .ok (.iload_n 0, 1) := by decide +kernel
theorem dJ9_max_7cf53_6 : decode cJ9_max_7cf53 6 = .ok (.goto 4, 3) := by decide +kernel
theorem dJ9_max_7cf53_9 : decode cJ9_max_7cf53 9 = .ok (.iload_n 1, 1) := by decide +kernel
theorem dJ9_max_7cf53_10 : decode cJ9_max_7cf53 10 = .ok (.ireturn, 1) := by decide +kernel
theorem dJ9_min_7cf53_0 : decode cJ9_min_7cf53 0 = .ok (.iload_n 0, 1) := by decide +kernel
theorem dJ9_min_7cf53_1 : decode cJ9_min_7cf53 1 = .ok (.iload_n 1, 1) := by decide +kernel
theorem dJ9_min_7cf53_2 : decode cJ9_min_7cf53 2 = .ok (.if_icmp .gt 7, 3) := by decide +kernel
theorem dJ9_min_7cf53_5 : decode cJ9_min_7cf53 5 = .ok (.iload_n 0, 1) := by decide +kernel
theorem dJ9_min_7cf53_6 : decode cJ9_min_7cf53 6 = .ok (.goto 4, 3) := by decide +kernel
theorem dJ9_min_7cf53_9 : decode cJ9_min_7cf53 9 = .ok (.iload_n 1, 1) := by decide +kernel
theorem dJ9_min_7cf53_10 : decode cJ9_min_7cf53 10 = .ok (.ireturn, 1) := by decide +kernel
theorem dJ7_fill_d0a16_0 : decode cJ7_fill_d0a16 0 = .ok (.iconst 0, 1) := by decide +kernel
theorem dJ7_fill_d0a16_1 : decode cJ7_fill_d0a16 1 = .ok (.istore_n 3, 1) := by decide +kernel
theorem dJ7_fill_d0a16_2 : decode cJ7_fill_d0a16 2 = .ok (.aload_n 0, 1) := by decide +kernel
theorem dJ7_fill_d0a16_3 : decode cJ7_fill_d0a16 3 = .ok (.arraylength, 1) := by decide +kernel
theorem dJ7_fill_d0a16_4 : decode cJ7_fill_d0a16 4 = .ok (.istore 4, 2) := by decide +kernel
theorem dJ7_fill_d0a16_6 : decode cJ7_fill_d0a16 6 = .ok (.iload_n 3, 1) := by decide +kernel
theorem dJ7_fill_d0a16_7 : decode cJ7_fill_d0a16 7 = .ok (.iload 4, 2) := by decide +kernel
theorem dJ7_fill_d0a16_9 : decode cJ7_fill_d0a16 9 = .ok (.if_icmp .ge 13, 3) := by decide +kernel
theorem dJ7_fill_d0a16_12 : decode cJ7_fill_d0a16 12 = .ok (.aload_n 0, 1) := by decide +kernel
theorem dJ7_fill_d0a16_13 : decode cJ7_fill_d0a16 13 = .ok (.iload_n 3, 1) := by decide +kernel
theorem dJ7_fill_d0a16_14 : decode cJ7_fill_d0a16 14 = .ok (.lload_n 1, 1) := by decide +kernel
theorem dJ7_fill_d0a16_15 : decode cJ7_fill_d0a16 15 = .ok (.lastore, 1) := by decide +kernel
theorem dJ7_fill_d0a16_16 : decode cJ7_fill_d0a16 16 = .ok (.iinc 3 1, 3) := by decide +kernel
theorem dJ7_fill_d0a16_19 : decode cJ7_fill_d0a16 19 = .ok (.goto (-13), 3) := by decide +kernel
theorem dJ7_fill_d0a16_22 : decode cJ7_fill_d0a16 22 = .ok (.return_, 1) := by decide +kernel
theorem dJ7_fill_53178_0 : decode cJ7_fill_53178 0 = .ok (.iconst 0, 1) := by decide +kernel
theorem dJ7_fill_53178_1 : decode cJ7_fill_53178 1 = .ok (.istore_n 2, 1) := by decide +kernel
theorem dJ7_fill_53178_2 : decode cJ7_fill_53178 2 = .ok (.aload_n 0, 1) := by decide +kernel
theorem dJ7_fill_53178_3 : decode cJ7_fill_53178 3 = .ok (.arraylength, 1) := by decide +kernel
theorem dJ7_fill_53178_4 : decode cJ7_fill_53178 4 = .ok (.istore_n 3, 1) := by decide +kernel
theorem dJ7_fill_53178_5 : decode cJ7_fill_53178 5 = .ok (.iload_n 2, 1) := by decide +kernel
theorem dJ7_fill_53178_6 : decode cJ7_fill_53178 6 = .ok (.iload_n 3, 1) := by decide +kernel
theorem dJ7_fill_53178_7 : decode cJ7_fill_53178 7 = .ok (.if_icmp .ge 13, 3) := by decide +kernel
theorem dJ7_fill_53178_10 : decode cJ7_fill_53178 10 = .ok (.aload_n 0, 1) := by decide +kernel
theorem dJ7_fill_53178_11 : decode cJ7_fill_53178 11 = .ok (.iload_n 2, 1) := by decide +kernel
theorem dJ7_fill_53178_12 : decode cJ7_fill_53178 12 = .ok (.iload_n 1, 1) := by decide +kernel
theorem dJ7_fill_53178_13 : decode cJ7_fill_53178 13 = .ok (.iastore, 1) := by decide +kernel
theorem dJ7_fill_53178_14 : decode cJ7_fill_53178 14 = .ok (.iinc 2 1, 3) := by decide +kernel
theorem dJ7_fill_53178_17 : decode cJ7_fill_53178 17 = .ok (.goto (-12), 3) := by decide +kernel
theorem dJ7_fill_53178_20 : decode cJ7_fill_53178 20 = .ok (.return_, 1) := by decide +kernel
end
section
theorem dX7_init_0 : decode cX7_init 0 = .ok (.aload_n 0, 1) := by decide +kernel
theorem dX7_init_1 : decode cX7_init 1 = .ok (.invokespecial 1, 3) := by decide +kernel
theorem dX7_init_4 : decode cX7_init 4 = .ok (.aload_n 0, 1) := by decide +kernel
theorem dX7_init_5 : decode cX7_init 5 = .ok (.iconst 4, 1) := by decide +kernel
theorem dX7_init_6 : decode cX7_init 6 = .ok (.newarray .int, 2) := by decide +kernel
theorem dX7_init_8 : decode cX7_init 8 = .ok (.dup, 1) := by decide +kernel
theorem dX7_init_9 : decode cX7_init 9 = .ok (.iconst 0, 1) := by decide +kernel
theorem dX7_init_10 : decode cX7_init 10 = .ok (.bipush (-9), 2) := by decide +kernel
theorem dX7_init_12 : decode cX7_init 12 = .ok (.iastore, 1) := by decide +kernel
theorem dX7_init_13 : decode cX7_init 13 = .ok (.dup, 1) := by decide +kernel
theorem dX7_init_14 : decode cX7_init 14 = .ok (.iconst 1, 1) := by decide +kernel
theorem dX7_init_15 : decode cX7_init 15 = .ok (.bipush (-9), 2) := by decide +kernel
theorem dX7_init_17 : decode cX7_init 17 = .ok (.iastore, 1) := by decide +kernel
theorem dX7_init_18 : decode cX7_init 18 = .ok (.dup, 1) := by decide +kernel
theorem dX7_init_19 : decode cX7_init 19 = .ok (.iconst 2, 1) := by decide +kernel
theorem dX7_init_20 : decode cX7_init 20 = .ok (.bipush (-9), 2) := by decide +kernel
theorem dX7_init_22 : decode cX7_init 22 = .ok (.iastore, 1) := by decide +kernel
theorem dX7_init_23 : decode cX7_init 23 = .ok (.dup, 1) := by decide +kernel
theorem dX7_init_24 : decode cX7_init 24 = .ok (.iconst 3, 1) := by decide +kernel
theorem dX7_init_25 : decode cX7_init 25 = .ok (.bipush (-9), 2) := by decide +kernel
theorem dX7_init_27 : decode cX7_init 27 = .ok (.iastore, 1) := by decide +kernel
theorem dX7_init_28 : decode cX7_init 28 = .ok (.putfield 9, 3) := by decide +kernel
theorem dX7_init_31 : decode cX7_init 31 = .ok (.aload_n 0, 1) := by decide +kernel
theorem dX7_init_32 : decode cX7_init 32 = .ok (.iconst 4, 1) := by decide +kernel
theorem dX7_init_33 : decode cX7_init 33 = .ok (.newarray .int, 2) := by decide +kernel
theorem dX7_init_35 : decode cX7_init 35 = .ok (.putfield 13, 3) := by decide +kernel
theorem dX7_init_38 : decode cX7_init 38 = .ok (.aload_n 0, 1) := by decide +kernel
theorem dX7_init_39 : decode cX7_init 39 = .ok (.sipush 240, 3) := by decide +kernel
theorem dX7_init_42 : decode cX7_init 42 = .ok (.newarray .int, 2) := by decide +kernel
theorem dX7_init_44 : decode cX7_init 44 = .ok (.putfield 16, 3) := by decide +kernel
theorem dX7_init_47 : decode cX7_init 47 = .ok (.aload_n 0, 1) := by decide +kernel
theorem dX7_init_48 : decode cX7_init 48 = .ok (.bipush 8, 2) := by decide +kernel
theorem dX7_init_50 : decode cX7_init 50 = .ok (.newarray .int, 2) := by decide +kernel
theorem dX7_init_52 : decode cX7_init 52 = .ok (.putfield 19, 3) := by decide +kernel
theorem dX7_init_55 : decode cX7_init 55 = .ok (.aload_n 0, 1) := by decide +kernel
theorem dX7_init_56 : decode cX7_init 56 = .ok (.bipush 8, 2) := by decide +kernel
theorem dX7_init_58 : decode cX7_init 58 = .ok (.newarray .int, 2) := by decide +kernel
theorem dX7_init_60 : decode cX7_init 60 = .ok (.putfield 22, 3) := by decide +kernel
theorem dX7_init_63 : decode cX7_init 63 = .ok (.aload_n 0, 1) := by decide +kernel
theorem dX7_init_64 : decode cX7_init 64 = .ok (.bipush 8, 2) := by decide +kernel
theorem dX7_init_66 : decode cX7_init 66 = .ok (.newarray .int, 2) := by decide +kernel
theorem dX7_init_68 : decode cX7_init 68 = .ok (.putfield 25, 3) := by decide +kernel
theorem dX7_init_71 : decode cX7_init 71 = .ok (.aload_n 0, 1) := by decide +kernel
theorem dX7_init_72 : decode cX7_init 72 = .ok (.bipush 6, 2) := by decide +kernel
theorem dX7_init_74 : decode cX7_init 74 = .ok (.newarray .int, 2) := by decide +kernel
theorem dX7_init_76 : decode cX7_init 76 = .ok (.putfield 28, 3) := by decide +kernel
theorem dX7_init_79 : decode cX7_init 79 = .ok (.aload_n 0, 1) := by decide +kernel
theorem dX7_init_80 : decode cX7_init 80 = .ok (.bipush 6, 2) := by decide +kernel
theorem dX7_init_82 : decode cX7_init 82 = .ok (.newarray .int, 2) := by decide +kernel
theorem dX7_init_84 : decode cX7_init 84 = .ok (.putfield 31, 3) := by decide +kernel
theorem dX7_init_87 : decode cX7_init 87 = .ok (.aload_n 0, 1) := by decide +kernel
theorem dX7_init_88 : decode cX7_init 88 = .ok (.bipush 8, 2) := by decide +kernel
theorem dX7_init_90 : decode cX7_init 90 = .ok (.newarray .int, 2) := by decide +kernel
theorem dX7_init_92 : decode cX7_init 92 = .ok (.putfield 34, 3) := by decide +kernel
theorem dX7_init_95 : decode cX7_init 95 = .ok (.aload_n 0, 1) := by decide +kernel
theorem dX7_init_96 : decode cX7_init 96 = .ok (.bipush 8, 2) := by decide +kernel
theorem dX7_init_98 : decode cX7_init 98 = .ok (.newarray .int, 2) := by decide +kernel
theorem dX7_init_100 : decode cX7_init 100 = .ok (.putfield 37, 3) := by decide +kernel
theorem dX7_init_103 : decode cX7_init 103 = .ok (.aload_n 0, 1) := by decide +kernel
theorem dX7_init_104 : decode cX7_init 104 = .ok (.bipush 8, 2) := by decide +kernel
theorem dX7_init_106 : decode cX7_init 106 = .ok (.newarray .int, 2) := by decide +kernel
theorem dX7_init_108 : decode cX7_init 108 = .ok (.putfield 40, 3) := by decide +kernel
theorem dX7_init_111 : decode cX7_init 111 = .ok (.aload_n 0, 1) := by decide +kernel
theorem dX7_init_112 : decode cX7_init 112 = .ok (.bipush 6, 2) := by decide +kernel
theorem dX7_init_114 : decode cX7_init 114 = .ok (.newarray .int, 2) := by decide +kernel
theorem dX7_init_116 : decode cX7_init 116 = .ok (.putfield 43, 3) := by decide +kernel
theorem dX7_init_119 : decode cX7_init 119 = .ok (.aload_n 0, 1) := by decide +kernel
theorem dX7_init_120 : decode cX7_init 120 = .ok (.bipush 6, 2) := by decide +kernel
theorem dX7_init_122 : decode cX7_init 122 = .ok (.newarray .int, 2) := by decide +kernel
theorem dX7_init_124 : decode cX7_init 124 = .ok (.putfield 46, 3) := by decide +kernel
theorem dX7_init_127 : decode cX7_init 127 = .ok (.aload_n 0, 1) := by decide +kernel
theorem dX7_init_128 : decode cX7_init 128 = .ok (.bipush 64, 2) := by decide +kernel
theorem dX7_init_130 : decode cX7_init 130 = .ok (.newarray .int, 2) := by decide +kernel
theorem dX7_init_132 : decode cX7_init 132 = .ok (.putfield 49, 3) := by decide +kernel
theorem dX7_init_135 : decode cX7_init 135 = .ok (.aload_n 0, 1) := by decide +kernel
theorem dX7_init_136 : decode cX7_init 136 = .ok (.sipush 256, 3) := by decide +kernel
theorem dX7_init_139 : decode cX7_init 139 = .ok (.newarray .int, 2) := by decide +kernel
theorem dX7_init_141 : decode cX7_init 141 = .ok (.putfield 52, 3) := by decide +kernel
theorem dX7_init_144 : decode cX7_init 144 = .ok (.aload_n 0, 1) := by decide +kernel
theorem dX7_init_145 : decode cX7_init 145 = .ok (.bipush 8, 2) := by decide +kernel
theorem dX7_init_147 : decode cX7_init 147 = .ok (.newarray .long, 2) := by decide +kernel
theorem dX7_init_149 : decode cX7_init 149 = .ok (.putfield 55, 3) := by decide +kernel
theorem dX7_init_152 : decode cX7_init 152 = .ok (.aload_n 0, 1) := by decide +kernel
theorem dX7_init_153 : decode cX7_init 153 = .ok (.bipush 8, 2) := by decide +kernel
theorem dX7_init_155 : decode cX7_init 155 = .ok (.newarray .long, 2) := by decide +kernel
theorem dX7_init_157 : decode cX7_init 157 = .ok (.putfield 59, 3) := by decide +kernel
theorem dX7_init_160 : decode cX7_init 160 = .ok (.aload_n 0, 1) := by decide +kernel
theorem dX7_init_161 : decode cX7_init 161 = .ok (.bipush 8, 2) := by decide +kernel
theorem dX7_init_163 : decode cX7_init 163 = .ok (.newarray .int, 2) := by decide +kernel
theorem dX7_init_165 : decode cX7_init 165 = .ok (.putfield 62, 3) := by decide +kernel
theorem dX7_init_168 : decode cX7_init 168 = .ok (.aload_n 0, 1) := by decide +kernel
theorem dX7_init_169 : decode cX7_init 169 = .ok (.bipush 8, 2) := by decide +kernel
theorem dX7_init_171 : decode cX7_init 171 = .ok (.newarray .int, 2) := by decide +kernel
theorem dX7_init_173 : decode cX7_init 173 = .ok (.putfield 65, 3) := by decide +kernel
theorem dX7_init_176 : decode cX7_init 176 = .ok (.return_, 1) := by decide +kernel
theorem dX7_fails_0 : decode cX7_fails 0 = .ok (.aload_n 0, 1) := by decide +kernel
theorem dX7_fails_1 : decode cX7_fails 1 = .ok (.iload_n 1, 1) := by decide +kernel
theorem dX7_fails_2 : decode cX7_fails 2 = .ok (.putfield 68, 3) := by decide +kernel
theorem dX7_fails_5 : decode cX7_fails 5 = .ok (.bipush (-10), 2) := by decide +kernel
theorem dX7_fails_7 : decode cX7_fails 7 = .ok (.iload_n 1, 1) := by decide +kernel
theorem dX7_fails_8 : decode cX7_fails 8 = .ok (.isub, 1) := by decide +kernel
theorem dX7_fails_9 : decode cX7_fails 9 = .ok (.ireturn, 1) := by decide +kernel
theorem dX7_lost_0 : decode cX7_lost 0 = .ok (.aload_n 0, 1) := by decide +kernel
theorem dX7_lost_1 : decode cX7_lost 1 = .ok (.iload_n 1, 1) := by decide +kernel
theorem dX7_lost_2 : decode cX7_lost 2 = .ok (.putfield 68, 3) := by decide +kernel
theorem dX7_lost_5 : decode cX7_lost 5 = .ok (.ldc2_w 72, 3) := by decide +kernel
theorem dX7_lost_8 : decode cX7_lost 8 = .ok (.lreturn, 1) := by decide +kernel
theorem dX7_within_0 : decode cX7_within 0 = .ok (.iload_n 0, 1) := by decide +kernel
theorem dX7_within_1 : decode cX7_within 1 = .ok (.iload_n 1, 1) := by decide +kernel
theorem dX7_within_2 : decode cX7_within 2 = .ok (.if_icmp .lt 12, 3) := by decide +kernel
theorem dX7_within_5 : decode cX7_within 5 = .ok (.iload_n 0, 1) := by decide +kernel
theorem dX7_within_6 : decode cX7_within 6 = .ok (.iload_n 2, 1) := by decide +kernel
theorem dX7_within_7 : decode cX7_within 7 = .ok (.if_icmp .gt 7, 3) := by decide +kernel
theorem dX7_within_10 : decode cX7_within 10 = .ok (.iconst 1, 1) := by decide +kernel
theorem dX7_within_11 : decode cX7_within 11 = .ok (.goto 4, 3) := by decide +kernel
theorem dX7_within_14 : decode cX7_within 14 = .ok (.iconst 0, 1) := by decide +kernel
theorem dX7_within_15 : decode cX7_within 15 = .ok (.ireturn, 1) := by decide +kernel
theorem dX7_isSheet_0 : decode cX7_isSheet 0 = .ok (.iload_n 0, 1) := by decide +kernel
theorem dX7_isSheet_1 : decode cX7_isSheet 1 = .ok (.iconst 0, 1) := by decide +kernel
theorem dX7_isSheet_2 : decode cX7_isSheet 2 = .ok (.iconst 3, 1) := by decide +kernel
theorem dX7_isSheet_3 : decode cX7_isSheet 3 = .ok (.invokestatic 74, 3) := by decide +kernel
theorem dX7_isSheet_6 : decode cX7_isSheet 6 = .ok (.ireturn, 1) := by decide +kernel
theorem dX7_isSort_0 : decode cX7_isSort 0 = .ok (.iload_n 0, 1) := by decide +kernel
theorem dX7_isSort_1 : decode cX7_isSort 1 = .ok (.iconst 0, 1) := by decide +kernel
theorem dX7_isSort_2 : decode cX7_isSort 2 = .ok (.iconst 2, 1) := by decide +kernel
theorem dX7_isSort_3 : decode cX7_isSort 3 = .ok (.invokestatic 74, 3) := by decide +kernel
theorem dX7_isSort_6 : decode cX7_isSort 6 = .ok (.ireturn, 1) := by decide +kernel
theorem dX7_against_0 : decode cX7_against 0 = .ok (.aload_n 0, 1) := by decide +kernel
theorem dX7_against_1 : decode cX7_against 1 = .ok (.getfield 9, 3) := by decide +kernel
theorem dX7_against_4 : decode cX7_against 4 = .ok (.iload_n 1, 1) := by decide +kernel
theorem dX7_against_5 : decode cX7_against 5 = .ok (.iaload, 1) := by decide +kernel
theorem dX7_against_6 : decode cX7_against 6 = .ok (.bipush (-9), 2) := by decide +kernel
theorem dX7_against_8 : decode cX7_against 8 = .ok (.if_icmp .eq 15, 3) := by decide +kernel
theorem dX7_against_11 : decode cX7_against 11 = .ok (.aload_n 0, 1) := by decide +kernel
theorem dX7_against_12 : decode cX7_against 12 = .ok (.getfield 9, 3) := by decide +kernel
theorem dX7_against_15 : decode cX7_against 15 = .ok (.iload_n 1, 1) := by decide +kernel
theorem dX7_against_16 : decode cX7_against 16 = .ok (.iaload, 1) := by decide +kernel
theorem dX7_against_17 : decode cX7_against 17 = .ok (.iload_n 2, 1) := by decide +kernel
theorem dX7_against_18 : decode cX7_against 18 = .ok (.if_icmp .eq 5, 3) := by decide +kernel
theorem dX7_against_21 : decode cX7_against 21 = .ok (.iconst 2, 1) := by decide +kernel
theorem dX7_against_22 : decode cX7_against 22 = .ok (.ireturn, 1) := by decide +kernel
theorem dX7_against_23 : decode cX7_against 23 = .ok (.aload_n 0, 1) := by decide +kernel
theorem dX7_against_24 : decode cX7_against 24 = .ok (.getfield 9, 3) := by decide +kernel
theorem dX7_against_27 : decode cX7_against 27 = .ok (.iload_n 1, 1) := by decide +kernel
theorem dX7_against_28 : decode cX7_against 28 = .ok (.iaload, 1) := by decide +kernel
theorem dX7_against_29 : decode cX7_against 29 = .ok (.bipush (-9), 2) := by decide +kernel
theorem dX7_against_31 : decode cX7_against 31 = .ok (.if_icmp .ne 5, 3) := by decide +kernel
theorem dX7_against_34 : decode cX7_against 34 = .ok (.iconst 1, 1) := by decide +kernel
theorem dX7_against_35 : decode cX7_against 35 = .ok (.ireturn, 1) := by decide +kernel
theorem dX7_against_36 : decode cX7_against 36 = .ok (.iload 4, 2) := by decide +kernel
theorem dX7_against_38 : decode cX7_against 38 = .ok (.ifCond .ge 5, 3) := by decide +kernel
theorem dX7_against_41 : decode cX7_against 41 = .ok (.iconst 4, 1) := by decide +kernel
theorem dX7_against_42 : decode cX7_against 42 = .ok (.ireturn, 1) := by decide +kernel
theorem dX7_against_43 : decode cX7_against 43 = .ok (.iload_n 3, 1) := by decide +kernel
theorem dX7_against_44 : decode cX7_against 44 = .ok (.ifCond .lt 26, 3) := by decide +kernel
theorem dX7_against_47 : decode cX7_against 47 = .ok (.iload_n 3, 1) := by decide +kernel
theorem dX7_against_48 : decode cX7_against 48 = .ok (.aload_n 0, 1) := by decide +kernel
theorem dX7_against_49 : decode cX7_against 49 = .ok (.getfield 13, 3) := by decide +kernel
theorem dX7_against_52 : decode cX7_against 52 = .ok (.iload_n 1, 1) := by decide +kernel
theorem dX7_against_53 : decode cX7_against 53 = .ok (.iaload, 1) := by decide +kernel
theorem dX7_against_54 : decode cX7_against 54 = .ok (.if_icmp .gt 16, 3) := by decide +kernel
theorem dX7_against_57 : decode cX7_against 57 = .ok (.iload 4, 2) := by decide +kernel
theorem dX7_against_59 : decode cX7_against 59 = .ok (.aload_n 0, 1) := by decide +kernel
theorem dX7_against_60 : decode cX7_against 60 = .ok (.getfield 13, 3) := by decide +kernel
theorem dX7_against_63 : decode cX7_against 63 = .ok (.iload_n 1, 1) := by decide +kernel
theorem dX7_against_64 : decode cX7_against 64 = .ok (.iaload, 1) := by decide +kernel
theorem dX7_against_65 : decode cX7_against 65 = .ok (.iload_n 3, 1) := by decide +kernel
theorem dX7_against_66 : decode cX7_against 66 = .ok (.isub, 1) := by decide +kernel
theorem dX7_against_67 : decode cX7_against 67 = .ok (.if_icmp .le 7, 3) := by decide +kernel
theorem dX7_against_70 : decode cX7_against 70 = .ok (.iconst 3, 1) := by decide +kernel
theorem dX7_against_71 : decode cX7_against 71 = .ok (.goto 4, 3) := by decide +kernel
theorem dX7_against_74 : decode cX7_against 74 = .ok (.iconst 0, 1) := by decide +kernel
theorem dX7_against_75 : decode cX7_against 75 = .ok (.ireturn, 1) := by decide +kernel
theorem dX7_isGuest_0 : decode cX7_isGuest 0 = .ok (.iload_n 1, 1) := by decide +kernel
theorem dX7_isGuest_1 : decode cX7_isGuest 1 = .ok (.ifCond .lt 15, 3) := by decide +kernel
theorem dX7_isGuest_4 : decode cX7_isGuest 4 = .ok (.iload_n 1, 1) := by decide +kernel
theorem dX7_isGuest_5 : decode cX7_isGuest 5 = .ok (.aload_n 0, 1) := by decide +kernel
theorem dX7_isGuest_6 : decode cX7_isGuest 6 = .ok (.getfield 78, 3) := by decide +kernel
theorem dX7_isGuest_9 : decode cX7_isGuest 9 = .ok (.if_icmp .ge 7, 3) := by decide +kernel
theorem dX7_isGuest_12 : decode cX7_isGuest 12 = .ok (.iconst 1, 1) := by decide +kernel
theorem dX7_isGuest_13 : decode cX7_isGuest 13 = .ok (.goto 4, 3) := by decide +kernel
theorem dX7_isGuest_16 : decode cX7_isGuest 16 = .ok (.iconst 0, 1) := by decide +kernel
theorem dX7_isGuest_17 : decode cX7_isGuest 17 = .ok (.ireturn, 1) := by decide +kernel
theorem dX7_isDish_0 : decode cX7_isDish 0 = .ok (.iload_n 1, 1) := by decide +kernel
theorem dX7_isDish_1 : decode cX7_isDish 1 = .ok (.ifCond .lt 15, 3) := by decide +kernel
theorem dX7_isDish_4 : decode cX7_isDish 4 = .ok (.iload_n 1, 1) := by decide +kernel
theorem dX7_isDish_5 : decode cX7_isDish 5 = .ok (.aload_n 0, 1) := by decide +kernel
theorem dX7_isDish_6 : decode cX7_isDish 6 = .ok (.getfield 81, 3) := by decide +kernel
theorem dX7_isDish_9 : decode cX7_isDish 9 = .ok (.if_icmp .ge 7, 3) := by decide +kernel
theorem dX7_isDish_12 : decode cX7_isDish 12 = .ok (.iconst 1, 1) := by decide +kernel
theorem dX7_isDish_13 : decode cX7_isDish 13 = .ok (.goto 4, 3) := by decide +kernel
theorem dX7_isDish_16 : decode cX7_isDish 16 = .ok (.iconst 0, 1) := by decide +kernel
theorem dX7_isDish_17 : decode cX7_isDish 17 = .ok (.ireturn, 1) := by decide +kernel
theorem dX7_isCountry_0 : decode cX7_isCountry 0 = .ok (.iload_n 0, 1) := by decide +kernel
theorem dX7_isCountry_1 : decode cX7_isCountry 1 = .ok (.ifCond .eq 8, 3) := by decide +kernel
theorem dX7_isCountry_4 : decode cX7_isCountry 4 = .ok (.iload_n 0, 1) := by decide +kernel
theorem dX7_isCountry_5 : decode cX7_isCountry 5 = .ok (.iconst 1, 1) := by decide +kernel
theorem dX7_isCountry_6 : decode cX7_isCountry 6 = .ok (.if_icmp .ne 7, 3) := by decide +kernel
theorem dX7_isCountry_9 : decode cX7_isCountry 9 = .ok (.iconst 1, 1) := by decide +kernel
theorem dX7_isCountry_10 : decode cX7_isCountry 10 = .ok (.goto 4, 3) := by decide +kernel
theorem dX7_isCountry_13 : decode cX7_isCountry 13 = .ok (.iconst 0, 1) := by decide +kernel
theorem dX7_isCountry_14 : decode cX7_isCountry 14 = .ok (.ireturn, 1) := by decide +kernel
theorem dX7_digit_0 : decode cX7_digit 0 = .ok (.aload_n 0, 1) := by decide +kernel
theorem dX7_digit_1 : decode cX7_digit 1 = .ok (.getfield 84, 3) := by decide +kernel
theorem dX7_digit_4 : decode cX7_digit 4 = .ok (.iload_n 1, 1) := by decide +kernel
theorem dX7_digit_5 : decode cX7_digit 5 = .ok (.if_icmp .ge 24, 3) := by decide +kernel
theorem dX7_digit_8 : decode cX7_digit 8 = .ok (.aload_n 0, 1) := by decide +kernel
theorem dX7_digit_9 : decode cX7_digit 9 = .ok (.getfield 16, 3) := by decide +kernel
theorem dX7_digit_12 : decode cX7_digit 12 = .ok (.aload_n 0, 1) := by decide +kernel
theorem dX7_digit_13 : decode cX7_digit 13 = .ok (.getfield 84, 3) := by decide +kernel
theorem dX7_digit_16 : decode cX7_digit 16 = .ok (.iaload, 1) := by decide +kernel
theorem dX7_digit_17 : decode cX7_digit 17 = .ok (.bipush 48, 2) := by decide +kernel
theorem dX7_digit_19 : decode cX7_digit 19 = .ok (.bipush 48, 2) := by decide +kernel
theorem dX7_digit_21 : decode cX7_digit 21 = .ok (.iload_n 2, 1) := by decide +kernel
theorem dX7_digit_22 : decode cX7_digit 22 = .ok (.iadd, 1) := by decide +kernel
theorem dX7_digit_23 : decode cX7_digit 23 = .ok (.invokestatic 74, 3) := by decide +kernel
theorem dX7_digit_26 : decode cX7_digit 26 = .ok (.ifCond .ne 6, 3) := by decide +kernel
theorem dX7_digit_29 : decode cX7_digit 29 = .ok (.bipush (-9), 2) := by decide +kernel
theorem dX7_digit_31 : decode cX7_digit 31 = .ok (.ireturn, 1) := by decide +kernel
theorem dX7_digit_32 : decode cX7_digit 32 = .ok (.aload_n 0, 1) := by decide +kernel
theorem dX7_digit_33 : decode cX7_digit 33 = .ok (.dup, 1) := by decide +kernel
theorem dX7_digit_34 : decode cX7_digit 34 = .ok (.getfield 84, 3) := by decide +kernel
theorem dX7_digit_37 : decode cX7_digit 37 = .ok (.iconst 1, 1) := by decide +kernel
theorem dX7_digit_38 : decode cX7_digit 38 = .ok (.iadd, 1) := by decide +kernel
theorem dX7_digit_39 : decode cX7_digit 39 = .ok (.putfield 84, 3) := by decide +kernel
theorem dX7_digit_42 : decode cX7_digit 42 = .ok (.aload_n 0, 1) := by decide +kernel
theorem dX7_digit_43 : decode cX7_digit 43 = .ok (.getfield 16, 3) := by decide +kernel
theorem dX7_digit_46 : decode cX7_digit 46 = .ok (.aload_n 0, 1) := by decide +kernel
theorem dX7_digit_47 : decode cX7_digit 47 = .ok (.getfield 84, 3) := by decide +kernel
theorem dX7_digit_50 : decode cX7_digit 50 = .ok (.iconst 1, 1) := by decide +kernel
theorem dX7_digit_51 : decode cX7_digit 51 = .ok (.isub, 1) := by decide +kernel
theorem dX7_digit_52 : decode cX7_digit 52 = .ok (.iaload, 1) := by decide +kernel
theorem dX7_digit_53 : decode cX7_digit 53 = .ok (.bipush 48, 2) := by decide +kernel
theorem dX7_digit_55 : decode cX7_digit 55 = .ok (.isub, 1) := by decide +kernel
theorem dX7_digit_56 : decode cX7_digit 56 = .ok (.ireturn, 1) := by decide +kernel
theorem dX7_isSign_0 : decode cX7_isSign 0 = .ok (.aload_n 0, 1) := by decide +kernel
theorem dX7_isSign_1 : decode cX7_isSign 1 = .ok (.getfield 84, 3) := by decide +kernel
theorem dX7_isSign_4 : decode cX7_isSign 4 = .ok (.iload_n 1, 1) := by decide +kernel
theorem dX7_isSign_5 : decode cX7_isSign 5 = .ok (.if_icmp .ge 16, 3) := by decide +kernel
theorem dX7_isSign_8 : decode cX7_isSign 8 = .ok (.aload_n 0, 1) := by decide +kernel
theorem dX7_isSign_9 : decode cX7_isSign 9 = .ok (.getfield 16, 3) := by decide +kernel
theorem dX7_isSign_12 : decode cX7_isSign 12 = .ok (.aload_n 0, 1) := by decide +kernel
theorem dX7_isSign_13 : decode cX7_isSign 13 = .ok (.getfield 84, 3) := by decide +kernel
theorem dX7_isSign_16 : decode cX7_isSign 16 = .ok (.iaload, 1) := by decide +kernel
theorem dX7_isSign_17 : decode cX7_isSign 17 = .ok (.iload_n 2, 1) := by decide +kernel
theorem dX7_isSign_18 : decode cX7_isSign 18 = .ok (.if_icmp .eq 5, 3) := by decide +kernel
theorem dX7_isSign_21 : decode cX7_isSign 21 = .ok (.iconst 0, 1) := by decide +kernel
theorem dX7_isSign_22 : decode cX7_isSign 22 = .ok (.ireturn, 1) := by decide +kernel
theorem dX7_isSign_23 : decode cX7_isSign 23 = .ok (.aload_n 0, 1) := by decide +kernel
theorem dX7_isSign_24 : decode cX7_isSign 24 = .ok (.dup, 1) := by decide +kernel
theorem dX7_isSign_25 : decode cX7_isSign 25 = .ok (.getfield 84, 3) := by decide +kernel
theorem dX7_isSign_28 : decode cX7_isSign 28 = .ok (.iconst 1, 1) := by decide +kernel
theorem dX7_isSign_29 : decode cX7_isSign 29 = .ok (.iadd, 1) := by decide +kernel
theorem dX7_isSign_30 : decode cX7_isSign 30 = .ok (.putfield 84, 3) := by decide +kernel
theorem dX7_isSign_33 : decode cX7_isSign 33 = .ok (.iconst 1, 1) := by decide +kernel
theorem dX7_isSign_34 : decode cX7_isSign 34 = .ok (.ireturn, 1) := by decide +kernel
theorem dX7_table_0 : decode cX7_table 0 = .ok (.aload_n 0, 1) := by decide +kernel
theorem dX7_table_1 : decode cX7_table 1 = .ok (.iconst 0, 1) := by decide +kernel
theorem dX7_table_2 : decode cX7_table 2 = .ok (.putfield 68, 3) := by decide +kernel
theorem dX7_table_5 : decode cX7_table 5 = .ok (.iload_n 1, 1) := by decide +kernel
theorem dX7_table_6 : decode cX7_table 6 = .ok (.invokestatic 87, 3) := by decide +kernel
theorem dX7_table_9 : decode cX7_table 9 = .ok (.ifCond .ne 5, 3) := by decide +kernel
theorem dX7_table_12 : decode cX7_table 12 = .ok (.iconst (-1), 1) := by decide +kernel
theorem dX7_table_13 : decode cX7_table 13 = .ok (.ireturn, 1) := by decide +kernel
theorem dX7_table_14 : decode cX7_table 14 = .ok (.iload_n 2, 1) := by decide +kernel
theorem dX7_table_15 : decode cX7_table 15 = .ok (.invokestatic 91, 3) := by decide +kernel
theorem dX7_table_18 : decode cX7_table 18 = .ok (.ifCond .ne 6, 3) := by decide +kernel
theorem dX7_table_21 : decode cX7_table 21 = .ok (.bipush (-2), 2) := by decide +kernel
theorem dX7_table_23 : decode cX7_table 23 = .ok (.ireturn, 1) := by decide +kernel
theorem dX7_table_24 : decode cX7_table 24 = .ok (.aload_n 0, 1) := by decide +kernel
theorem dX7_table_25 : decode cX7_table 25 = .ok (.iload_n 1, 1) := by decide +kernel
theorem dX7_table_26 : decode cX7_table 26 = .ok (.iload_n 2, 1) := by decide +kernel
theorem dX7_table_27 : decode cX7_table 27 = .ok (.iload_n 3, 1) := by decide +kernel
theorem dX7_table_28 : decode cX7_table 28 = .ok (.iload 4, 2) := by decide +kernel
theorem dX7_table_30 : decode cX7_table 30 = .ok (.invokevirtual 94, 3) := by decide +kernel
theorem dX7_table_33 : decode cX7_table 33 = .ok (.istore 5, 2) := by decide +kernel
theorem dX7_table_35 : decode cX7_table 35 = .ok (.iload 5, 2) := by decide +kernel
theorem dX7_table_37 : decode cX7_table 37 = .ok (.ifCond .eq 10, 3) := by decide +kernel
theorem dX7_table_40 : decode cX7_table 40 = .ok (.aload_n 0, 1) := by decide +kernel
theorem dX7_table_41 : decode cX7_table 41 = .ok (.iload 5, 2) := by decide +kernel
theorem dX7_table_43 : decode cX7_table 43 = .ok (.invokevirtual 98, 3) := by decide +kernel
theorem dX7_table_46 : decode cX7_table 46 = .ok (.ireturn, 1) := by decide +kernel
theorem dX7_table_47 : decode cX7_table 47 = .ok (.bipush 60, 2) := by decide +kernel
theorem dX7_table_49 : decode cX7_table 49 = .ok (.iload_n 1, 1) := by decide +kernel
theorem dX7_table_50 : decode cX7_table 50 = .ok (.imul, 1) := by decide +kernel
theorem dX7_table_51 : decode cX7_table 51 = .ok (.iload_n 3, 1) := by decide +kernel
theorem dX7_table_52 : decode cX7_table 52 = .ok (.iadd, 1) := by decide +kernel
theorem dX7_table_53 : decode cX7_table 53 = .ok (.istore 6, 2) := by decide +kernel
theorem dX7_table_55 : decode cX7_table 55 = .ok (.aload_n 0, 1) := by decide +kernel
theorem dX7_table_56 : decode cX7_table 56 = .ok (.iload 6, 2) := by decide +kernel
theorem dX7_table_58 : decode cX7_table 58 = .ok (.putfield 84, 3) := by decide +kernel
theorem dX7_table_61 : decode cX7_table 61 = .ok (.aload_n 0, 1) := by decide +kernel
theorem dX7_table_62 : decode cX7_table 62 = .ok (.iload 6, 2) := by decide +kernel
theorem dX7_table_64 : decode cX7_table 64 = .ok (.iload 4, 2) := by decide +kernel
theorem dX7_table_66 : decode cX7_table 66 = .ok (.iadd, 1) := by decide +kernel
theorem dX7_table_67 : decode cX7_table 67 = .ok (.invokevirtual 102, 3) := by decide +kernel
theorem dX7_table_70 : decode cX7_table 70 = .ok (.ifCond .ne 14, 3) := by decide +kernel
theorem dX7_table_73 : decode cX7_table 73 = .ok (.bipush (-100), 2) := by decide +kernel
theorem dX7_table_75 : decode cX7_table 75 = .ok (.aload_n 0, 1) := by decide +kernel
theorem dX7_table_76 : decode cX7_table 76 = .ok (.getfield 84, 3) := by decide +kernel
theorem dX7_table_79 : decode cX7_table 79 = .ok (.iload 6, 2) := by decide +kernel
theorem dX7_table_81 : decode cX7_table 81 = .ok (.isub, 1) := by decide +kernel
theorem dX7_table_82 : decode cX7_table 82 = .ok (.isub, 1) := by decide +kernel
theorem dX7_table_83 : decode cX7_table 83 = .ok (.ireturn, 1) := by decide +kernel
theorem dX7_table_84 : decode cX7_table 84 = .ok (.aload_n 0, 1) := by decide +kernel
theorem dX7_table_85 : decode cX7_table 85 = .ok (.invokevirtual 105, 3) := by decide +kernel
theorem dX7_table_88 : decode cX7_table 88 = .ok (.aload_n 0, 1) := by decide +kernel
theorem dX7_table_89 : decode cX7_table 89 = .ok (.getfield 78, 3) := by decide +kernel
theorem dX7_table_92 : decode cX7_table 92 = .ok (.ireturn, 1) := by decide +kernel
theorem dX7_takeTable_0 : decode cX7_takeTable 0 = .ok (.aload_n 0, 1) := by decide +kernel
theorem dX7_takeTable_1 : decode cX7_takeTable 1 = .ok (.aload_n 0, 1) := by decide +kernel
theorem dX7_takeTable_2 : decode cX7_takeTable 2 = .ok (.getfield 108, 3) := by decide +kernel
theorem dX7_takeTable_5 : decode cX7_takeTable 5 = .ok (.putfield 111, 3) := by decide +kernel
theorem dX7_takeTable_8 : decode cX7_takeTable 8 = .ok (.aload_n 0, 1) := by decide +kernel
theorem dX7_takeTable_9 : decode cX7_takeTable 9 = .ok (.aload_n 0, 1) := by decide +kernel
theorem dX7_takeTable_10 : decode cX7_takeTable 10 = .ok (.getfield 114, 3) := by decide +kernel
theorem dX7_takeTable_13 : decode cX7_takeTable 13 = .ok (.putfield 78, 3) := by decide +kernel
theorem dX7_takeTable_16 : decode cX7_takeTable 16 = .ok (.iconst 0, 1) := by decide +kernel
theorem dX7_takeTable_17 : decode cX7_takeTable 17 = .ok (.istore_n 1, 1) := by decide +kernel
theorem dX7_takeTable_18 : decode cX7_takeTable 18 = .ok (.iload_n 1, 1) := by decide +kernel
theorem dX7_takeTable_19 : decode cX7_takeTable 19 = .ok (.aload_n 0, 1) := by decide +kernel
theorem dX7_takeTable_20 : decode cX7_takeTable 20 = .ok (.getfield 78, 3) := by decide +kernel
theorem dX7_takeTable_23 : decode cX7_takeTable 23 = .ok (.if_icmp .ge 45, 3) := by decide +kernel
theorem dX7_takeTable_26 : decode cX7_takeTable 26 = .ok (.aload_n 0, 1) := by decide +kernel
theorem dX7_takeTable_27 : decode cX7_takeTable 27 = .ok (.getfield 19, 3) := by decide +kernel
theorem dX7_takeTable_30 : decode cX7_takeTable 30 = .ok (.iload_n 1, 1) := by decide +kernel
theorem dX7_takeTable_31 : decode cX7_takeTable 31 = .ok (.aload_n 0, 1) := by decide +kernel
theorem dX7_takeTable_32 : decode cX7_takeTable 32 = .ok (.getfield 34, 3) := by decide +kernel
theorem dX7_takeTable_35 : decode cX7_takeTable 35 = .ok (.iload_n 1, 1) := by decide +kernel
theorem dX7_takeTable_36 : decode cX7_takeTable 36 = .ok (.iaload, 1) := by decide +kernel
theorem dX7_takeTable_37 : decode cX7_takeTable 37 = .ok (.iastore, 1) := by decide +kernel
theorem dX7_takeTable_38 : decode cX7_takeTable 38 = .ok (.aload_n 0, 1) := by decide +kernel
theorem dX7_takeTable_39 : decode cX7_takeTable 39 = .ok (.getfield 22, 3) := by decide +kernel
theorem dX7_takeTable_42 : decode cX7_takeTable 42 = .ok (.iload_n 1, 1) := by decide +kernel
theorem dX7_takeTable_43 : decode cX7_takeTable 43 = .ok (.aload_n 0, 1) := by decide +kernel
theorem dX7_takeTable_44 : decode cX7_takeTable 44 = .ok (.getfield 37, 3) := by decide +kernel
theorem dX7_takeTable_47 : decode cX7_takeTable 47 = .ok (.iload_n 1, 1) := by decide +kernel
theorem dX7_takeTable_48 : decode cX7_takeTable 48 = .ok (.iaload, 1) := by decide +kernel
theorem dX7_takeTable_49 : decode cX7_takeTable 49 = .ok (.iastore, 1) := by decide +kernel
theorem dX7_takeTable_50 : decode cX7_takeTable 50 = .ok (.aload_n 0, 1) := by decide +kernel
theorem dX7_takeTable_51 : decode cX7_takeTable 51 = .ok (.getfield 25, 3) := by decide +kernel
theorem dX7_takeTable_54 : decode cX7_takeTable 54 = .ok (.iload_n 1, 1) := by decide +kernel
theorem dX7_takeTable_55 : decode cX7_takeTable 55 = .ok (.aload_n 0, 1) := by decide +kernel
theorem dX7_takeTable_56 : decode cX7_takeTable 56 = .ok (.getfield 40, 3) := by decide +kernel
theorem dX7_takeTable_59 : decode cX7_takeTable 59 = .ok (.iload_n 1, 1) := by decide +kernel
theorem dX7_takeTable_60 : decode cX7_takeTable 60 = .ok (.iaload, 1) := by decide +kernel
theorem dX7_takeTable_61 : decode cX7_takeTable 61 = .ok (.iastore, 1) := by decide +kernel
theorem dX7_takeTable_62 : decode cX7_takeTable 62 = .ok (.iinc 1 1, 3) := by decide +kernel
theorem dX7_takeTable_65 : decode cX7_takeTable 65 = .ok (.goto (-47), 3) := by decide +kernel
theorem dX7_takeTable_68 : decode cX7_takeTable 68 = .ok (.aload_n 0, 1) := by decide +kernel
theorem dX7_takeTable_69 : decode cX7_takeTable 69 = .ok (.aload_n 0, 1) := by decide +kernel
theorem dX7_takeTable_70 : decode cX7_takeTable 70 = .ok (.getfield 117, 3) := by decide +kernel
theorem dX7_takeTable_73 : decode cX7_takeTable 73 = .ok (.putfield 120, 3) := by decide +kernel
theorem dX7_takeTable_76 : decode cX7_takeTable 76 = .ok (.aload_n 0, 1) := by decide +kernel
theorem dX7_takeTable_77 : decode cX7_takeTable 77 = .ok (.aload_n 0, 1) := by decide +kernel
theorem dX7_takeTable_78 : decode cX7_takeTable 78 = .ok (.getfield 123, 3) := by decide +kernel
theorem dX7_takeTable_81 : decode cX7_takeTable 81 = .ok (.putfield 126, 3) := by decide +kernel
theorem dX7_takeTable_84 : decode cX7_takeTable 84 = .ok (.aload_n 0, 1) := by decide +kernel
theorem dX7_takeTable_85 : decode cX7_takeTable 85 = .ok (.aload_n 0, 1) := by decide +kernel
theorem dX7_takeTable_86 : decode cX7_takeTable 86 = .ok (.getfield 129, 3) := by decide +kernel
theorem dX7_takeTable_89 : decode cX7_takeTable 89 = .ok (.putfield 81, 3) := by decide +kernel
theorem dX7_takeTable_92 : decode cX7_takeTable 92 = .ok (.iconst 0, 1) := by decide +kernel
theorem dX7_takeTable_93 : decode cX7_takeTable 93 = .ok (.istore_n 1, 1) := by decide +kernel
theorem dX7_takeTable_94 : decode cX7_takeTable 94 = .ok (.iload_n 1, 1) := by decide +kernel
theorem dX7_takeTable_95 : decode cX7_takeTable 95 = .ok (.aload_n 0, 1) := by decide +kernel
theorem dX7_takeTable_96 : decode cX7_takeTable 96 = .ok (.getfield 81, 3) := by decide +kernel
theorem dX7_takeTable_99 : decode cX7_takeTable 99 = .ok (.if_icmp .ge 33, 3) := by decide +kernel
theorem dX7_takeTable_102 : decode cX7_takeTable 102 = .ok (.aload_n 0, 1) := by decide +kernel
theorem dX7_takeTable_103 : decode cX7_takeTable 103 = .ok (.getfield 28, 3) := by decide +kernel
theorem dX7_takeTable_106 : decode cX7_takeTable 106 = .ok (.iload_n 1, 1) := by decide +kernel
theorem dX7_takeTable_107 : decode cX7_takeTable 107 = .ok (.aload_n 0, 1) := by decide +kernel
theorem dX7_takeTable_108 : decode cX7_takeTable 108 = .ok (.getfield 43, 3) := by decide +kernel
theorem dX7_takeTable_111 : decode cX7_takeTable 111 = .ok (.iload_n 1, 1) := by decide +kernel
theorem dX7_takeTable_112 : decode cX7_takeTable 112 = .ok (.iaload, 1) := by decide +kernel
theorem dX7_takeTable_113 : decode cX7_takeTable 113 = .ok (.iastore, 1) := by decide +kernel
theorem dX7_takeTable_114 : decode cX7_takeTable 114 = .ok (.aload_n 0, 1) := by decide +kernel
theorem dX7_takeTable_115 : decode cX7_takeTable 115 = .ok (.getfield 31, 3) := by decide +kernel
theorem dX7_takeTable_118 : decode cX7_takeTable 118 = .ok (.iload_n 1, 1) := by decide +kernel
theorem dX7_takeTable_119 : decode cX7_takeTable 119 = .ok (.aload_n 0, 1) := by decide +kernel
theorem dX7_takeTable_120 : decode cX7_takeTable 120 = .ok (.getfield 46, 3) := by decide +kernel
theorem dX7_takeTable_123 : decode cX7_takeTable 123 = .ok (.iload_n 1, 1) := by decide +kernel
theorem dX7_takeTable_124 : decode cX7_takeTable 124 = .ok (.iaload, 1) := by decide +kernel
theorem dX7_takeTable_125 : decode cX7_takeTable 125 = .ok (.iastore, 1) := by decide +kernel
theorem dX7_takeTable_126 : decode cX7_takeTable 126 = .ok (.iinc 1 1, 3) := by decide +kernel
theorem dX7_takeTable_129 : decode cX7_takeTable 129 = .ok (.goto (-35), 3) := by decide +kernel
theorem dX7_takeTable_132 : decode cX7_takeTable 132 = .ok (.aload_n 0, 1) := by decide +kernel
theorem dX7_takeTable_133 : decode cX7_takeTable 133 = .ok (.iconst 0, 1) := by decide +kernel
theorem dX7_takeTable_134 : decode cX7_takeTable 134 = .ok (.putfield 132, 3) := by decide +kernel
theorem dX7_takeTable_137 : decode cX7_takeTable 137 = .ok (.return_, 1) := by decide +kernel
theorem dX7_readTable_0 : decode cX7_readTable 0 = .ok (.aload_n 0, 1) := by decide +kernel
theorem dX7_readTable_1 : decode cX7_readTable 1 = .ok (.iconst 0, 1) := by decide +kernel
theorem dX7_readTable_2 : decode cX7_readTable 2 = .ok (.putfield 114, 3) := by decide +kernel
theorem dX7_readTable_5 : decode cX7_readTable 5 = .ok (.aload_n 0, 1) := by decide +kernel
theorem dX7_readTable_6 : decode cX7_readTable 6 = .ok (.iconst 0, 1) := by decide +kernel
theorem dX7_readTable_7 : decode cX7_readTable 7 = .ok (.putfield 129, 3) := by decide +kernel
theorem dX7_readTable_10 : decode cX7_readTable 10 = .ok (.aload_n 0, 1) := by decide +kernel
theorem dX7_readTable_11 : decode cX7_readTable 11 = .ok (.iload_n 1, 1) := by decide +kernel
theorem dX7_readTable_12 : decode cX7_readTable 12 = .ok (.bipush 116, 2) := by decide +kernel
theorem dX7_readTable_14 : decode cX7_readTable 14 = .ok (.invokevirtual 135, 3) := by decide +kernel
theorem dX7_readTable_17 : decode cX7_readTable 17 = .ok (.ifCond .ne 5, 3) := by decide +kernel
theorem dX7_readTable_20 : decode cX7_readTable 20 = .ok (.iconst 0, 1) := by decide +kernel
theorem dX7_readTable_21 : decode cX7_readTable 21 = .ok (.ireturn, 1) := by decide +kernel
theorem dX7_readTable_22 : decode cX7_readTable 22 = .ok (.aload_n 0, 1) := by decide +kernel
theorem dX7_readTable_23 : decode cX7_readTable 23 = .ok (.aload_n 0, 1) := by decide +kernel
theorem dX7_readTable_24 : decode cX7_readTable 24 = .ok (.iload_n 1, 1) := by decide +kernel
theorem dX7_readTable_25 : decode cX7_readTable 25 = .ok (.iconst 3, 1) := by decide +kernel
theorem dX7_readTable_26 : decode cX7_readTable 26 = .ok (.invokevirtual 139, 3) := by decide +kernel
theorem dX7_readTable_29 : decode cX7_readTable 29 = .ok (.putfield 108, 3) := by decide +kernel
theorem dX7_readTable_32 : decode cX7_readTable 32 = .ok (.aload_n 0, 1) := by decide +kernel
theorem dX7_readTable_33 : decode cX7_readTable 33 = .ok (.getfield 108, 3) := by decide +kernel
theorem dX7_readTable_36 : decode cX7_readTable 36 = .ok (.bipush (-9), 2) := by decide +kernel
theorem dX7_readTable_38 : decode cX7_readTable 38 = .ok (.if_icmp .ne 5, 3) := by decide +kernel
theorem dX7_readTable_41 : decode cX7_readTable 41 = .ok (.iconst 0, 1) := by decide +kernel
theorem dX7_readTable_42 : decode cX7_readTable 42 = .ok (.ireturn, 1) := by decide +kernel
theorem dX7_readTable_43 : decode cX7_readTable 43 = .ok (.aload_n 0, 1) := by decide +kernel
theorem dX7_readTable_44 : decode cX7_readTable 44 = .ok (.getfield 114, 3) := by decide +kernel
theorem dX7_readTable_47 : decode cX7_readTable 47 = .ok (.bipush 8, 2) := by decide +kernel
theorem dX7_readTable_49 : decode cX7_readTable 49 = .ok (.if_icmp .ge 23, 3) := by decide +kernel
theorem dX7_readTable_52 : decode cX7_readTable 52 = .ok (.aload_n 0, 1) := by decide +kernel
theorem dX7_readTable_53 : decode cX7_readTable 53 = .ok (.iload_n 1, 1) := by decide +kernel
theorem dX7_readTable_54 : decode cX7_readTable 54 = .ok (.bipush 44, 2) := by decide +kernel
theorem dX7_readTable_56 : decode cX7_readTable 56 = .ok (.invokevirtual 135, 3) := by decide +kernel
theorem dX7_readTable_59 : decode cX7_readTable 59 = .ok (.ifCond .eq 13, 3) := by decide +kernel
theorem dX7_readTable_62 : decode cX7_readTable 62 = .ok (.aload_n 0, 1) := by decide +kernel
theorem dX7_readTable_63 : decode cX7_readTable 63 = .ok (.iload_n 1, 1) := by decide +kernel
theorem dX7_readTable_64 : decode cX7_readTable 64 = .ok (.invokevirtual 143, 3) := by decide +kernel
theorem dX7_readTable_67 : decode cX7_readTable 67 = .ok (.ifCond .ne (-24), 3) := by decide +kernel
theorem dX7_readTable_70 : decode cX7_readTable 70 = .ok (.iconst 0, 1) := by decide +kernel
theorem dX7_readTable_71 : decode cX7_readTable 71 = .ok (.ireturn, 1) := by decide +kernel
theorem dX7_readTable_72 : decode cX7_readTable 72 = .ok (.aload_n 0, 1) := by decide +kernel
theorem dX7_readTable_73 : decode cX7_readTable 73 = .ok (.getfield 114, 3) := by decide +kernel
theorem dX7_readTable_76 : decode cX7_readTable 76 = .ok (.iconst 3, 1) := by decide +kernel
theorem dX7_readTable_77 : decode cX7_readTable 77 = .ok (.if_icmp .lt 13, 3) := by decide +kernel
theorem dX7_readTable_80 : decode cX7_readTable 80 = .ok (.aload_n 0, 1) := by decide +kernel
theorem dX7_readTable_81 : decode cX7_readTable 81 = .ok (.iload_n 1, 1) := by decide +kernel
theorem dX7_readTable_82 : decode cX7_readTable 82 = .ok (.bipush 47, 2) := by decide +kernel
theorem dX7_readTable_84 : decode cX7_readTable 84 = .ok (.invokevirtual 135, 3) := by decide +kernel
theorem dX7_readTable_87 : decode cX7_readTable 87 = .ok (.ifCond .ne 5, 3) := by decide +kernel
theorem dX7_readTable_90 : decode cX7_readTable 90 = .ok (.iconst 0, 1) := by decide +kernel
theorem dX7_readTable_91 : decode cX7_readTable 91 = .ok (.ireturn, 1) := by decide +kernel
theorem dX7_readTable_92 : decode cX7_readTable 92 = .ok (.aload_n 0, 1) := by decide +kernel
theorem dX7_readTable_93 : decode cX7_readTable 93 = .ok (.aload_n 0, 1) := by decide +kernel
theorem dX7_readTable_94 : decode cX7_readTable 94 = .ok (.iload_n 1, 1) := by decide +kernel
theorem dX7_readTable_95 : decode cX7_readTable 95 = .ok (.aload_n 0, 1) := by decide +kernel
theorem dX7_readTable_96 : decode cX7_readTable 96 = .ok (.getfield 114, 3) := by decide +kernel
theorem dX7_readTable_99 : decode cX7_readTable 99 = .ok (.iconst 1, 1) := by decide +kernel
theorem dX7_readTable_100 : decode cX7_readTable 100 = .ok (.isub, 1) := by decide +kernel
theorem dX7_readTable_101 : decode cX7_readTable 101 = .ok (.invokevirtual 139, 3) := by decide +kernel
theorem dX7_readTable_104 : decode cX7_readTable 104 = .ok (.putfield 117, 3) := by decide +kernel
theorem dX7_readTable_107 : decode cX7_readTable 107 = .ok (.aload_n 0, 1) := by decide +kernel
theorem dX7_readTable_108 : decode cX7_readTable 108 = .ok (.getfield 117, 3) := by decide +kernel
theorem dX7_readTable_111 : decode cX7_readTable 111 = .ok (.bipush (-9), 2) := by decide +kernel
theorem dX7_readTable_113 : decode cX7_readTable 113 = .ok (.if_icmp .ne 5, 3) := by decide +kernel
theorem dX7_readTable_116 : decode cX7_readTable 116 = .ok (.iconst 0, 1) := by decide +kernel
theorem dX7_readTable_117 : decode cX7_readTable 117 = .ok (.ireturn, 1) := by decide +kernel
theorem dX7_readTable_118 : decode cX7_readTable 118 = .ok (.aload_n 0, 1) := by decide +kernel
theorem dX7_readTable_119 : decode cX7_readTable 119 = .ok (.getfield 84, 3) := by decide +kernel
theorem dX7_readTable_122 : decode cX7_readTable 122 = .ok (.iload_n 1, 1) := by decide +kernel
theorem dX7_readTable_123 : decode cX7_readTable 123 = .ok (.if_icmp .ge 24, 3) := by decide +kernel
theorem dX7_readTable_126 : decode cX7_readTable 126 = .ok (.aload_n 0, 1) := by decide +kernel
theorem dX7_readTable_127 : decode cX7_readTable 127 = .ok (.getfield 16, 3) := by decide +kernel
theorem dX7_readTable_130 : decode cX7_readTable 130 = .ok (.aload_n 0, 1) := by decide +kernel
theorem dX7_readTable_131 : decode cX7_readTable 131 = .ok (.getfield 84, 3) := by decide +kernel
theorem dX7_readTable_134 : decode cX7_readTable 134 = .ok (.iaload, 1) := by decide +kernel
theorem dX7_readTable_135 : decode cX7_readTable 135 = .ok (.bipush 48, 2) := by decide +kernel
theorem dX7_readTable_137 : decode cX7_readTable 137 = .ok (.aload_n 0, 1) := by decide +kernel
theorem dX7_readTable_138 : decode cX7_readTable 138 = .ok (.getfield 117, 3) := by decide +kernel
theorem dX7_readTable_141 : decode cX7_readTable 141 = .ok (.iadd, 1) := by decide +kernel
theorem dX7_readTable_142 : decode cX7_readTable 142 = .ok (.if_icmp .ne 5, 3) := by decide +kernel
theorem dX7_readTable_145 : decode cX7_readTable 145 = .ok (.iconst 0, 1) := by decide +kernel
theorem dX7_readTable_146 : decode cX7_readTable 146 = .ok (.ireturn, 1) := by decide +kernel
theorem dX7_readTable_147 : decode cX7_readTable 147 = .ok (.aload_n 0, 1) := by decide +kernel
theorem dX7_readTable_148 : decode cX7_readTable 148 = .ok (.aload_n 0, 1) := by decide +kernel
theorem dX7_readTable_149 : decode cX7_readTable 149 = .ok (.iload_n 1, 1) := by decide +kernel
theorem dX7_readTable_150 : decode cX7_readTable 150 = .ok (.aload_n 0, 1) := by decide +kernel
theorem dX7_readTable_151 : decode cX7_readTable 151 = .ok (.getfield 114, 3) := by decide +kernel
theorem dX7_readTable_154 : decode cX7_readTable 154 = .ok (.iconst 1, 1) := by decide +kernel
theorem dX7_readTable_155 : decode cX7_readTable 155 = .ok (.isub, 1) := by decide +kernel
theorem dX7_readTable_156 : decode cX7_readTable 156 = .ok (.invokevirtual 139, 3) := by decide +kernel
theorem dX7_readTable_159 : decode cX7_readTable 159 = .ok (.putfield 123, 3) := by decide +kernel
theorem dX7_readTable_162 : decode cX7_readTable 162 = .ok (.aload_n 0, 1) := by decide +kernel
theorem dX7_readTable_163 : decode cX7_readTable 163 = .ok (.getfield 123, 3) := by decide +kernel
theorem dX7_readTable_166 : decode cX7_readTable 166 = .ok (.bipush (-9), 2) := by decide +kernel
theorem dX7_readTable_168 : decode cX7_readTable 168 = .ok (.if_icmp .ne 5, 3) := by decide +kernel
theorem dX7_readTable_171 : decode cX7_readTable 171 = .ok (.iconst 0, 1) := by decide +kernel
theorem dX7_readTable_172 : decode cX7_readTable 172 = .ok (.ireturn, 1) := by decide +kernel
theorem dX7_readTable_173 : decode cX7_readTable 173 = .ok (.aload_n 0, 1) := by decide +kernel
theorem dX7_readTable_174 : decode cX7_readTable 174 = .ok (.getfield 129, 3) := by decide +kernel
theorem dX7_readTable_177 : decode cX7_readTable 177 = .ok (.ifCond .eq 20, 3) := by decide +kernel
theorem dX7_readTable_180 : decode cX7_readTable 180 = .ok (.aload_n 0, 1) := by decide +kernel
theorem dX7_readTable_181 : decode cX7_readTable 181 = .ok (.getfield 129, 3) := by decide +kernel
theorem dX7_readTable_184 : decode cX7_readTable 184 = .ok (.bipush 6, 2) := by decide +kernel
theorem dX7_readTable_186 : decode cX7_readTable 186 = .ok (.if_icmp .ge 31, 3) := by decide +kernel
theorem dX7_readTable_189 : decode cX7_readTable 189 = .ok (.aload_n 0, 1) := by decide +kernel
theorem dX7_readTable_190 : decode cX7_readTable 190 = .ok (.getfield 84, 3) := by decide +kernel
theorem dX7_readTable_193 : decode cX7_readTable 193 = .ok (.iload_n 1, 1) := by decide +kernel
theorem dX7_readTable_194 : decode cX7_readTable 194 = .ok (.if_icmp .ge 23, 3) := by decide +kernel
theorem dX7_readTable_197 : decode cX7_readTable 197 = .ok (.aload_n 0, 1) := by decide +kernel
theorem dX7_readTable_198 : decode cX7_readTable 198 = .ok (.iload_n 1, 1) := by decide +kernel
theorem dX7_readTable_199 : decode cX7_readTable 199 = .ok (.bipush 59, 2) := by decide +kernel
theorem dX7_readTable_201 : decode cX7_readTable 201 = .ok (.invokevirtual 135, 3) := by decide +kernel
theorem dX7_readTable_204 : decode cX7_readTable 204 = .ok (.ifCond .eq 11, 3) := by decide +kernel
theorem dX7_readTable_207 : decode cX7_readTable 207 = .ok (.aload_n 0, 1) := by decide +kernel
theorem dX7_readTable_208 : decode cX7_readTable 208 = .ok (.iload_n 1, 1) := by decide +kernel
theorem dX7_readTable_209 : decode cX7_readTable 209 = .ok (.invokevirtual 146, 3) := by decide +kernel
theorem dX7_readTable_212 : decode cX7_readTable 212 = .ok (.ifCond .ne (-39), 3) := by decide +kernel
theorem dX7_readTable_215 : decode cX7_readTable 215 = .ok (.iconst 0, 1) := by decide +kernel
theorem dX7_readTable_216 : decode cX7_readTable 216 = .ok (.ireturn, 1) := by decide +kernel
theorem dX7_readTable_217 : decode cX7_readTable 217 = .ok (.aload_n 0, 1) := by decide +kernel
theorem dX7_readTable_218 : decode cX7_readTable 218 = .ok (.getfield 84, 3) := by decide +kernel
theorem dX7_readTable_221 : decode cX7_readTable 221 = .ok (.iload_n 1, 1) := by decide +kernel
theorem dX7_readTable_222 : decode cX7_readTable 222 = .ok (.if_icmp .ne 7, 3) := by decide +kernel
theorem dX7_readTable_225 : decode cX7_readTable 225 = .ok (.iconst 1, 1) := by decide +kernel
theorem dX7_readTable_226 : decode cX7_readTable 226 = .ok (.goto 4, 3) := by decide +kernel
theorem dX7_readTable_229 : decode cX7_readTable 229 = .ok (.iconst 0, 1) := by decide +kernel
theorem dX7_readTable_230 : decode cX7_readTable 230 = .ok (.ireturn, 1) := by decide +kernel
theorem dX7_readGuest_0 : decode cX7_readGuest 0 = .ok (.aload_n 0, 1) := by decide +kernel
theorem dX7_readGuest_1 : decode cX7_readGuest 1 = .ok (.getfield 84, 3) := by decide +kernel
theorem dX7_readGuest_4 : decode cX7_readGuest 4 = .ok (.iload_n 1, 1) := by decide +kernel
theorem dX7_readGuest_5 : decode cX7_readGuest 5 = .ok (.if_icmp .ge 15, 3) := by decide +kernel
theorem dX7_readGuest_8 : decode cX7_readGuest 8 = .ok (.aload_n 0, 1) := by decide +kernel
theorem dX7_readGuest_9 : decode cX7_readGuest 9 = .ok (.getfield 16, 3) := by decide +kernel
theorem dX7_readGuest_12 : decode cX7_readGuest 12 = .ok (.aload_n 0, 1) := by decide +kernel
theorem dX7_readGuest_13 : decode cX7_readGuest 13 = .ok (.getfield 84, 3) := by decide +kernel
theorem dX7_readGuest_16 : decode cX7_readGuest 16 = .ok (.iaload, 1) := by decide +kernel
theorem dX7_readGuest_17 : decode cX7_readGuest 17 = .ok (.goto 4, 3) := by decide +kernel
theorem dX7_readGuest_20 : decode cX7_readGuest 20 = .ok (.iconst 0, 1) := by decide +kernel
theorem dX7_readGuest_21 : decode cX7_readGuest 21 = .ok (.istore_n 2, 1) := by decide +kernel
theorem dX7_readGuest_22 : decode cX7_readGuest 22 = .ok (.aload_n 0, 1) := by decide +kernel
theorem dX7_readGuest_23 : decode cX7_readGuest 23 = .ok (.getfield 34, 3) := by decide +kernel
theorem dX7_readGuest_26 : decode cX7_readGuest 26 = .ok (.aload_n 0, 1) := by decide +kernel
theorem dX7_readGuest_27 : decode cX7_readGuest 27 = .ok (.getfield 114, 3) := by decide +kernel
theorem dX7_readGuest_30 : decode cX7_readGuest 30 = .ok (.iload_n 2, 1) := by decide +kernel
theorem dX7_readGuest_31 : decode cX7_readGuest 31 = .ok (.bipush 103, 2) := by decide +kernel
theorem dX7_readGuest_33 : decode cX7_readGuest 33 = .ok (.if_icmp .ne 7, 3) := by decide +kernel
theorem dX7_readGuest_36 : decode cX7_readGuest 36 = .ok (.iconst 0, 1) := by decide +kernel
theorem dX7_readGuest_37 : decode cX7_readGuest 37 = .ok (.goto 25, 3) := by decide +kernel
theorem dX7_readGuest_40 : decode cX7_readGuest 40 = .ok (.iload_n 2, 1) := by decide +kernel
theorem dX7_readGuest_41 : decode cX7_readGuest 41 = .ok (.bipush 97, 2) := by decide +kernel
theorem dX7_readGuest_43 : decode cX7_readGuest 43 = .ok (.if_icmp .ne 7, 3) := by decide +kernel
theorem dX7_readGuest_46 : decode cX7_readGuest 46 = .ok (.iconst 1, 1) := by decide +kernel
theorem dX7_readGuest_47 : decode cX7_readGuest 47 = .ok (.goto 15, 3) := by decide +kernel
theorem dX7_readGuest_50 : decode cX7_readGuest 50 = .ok (.iload_n 2, 1) := by decide +kernel
theorem dX7_readGuest_51 : decode cX7_readGuest 51 = .ok (.bipush 99, 2) := by decide +kernel
theorem dX7_readGuest_53 : decode cX7_readGuest 53 = .ok (.if_icmp .ne 7, 3) := by decide +kernel
theorem dX7_readGuest_56 : decode cX7_readGuest 56 = .ok (.iconst 2, 1) := by decide +kernel
theorem dX7_readGuest_57 : decode cX7_readGuest 57 = .ok (.goto 5, 3) := by decide +kernel
theorem dX7_readGuest_60 : decode cX7_readGuest 60 = .ok (.bipush (-9), 2) := by decide +kernel
theorem dX7_readGuest_62 : decode cX7_readGuest 62 = .ok (.iastore, 1) := by decide +kernel
theorem dX7_readGuest_63 : decode cX7_readGuest 63 = .ok (.aload_n 0, 1) := by decide +kernel
theorem dX7_readGuest_64 : decode cX7_readGuest 64 = .ok (.getfield 34, 3) := by decide +kernel
theorem dX7_readGuest_67 : decode cX7_readGuest 67 = .ok (.aload_n 0, 1) := by decide +kernel
theorem dX7_readGuest_68 : decode cX7_readGuest 68 = .ok (.getfield 114, 3) := by decide +kernel
theorem dX7_readGuest_71 : decode cX7_readGuest 71 = .ok (.iaload, 1) := by decide +kernel
theorem dX7_readGuest_72 : decode cX7_readGuest 72 = .ok (.bipush (-9), 2) := by decide +kernel
theorem dX7_readGuest_74 : decode cX7_readGuest 74 = .ok (.if_icmp .ne 5, 3) := by decide +kernel
theorem dX7_readGuest_77 : decode cX7_readGuest 77 = .ok (.iconst 0, 1) := by decide +kernel
theorem dX7_readGuest_78 : decode cX7_readGuest 78 = .ok (.ireturn, 1) := by decide +kernel
theorem dX7_readGuest_79 : decode cX7_readGuest 79 = .ok (.aload_n 0, 1) := by decide +kernel
theorem dX7_readGuest_80 : decode cX7_readGuest 80 = .ok (.dup, 1) := by decide +kernel
theorem dX7_readGuest_81 : decode cX7_readGuest 81 = .ok (.getfield 84, 3) := by decide +kernel
theorem dX7_readGuest_84 : decode cX7_readGuest 84 = .ok (.iconst 1, 1) := by decide +kernel
theorem dX7_readGuest_85 : decode cX7_readGuest 85 = .ok (.iadd, 1) := by decide +kernel
theorem dX7_readGuest_86 : decode cX7_readGuest 86 = .ok (.putfield 84, 3) := by decide +kernel
theorem dX7_readGuest_89 : decode cX7_readGuest 89 = .ok (.aload_n 0, 1) := by decide +kernel
theorem dX7_readGuest_90 : decode cX7_readGuest 90 = .ok (.getfield 37, 3) := by decide +kernel
theorem dX7_readGuest_93 : decode cX7_readGuest 93 = .ok (.aload_n 0, 1) := by decide +kernel
theorem dX7_readGuest_94 : decode cX7_readGuest 94 = .ok (.getfield 114, 3) := by decide +kernel
theorem dX7_readGuest_97 : decode cX7_readGuest 97 = .ok (.aload_n 0, 1) := by decide +kernel
theorem dX7_readGuest_98 : decode cX7_readGuest 98 = .ok (.iload_n 1, 1) := by decide +kernel
theorem dX7_readGuest_99 : decode cX7_readGuest 99 = .ok (.bipush 9, 2) := by decide +kernel
theorem dX7_readGuest_101 : decode cX7_readGuest 101 = .ok (.invokevirtual 139, 3) := by decide +kernel
theorem dX7_readGuest_104 : decode cX7_readGuest 104 = .ok (.iastore, 1) := by decide +kernel
theorem dX7_readGuest_105 : decode cX7_readGuest 105 = .ok (.aload_n 0, 1) := by decide +kernel
theorem dX7_readGuest_106 : decode cX7_readGuest 106 = .ok (.getfield 37, 3) := by decide +kernel
theorem dX7_readGuest_109 : decode cX7_readGuest 109 = .ok (.aload_n 0, 1) := by decide +kernel
theorem dX7_readGuest_110 : decode cX7_readGuest 110 = .ok (.getfield 114, 3) := by decide +kernel
theorem dX7_readGuest_113 : decode cX7_readGuest 113 = .ok (.iaload, 1) := by decide +kernel
theorem dX7_readGuest_114 : decode cX7_readGuest 114 = .ok (.bipush (-9), 2) := by decide +kernel
theorem dX7_readGuest_116 : decode cX7_readGuest 116 = .ok (.if_icmp .ne 5, 3) := by decide +kernel
theorem dX7_readGuest_119 : decode cX7_readGuest 119 = .ok (.iconst 0, 1) := by decide +kernel
theorem dX7_readGuest_120 : decode cX7_readGuest 120 = .ok (.ireturn, 1) := by decide +kernel
theorem dX7_readGuest_121 : decode cX7_readGuest 121 = .ok (.aload_n 0, 1) := by decide +kernel
theorem dX7_readGuest_122 : decode cX7_readGuest 122 = .ok (.getfield 40, 3) := by decide +kernel
theorem dX7_readGuest_125 : decode cX7_readGuest 125 = .ok (.aload_n 0, 1) := by decide +kernel
theorem dX7_readGuest_126 : decode cX7_readGuest 126 = .ok (.getfield 114, 3) := by decide +kernel
theorem dX7_readGuest_129 : decode cX7_readGuest 129 = .ok (.aload_n 0, 1) := by decide +kernel
theorem dX7_readGuest_130 : decode cX7_readGuest 130 = .ok (.iload_n 1, 1) := by decide +kernel
theorem dX7_readGuest_131 : decode cX7_readGuest 131 = .ok (.iconst 3, 1) := by decide +kernel
theorem dX7_readGuest_132 : decode cX7_readGuest 132 = .ok (.invokevirtual 139, 3) := by decide +kernel
theorem dX7_readGuest_135 : decode cX7_readGuest 135 = .ok (.iastore, 1) := by decide +kernel
theorem dX7_readGuest_136 : decode cX7_readGuest 136 = .ok (.aload_n 0, 1) := by decide +kernel
theorem dX7_readGuest_137 : decode cX7_readGuest 137 = .ok (.dup, 1) := by decide +kernel
theorem dX7_readGuest_138 : decode cX7_readGuest 138 = .ok (.getfield 114, 3) := by decide +kernel
theorem dX7_readGuest_141 : decode cX7_readGuest 141 = .ok (.iconst 1, 1) := by decide +kernel
theorem dX7_readGuest_142 : decode cX7_readGuest 142 = .ok (.iadd, 1) := by decide +kernel
theorem dX7_readGuest_143 : decode cX7_readGuest 143 = .ok (.putfield 114, 3) := by decide +kernel
theorem dX7_readGuest_146 : decode cX7_readGuest 146 = .ok (.aload_n 0, 1) := by decide +kernel
theorem dX7_readGuest_147 : decode cX7_readGuest 147 = .ok (.getfield 40, 3) := by decide +kernel
theorem dX7_readGuest_150 : decode cX7_readGuest 150 = .ok (.aload_n 0, 1) := by decide +kernel
theorem dX7_readGuest_151 : decode cX7_readGuest 151 = .ok (.getfield 114, 3) := by decide +kernel
theorem dX7_readGuest_154 : decode cX7_readGuest 154 = .ok (.iconst 1, 1) := by decide +kernel
theorem dX7_readGuest_155 : decode cX7_readGuest 155 = .ok (.isub, 1) := by decide +kernel
theorem dX7_readGuest_156 : decode cX7_readGuest 156 = .ok (.iaload, 1) := by decide +kernel
theorem dX7_readGuest_157 : decode cX7_readGuest 157 = .ok (.bipush (-9), 2) := by decide +kernel
theorem dX7_readGuest_159 : decode cX7_readGuest 159 = .ok (.if_icmp .eq 7, 3) := by decide +kernel
theorem dX7_readGuest_162 : decode cX7_readGuest 162 = .ok (.iconst 1, 1) := by decide +kernel
theorem dX7_readGuest_163 : decode cX7_readGuest 163 = .ok (.goto 4, 3) := by decide +kernel
theorem dX7_readGuest_166 : decode cX7_readGuest 166 = .ok (.iconst 0, 1) := by decide +kernel
theorem dX7_readGuest_167 : decode cX7_readGuest 167 = .ok (.ireturn, 1) := by decide +kernel
theorem dX7_readDish_0 : decode cX7_readDish 0 = .ok (.aload_n 0, 1) := by decide +kernel
theorem dX7_readDish_1 : decode cX7_readDish 1 = .ok (.getfield 43, 3) := by decide +kernel
theorem dX7_readDish_4 : decode cX7_readDish 4 = .ok (.aload_n 0, 1) := by decide +kernel
theorem dX7_readDish_5 : decode cX7_readDish 5 = .ok (.getfield 129, 3) := by decide +kernel
theorem dX7_readDish_8 : decode cX7_readDish 8 = .ok (.aload_n 0, 1) := by decide +kernel
theorem dX7_readDish_9 : decode cX7_readDish 9 = .ok (.iload_n 1, 1) := by decide +kernel
theorem dX7_readDish_10 : decode cX7_readDish 10 = .ok (.aload_n 0, 1) := by decide +kernel
theorem dX7_readDish_11 : decode cX7_readDish 11 = .ok (.getfield 114, 3) := by decide +kernel
theorem dX7_readDish_14 : decode cX7_readDish 14 = .ok (.iconst 1, 1) := by decide +kernel
theorem dX7_readDish_15 : decode cX7_readDish 15 = .ok (.isub, 1) := by decide +kernel
theorem dX7_readDish_16 : decode cX7_readDish 16 = .ok (.invokevirtual 139, 3) := by decide +kernel
theorem dX7_readDish_19 : decode cX7_readDish 19 = .ok (.iastore, 1) := by decide +kernel
theorem dX7_readDish_20 : decode cX7_readDish 20 = .ok (.aload_n 0, 1) := by decide +kernel
theorem dX7_readDish_21 : decode cX7_readDish 21 = .ok (.getfield 43, 3) := by decide +kernel
theorem dX7_readDish_24 : decode cX7_readDish 24 = .ok (.aload_n 0, 1) := by decide +kernel
theorem dX7_readDish_25 : decode cX7_readDish 25 = .ok (.getfield 129, 3) := by decide +kernel
theorem dX7_readDish_28 : decode cX7_readDish 28 = .ok (.iaload, 1) := by decide +kernel
theorem dX7_readDish_29 : decode cX7_readDish 29 = .ok (.bipush (-9), 2) := by decide +kernel
theorem dX7_readDish_31 : decode cX7_readDish 31 = .ok (.if_icmp .ne 5, 3) := by decide +kernel
theorem dX7_readDish_34 : decode cX7_readDish 34 = .ok (.iconst 0, 1) := by decide +kernel
theorem dX7_readDish_35 : decode cX7_readDish 35 = .ok (.ireturn, 1) := by decide +kernel
theorem dX7_readDish_36 : decode cX7_readDish 36 = .ok (.aload_n 0, 1) := by decide +kernel
theorem dX7_readDish_37 : decode cX7_readDish 37 = .ok (.getfield 46, 3) := by decide +kernel
theorem dX7_readDish_40 : decode cX7_readDish 40 = .ok (.aload_n 0, 1) := by decide +kernel
theorem dX7_readDish_41 : decode cX7_readDish 41 = .ok (.getfield 129, 3) := by decide +kernel
theorem dX7_readDish_44 : decode cX7_readDish 44 = .ok (.aload_n 0, 1) := by decide +kernel
theorem dX7_readDish_45 : decode cX7_readDish 45 = .ok (.iload_n 1, 1) := by decide +kernel
theorem dX7_readDish_46 : decode cX7_readDish 46 = .ok (.bipush 9, 2) := by decide +kernel
theorem dX7_readDish_48 : decode cX7_readDish 48 = .ok (.invokevirtual 139, 3) := by decide +kernel
theorem dX7_readDish_51 : decode cX7_readDish 51 = .ok (.iastore, 1) := by decide +kernel
theorem dX7_readDish_52 : decode cX7_readDish 52 = .ok (.aload_n 0, 1) := by decide +kernel
theorem dX7_readDish_53 : decode cX7_readDish 53 = .ok (.dup, 1) := by decide +kernel
theorem dX7_readDish_54 : decode cX7_readDish 54 = .ok (.getfield 129, 3) := by decide +kernel
theorem dX7_readDish_57 : decode cX7_readDish 57 = .ok (.iconst 1, 1) := by decide +kernel
theorem dX7_readDish_58 : decode cX7_readDish 58 = .ok (.iadd, 1) := by decide +kernel
theorem dX7_readDish_59 : decode cX7_readDish 59 = .ok (.putfield 129, 3) := by decide +kernel
theorem dX7_readDish_62 : decode cX7_readDish 62 = .ok (.aload_n 0, 1) := by decide +kernel
theorem dX7_readDish_63 : decode cX7_readDish 63 = .ok (.getfield 46, 3) := by decide +kernel
theorem dX7_readDish_66 : decode cX7_readDish 66 = .ok (.aload_n 0, 1) := by decide +kernel
theorem dX7_readDish_67 : decode cX7_readDish 67 = .ok (.getfield 129, 3) := by decide +kernel
theorem dX7_readDish_70 : decode cX7_readDish 70 = .ok (.iconst 1, 1) := by decide +kernel
theorem dX7_readDish_71 : decode cX7_readDish 71 = .ok (.isub, 1) := by decide +kernel
theorem dX7_readDish_72 : decode cX7_readDish 72 = .ok (.iaload, 1) := by decide +kernel
theorem dX7_readDish_73 : decode cX7_readDish 73 = .ok (.bipush (-9), 2) := by decide +kernel
theorem dX7_readDish_75 : decode cX7_readDish 75 = .ok (.if_icmp .eq 7, 3) := by decide +kernel
theorem dX7_readDish_78 : decode cX7_readDish 78 = .ok (.iconst 1, 1) := by decide +kernel
theorem dX7_readDish_79 : decode cX7_readDish 79 = .ok (.goto 4, 3) := by decide +kernel
theorem dX7_readDish_82 : decode cX7_readDish 82 = .ok (.iconst 0, 1) := by decide +kernel
theorem dX7_readDish_83 : decode cX7_readDish 83 = .ok (.ireturn, 1) := by decide +kernel
theorem dX7_minutesOf_0 : decode cX7_minutesOf 0 = .ok (.aload_n 0, 1) := by decide +kernel
theorem dX7_minutesOf_1 : decode cX7_minutesOf 1 = .ok (.getfield 22, 3) := by decide +kernel
theorem dX7_minutesOf_4 : decode cX7_minutesOf 4 = .ok (.iload_n 1, 1) := by decide +kernel
theorem dX7_minutesOf_5 : decode cX7_minutesOf 5 = .ok (.iaload, 1) := by decide +kernel
theorem dX7_minutesOf_6 : decode cX7_minutesOf 6 = .ok (.aload_n 0, 1) := by decide +kernel
theorem dX7_minutesOf_7 : decode cX7_minutesOf 7 = .ok (.getfield 111, 3) := by decide +kernel
theorem dX7_minutesOf_10 : decode cX7_minutesOf 10 = .ok (.iadd, 1) := by decide +kernel
theorem dX7_minutesOf_11 : decode cX7_minutesOf 11 = .ok (.istore_n 2, 1) := by decide +kernel
theorem dX7_minutesOf_12 : decode cX7_minutesOf 12 = .ok (.aload_n 0, 1) := by decide +kernel
theorem dX7_minutesOf_13 : decode cX7_minutesOf 13 = .ok (.getfield 19, 3) := by decide +kernel
theorem dX7_minutesOf_16 : decode cX7_minutesOf 16 = .ok (.iload_n 1, 1) := by decide +kernel
theorem dX7_minutesOf_17 : decode cX7_minutesOf 17 = .ok (.iaload, 1) := by decide +kernel
theorem dX7_minutesOf_18 : decode cX7_minutesOf 18 = .ok (.iconst 1, 1) := by decide +kernel
theorem dX7_minutesOf_19 : decode cX7_minutesOf 19 = .ok (.if_icmp .ne 15, 3) := by decide +kernel
theorem dX7_minutesOf_22 : decode cX7_minutesOf 22 = .ok (.iload_n 2, 1) := by decide +kernel
theorem dX7_minutesOf_23 : decode cX7_minutesOf 23 = .ok (.ifCond .le 9, 3) := by decide +kernel
theorem dX7_minutesOf_26 : decode cX7_minutesOf 26 = .ok (.iload_n 2, 1) := by decide +kernel
theorem dX7_minutesOf_27 : decode cX7_minutesOf 27 = .ok (.iconst 1, 1) := by decide +kernel
theorem dX7_minutesOf_28 : decode cX7_minutesOf 28 = .ok (.isub, 1) := by decide +kernel
theorem dX7_minutesOf_29 : decode cX7_minutesOf 29 = .ok (.goto 4, 3) := by decide +kernel
theorem dX7_minutesOf_32 : decode cX7_minutesOf 32 = .ok (.iconst 0, 1) := by decide +kernel
theorem dX7_minutesOf_33 : decode cX7_minutesOf 33 = .ok (.ireturn, 1) := by decide +kernel
theorem dX7_minutesOf_34 : decode cX7_minutesOf 34 = .ok (.aload_n 0, 1) := by decide +kernel
theorem dX7_minutesOf_35 : decode cX7_minutesOf 35 = .ok (.getfield 19, 3) := by decide +kernel
theorem dX7_minutesOf_38 : decode cX7_minutesOf 38 = .ok (.iload_n 1, 1) := by decide +kernel
theorem dX7_minutesOf_39 : decode cX7_minutesOf 39 = .ok (.iaload, 1) := by decide +kernel
theorem dX7_minutesOf_40 : decode cX7_minutesOf 40 = .ok (.ifCond .ne 7, 3) := by decide +kernel
theorem dX7_minutesOf_43 : decode cX7_minutesOf 43 = .ok (.iload_n 2, 1) := by decide +kernel
theorem dX7_minutesOf_44 : decode cX7_minutesOf 44 = .ok (.goto 6, 3) := by decide +kernel
theorem dX7_minutesOf_47 : decode cX7_minutesOf 47 = .ok (.iload_n 2, 1) := by decide +kernel
theorem dX7_minutesOf_48 : decode cX7_minutesOf 48 = .ok (.iconst 2, 1) := by decide +kernel
theorem dX7_minutesOf_49 : decode cX7_minutesOf 49 = .ok (.idiv, 1) := by decide +kernel
theorem dX7_minutesOf_50 : decode cX7_minutesOf 50 = .ok (.ireturn, 1) := by decide +kernel
theorem dX7_whoseBy_0 : decode cX7_whoseBy 0 = .ok (.iload_n 1, 1) := by decide +kernel
theorem dX7_whoseBy_1 : decode cX7_whoseBy 1 = .ok (.iload_n 2, 1) := by decide +kernel
theorem dX7_whoseBy_2 : decode cX7_whoseBy 2 = .ok (.if_icmp .eq 8, 3) := by decide +kernel
theorem dX7_whoseBy_5 : decode cX7_whoseBy 5 = .ok (.iload_n 1, 1) := by decide +kernel
theorem dX7_whoseBy_6 : decode cX7_whoseBy 6 = .ok (.iload_n 3, 1) := by decide +kernel
theorem dX7_whoseBy_7 : decode cX7_whoseBy 7 = .ok (.if_icmp .ne 6, 3) := by decide +kernel
theorem dX7_whoseBy_10 : decode cX7_whoseBy 10 = .ok (.bipush (-9), 2) := by decide +kernel
theorem dX7_whoseBy_12 : decode cX7_whoseBy 12 = .ok (.ireturn, 1) := by decide +kernel
theorem dX7_whoseBy_13 : decode cX7_whoseBy 13 = .ok (.iload_n 1, 1) := by decide +kernel
theorem dX7_whoseBy_14 : decode cX7_whoseBy 14 = .ok (.iload_n 2, 1) := by decide +kernel
theorem dX7_whoseBy_15 : decode cX7_whoseBy 15 = .ok (.isub, 1) := by decide +kernel
theorem dX7_whoseBy_16 : decode cX7_whoseBy 16 = .ok (.aload_n 0, 1) := by decide +kernel
theorem dX7_whoseBy_17 : decode cX7_whoseBy 17 = .ok (.getfield 78, 3) := by decide +kernel
theorem dX7_whoseBy_20 : decode cX7_whoseBy 20 = .ok (.iadd, 1) := by decide +kernel
theorem dX7_whoseBy_21 : decode cX7_whoseBy 21 = .ok (.aload_n 0, 1) := by decide +kernel
theorem dX7_whoseBy_22 : decode cX7_whoseBy 22 = .ok (.getfield 78, 3) := by decide +kernel
theorem dX7_whoseBy_25 : decode cX7_whoseBy 25 = .ok (.irem, 1) := by decide +kernel
theorem dX7_whoseBy_26 : decode cX7_whoseBy 26 = .ok (.istore 4, 2) := by decide +kernel
theorem dX7_whoseBy_28 : decode cX7_whoseBy 28 = .ok (.iload_n 3, 1) := by decide +kernel
theorem dX7_whoseBy_29 : decode cX7_whoseBy 29 = .ok (.iload_n 2, 1) := by decide +kernel
theorem dX7_whoseBy_30 : decode cX7_whoseBy 30 = .ok (.isub, 1) := by decide +kernel
theorem dX7_whoseBy_31 : decode cX7_whoseBy 31 = .ok (.aload_n 0, 1) := by decide +kernel
theorem dX7_whoseBy_32 : decode cX7_whoseBy 32 = .ok (.getfield 78, 3) := by decide +kernel
theorem dX7_whoseBy_35 : decode cX7_whoseBy 35 = .ok (.iadd, 1) := by decide +kernel
theorem dX7_whoseBy_36 : decode cX7_whoseBy 36 = .ok (.aload_n 0, 1) := by decide +kernel
theorem dX7_whoseBy_37 : decode cX7_whoseBy 37 = .ok (.getfield 78, 3) := by decide +kernel
theorem dX7_whoseBy_40 : decode cX7_whoseBy 40 = .ok (.irem, 1) := by decide +kernel
theorem dX7_whoseBy_41 : decode cX7_whoseBy 41 = .ok (.istore 5, 2) := by decide +kernel
theorem dX7_whoseBy_43 : decode cX7_whoseBy 43 = .ok (.iload 4, 2) := by decide +kernel
theorem dX7_whoseBy_45 : decode cX7_whoseBy 45 = .ok (.iload 5, 2) := by decide +kernel
theorem dX7_whoseBy_47 : decode cX7_whoseBy 47 = .ok (.if_icmp .ge 7, 3) := by decide +kernel
theorem dX7_whoseBy_50 : decode cX7_whoseBy 50 = .ok (.iconst 0, 1) := by decide +kernel
theorem dX7_whoseBy_51 : decode cX7_whoseBy 51 = .ok (.goto 4, 3) := by decide +kernel
theorem dX7_whoseBy_54 : decode cX7_whoseBy 54 = .ok (.iconst 1, 1) := by decide +kernel
theorem dX7_whoseBy_55 : decode cX7_whoseBy 55 = .ok (.ireturn, 1) := by decide +kernel
theorem dX7_landBy_0 : decode cX7_landBy 0 = .ok (.iconst 0, 1) := by decide +kernel
theorem dX7_landBy_1 : decode cX7_landBy 1 = .ok (.istore 4, 2) := by decide +kernel
theorem dX7_landBy_3 : decode cX7_landBy 3 = .ok (.iconst 0, 1) := by decide +kernel
theorem dX7_landBy_4 : decode cX7_landBy 4 = .ok (.istore 5, 2) := by decide +kernel
theorem dX7_landBy_6 : decode cX7_landBy 6 = .ok (.iload 5, 2) := by decide +kernel
theorem dX7_landBy_8 : decode cX7_landBy 8 = .ok (.aload_n 0, 1) := by decide +kernel
theorem dX7_landBy_9 : decode cX7_landBy 9 = .ok (.getfield 81, 3) := by decide +kernel
theorem dX7_landBy_12 : decode cX7_landBy 12 = .ok (.if_icmp .ge 42, 3) := by decide +kernel
theorem dX7_landBy_15 : decode cX7_landBy 15 = .ok (.iload 4, 2) := by decide +kernel
theorem dX7_landBy_17 : decode cX7_landBy 17 = .ok (.aload_n 0, 1) := by decide +kernel
theorem dX7_landBy_18 : decode cX7_landBy 18 = .ok (.aload_n 0, 1) := by decide +kernel
theorem dX7_landBy_19 : decode cX7_landBy 19 = .ok (.getfield 28, 3) := by decide +kernel
theorem dX7_landBy_22 : decode cX7_landBy 22 = .ok (.iload 5, 2) := by decide +kernel
theorem dX7_landBy_24 : decode cX7_landBy 24 = .ok (.iaload, 1) := by decide +kernel
theorem dX7_landBy_25 : decode cX7_landBy 25 = .ok (.iload_n 2, 1) := by decide +kernel
theorem dX7_landBy_26 : decode cX7_landBy 26 = .ok (.iload_n 3, 1) := by decide +kernel
theorem dX7_landBy_27 : decode cX7_landBy 27 = .ok (.invokevirtual 149, 3) := by decide +kernel
theorem dX7_landBy_30 : decode cX7_landBy 30 = .ok (.iload_n 1, 1) := by decide +kernel
theorem dX7_landBy_31 : decode cX7_landBy 31 = .ok (.if_icmp .ne 13, 3) := by decide +kernel
theorem dX7_landBy_34 : decode cX7_landBy 34 = .ok (.aload_n 0, 1) := by decide +kernel
theorem dX7_landBy_35 : decode cX7_landBy 35 = .ok (.getfield 31, 3) := by decide +kernel
theorem dX7_landBy_38 : decode cX7_landBy 38 = .ok (.iload 5, 2) := by decide +kernel
theorem dX7_landBy_40 : decode cX7_landBy 40 = .ok (.iaload, 1) := by decide +kernel
theorem dX7_landBy_41 : decode cX7_landBy 41 = .ok (.goto 4, 3) := by decide +kernel
theorem dX7_landBy_44 : decode cX7_landBy 44 = .ok (.iconst 0, 1) := by decide +kernel
theorem dX7_landBy_45 : decode cX7_landBy 45 = .ok (.iadd, 1) := by decide +kernel
theorem dX7_landBy_46 : decode cX7_landBy 46 = .ok (.istore 4, 2) := by decide +kernel
theorem dX7_landBy_48 : decode cX7_landBy 48 = .ok (.iinc 5 1, 3) := by decide +kernel
theorem dX7_landBy_51 : decode cX7_landBy 51 = .ok (.goto (-45), 3) := by decide +kernel
theorem dX7_landBy_54 : decode cX7_landBy 54 = .ok (.iload 4, 2) := by decide +kernel
theorem dX7_landBy_56 : decode cX7_landBy 56 = .ok (.ireturn, 1) := by decide +kernel
theorem dX7_ofGuest_0 : decode cX7_ofGuest 0 = .ok (.aload_n 0, 1) := by decide +kernel
theorem dX7_ofGuest_1 : decode cX7_ofGuest 1 = .ok (.iload_n 1, 1) := by decide +kernel
theorem dX7_ofGuest_2 : decode cX7_ofGuest 2 = .ok (.invokevirtual 153, 3) := by decide +kernel
theorem dX7_ofGuest_5 : decode cX7_ofGuest 5 = .ok (.ifCond .ne 5, 3) := by decide +kernel
theorem dX7_ofGuest_8 : decode cX7_ofGuest 8 = .ok (.iconst (-1), 1) := by decide +kernel
theorem dX7_ofGuest_9 : decode cX7_ofGuest 9 = .ok (.ireturn, 1) := by decide +kernel
theorem dX7_ofGuest_10 : decode cX7_ofGuest 10 = .ok (.iload_n 2, 1) := by decide +kernel
theorem dX7_ofGuest_11 : decode cX7_ofGuest 11 = .ok (.ifCond .ne 12, 3) := by decide +kernel
theorem dX7_ofGuest_14 : decode cX7_ofGuest 14 = .ok (.aload_n 0, 1) := by decide +kernel
theorem dX7_ofGuest_15 : decode cX7_ofGuest 15 = .ok (.getfield 19, 3) := by decide +kernel
theorem dX7_ofGuest_18 : decode cX7_ofGuest 18 = .ok (.iload_n 1, 1) := by decide +kernel
theorem dX7_ofGuest_19 : decode cX7_ofGuest 19 = .ok (.iaload, 1) := by decide +kernel
theorem dX7_ofGuest_20 : decode cX7_ofGuest 20 = .ok (.goto 46, 3) := by decide +kernel
theorem dX7_ofGuest_23 : decode cX7_ofGuest 23 = .ok (.iload_n 2, 1) := by decide +kernel
theorem dX7_ofGuest_24 : decode cX7_ofGuest 24 = .ok (.iconst 1, 1) := by decide +kernel
theorem dX7_ofGuest_25 : decode cX7_ofGuest 25 = .ok (.if_icmp .ne 12, 3) := by decide +kernel
theorem dX7_ofGuest_28 : decode cX7_ofGuest 28 = .ok (.aload_n 0, 1) := by decide +kernel
theorem dX7_ofGuest_29 : decode cX7_ofGuest 29 = .ok (.getfield 22, 3) := by decide +kernel
theorem dX7_ofGuest_32 : decode cX7_ofGuest 32 = .ok (.iload_n 1, 1) := by decide +kernel
theorem dX7_ofGuest_33 : decode cX7_ofGuest 33 = .ok (.iaload, 1) := by decide +kernel
theorem dX7_ofGuest_34 : decode cX7_ofGuest 34 = .ok (.goto 32, 3) := by decide +kernel
theorem dX7_ofGuest_37 : decode cX7_ofGuest 37 = .ok (.iload_n 2, 1) := by decide +kernel
theorem dX7_ofGuest_38 : decode cX7_ofGuest 38 = .ok (.iconst 2, 1) := by decide +kernel
theorem dX7_ofGuest_39 : decode cX7_ofGuest 39 = .ok (.if_icmp .ne 12, 3) := by decide +kernel
theorem dX7_ofGuest_42 : decode cX7_ofGuest 42 = .ok (.aload_n 0, 1) := by decide +kernel
theorem dX7_ofGuest_43 : decode cX7_ofGuest 43 = .ok (.getfield 25, 3) := by decide +kernel
theorem dX7_ofGuest_46 : decode cX7_ofGuest 46 = .ok (.iload_n 1, 1) := by decide +kernel
theorem dX7_ofGuest_47 : decode cX7_ofGuest 47 = .ok (.iaload, 1) := by decide +kernel
theorem dX7_ofGuest_48 : decode cX7_ofGuest 48 = .ok (.goto 18, 3) := by decide +kernel
theorem dX7_ofGuest_51 : decode cX7_ofGuest 51 = .ok (.iload_n 2, 1) := by decide +kernel
theorem dX7_ofGuest_52 : decode cX7_ofGuest 52 = .ok (.iconst 3, 1) := by decide +kernel
theorem dX7_ofGuest_53 : decode cX7_ofGuest 53 = .ok (.if_icmp .ne 11, 3) := by decide +kernel
theorem dX7_ofGuest_56 : decode cX7_ofGuest 56 = .ok (.aload_n 0, 1) := by decide +kernel
theorem dX7_ofGuest_57 : decode cX7_ofGuest 57 = .ok (.iload_n 1, 1) := by decide +kernel
theorem dX7_ofGuest_58 : decode cX7_ofGuest 58 = .ok (.invokevirtual 156, 3) := by decide +kernel
theorem dX7_ofGuest_61 : decode cX7_ofGuest 61 = .ok (.goto 5, 3) := by decide +kernel
theorem dX7_ofGuest_64 : decode cX7_ofGuest 64 = .ok (.bipush (-2), 2) := by decide +kernel
theorem dX7_ofGuest_66 : decode cX7_ofGuest 66 = .ok (.ireturn, 1) := by decide +kernel
theorem dX7_ofDish_0 : decode cX7_ofDish 0 = .ok (.aload_n 0, 1) := by decide +kernel
theorem dX7_ofDish_1 : decode cX7_ofDish 1 = .ok (.iload_n 1, 1) := by decide +kernel
theorem dX7_ofDish_2 : decode cX7_ofDish 2 = .ok (.invokevirtual 159, 3) := by decide +kernel
theorem dX7_ofDish_5 : decode cX7_ofDish 5 = .ok (.ifCond .ne 5, 3) := by decide +kernel
theorem dX7_ofDish_8 : decode cX7_ofDish 8 = .ok (.iconst (-1), 1) := by decide +kernel
theorem dX7_ofDish_9 : decode cX7_ofDish 9 = .ok (.ireturn, 1) := by decide +kernel
theorem dX7_ofDish_10 : decode cX7_ofDish 10 = .ok (.iload_n 2, 1) := by decide +kernel
theorem dX7_ofDish_11 : decode cX7_ofDish 11 = .ok (.ifCond .ne 12, 3) := by decide +kernel
theorem dX7_ofDish_14 : decode cX7_ofDish 14 = .ok (.aload_n 0, 1) := by decide +kernel
theorem dX7_ofDish_15 : decode cX7_ofDish 15 = .ok (.getfield 28, 3) := by decide +kernel
theorem dX7_ofDish_18 : decode cX7_ofDish 18 = .ok (.iload_n 1, 1) := by decide +kernel
theorem dX7_ofDish_19 : decode cX7_ofDish 19 = .ok (.iaload, 1) := by decide +kernel
theorem dX7_ofDish_20 : decode cX7_ofDish 20 = .ok (.goto 45, 3) := by decide +kernel
theorem dX7_ofDish_23 : decode cX7_ofDish 23 = .ok (.iload_n 2, 1) := by decide +kernel
theorem dX7_ofDish_24 : decode cX7_ofDish 24 = .ok (.iconst 1, 1) := by decide +kernel
theorem dX7_ofDish_25 : decode cX7_ofDish 25 = .ok (.if_icmp .ne 12, 3) := by decide +kernel
theorem dX7_ofDish_28 : decode cX7_ofDish 28 = .ok (.aload_n 0, 1) := by decide +kernel
theorem dX7_ofDish_29 : decode cX7_ofDish 29 = .ok (.getfield 31, 3) := by decide +kernel
theorem dX7_ofDish_32 : decode cX7_ofDish 32 = .ok (.iload_n 1, 1) := by decide +kernel
theorem dX7_ofDish_33 : decode cX7_ofDish 33 = .ok (.iaload, 1) := by decide +kernel
theorem dX7_ofDish_34 : decode cX7_ofDish 34 = .ok (.goto 31, 3) := by decide +kernel
theorem dX7_ofDish_37 : decode cX7_ofDish 37 = .ok (.iload_n 2, 1) := by decide +kernel
theorem dX7_ofDish_38 : decode cX7_ofDish 38 = .ok (.iconst 2, 1) := by decide +kernel
theorem dX7_ofDish_39 : decode cX7_ofDish 39 = .ok (.if_icmp .ne 24, 3) := by decide +kernel
theorem dX7_ofDish_42 : decode cX7_ofDish 42 = .ok (.aload_n 0, 1) := by decide +kernel
theorem dX7_ofDish_43 : decode cX7_ofDish 43 = .ok (.aload_n 0, 1) := by decide +kernel
theorem dX7_ofDish_44 : decode cX7_ofDish 44 = .ok (.getfield 28, 3) := by decide +kernel
theorem dX7_ofDish_47 : decode cX7_ofDish 47 = .ok (.iload_n 1, 1) := by decide +kernel
theorem dX7_ofDish_48 : decode cX7_ofDish 48 = .ok (.iaload, 1) := by decide +kernel
theorem dX7_ofDish_49 : decode cX7_ofDish 49 = .ok (.aload_n 0, 1) := by decide +kernel
theorem dX7_ofDish_50 : decode cX7_ofDish 50 = .ok (.getfield 120, 3) := by decide +kernel
theorem dX7_ofDish_53 : decode cX7_ofDish 53 = .ok (.aload_n 0, 1) := by decide +kernel
theorem dX7_ofDish_54 : decode cX7_ofDish 54 = .ok (.getfield 126, 3) := by decide +kernel
theorem dX7_ofDish_57 : decode cX7_ofDish 57 = .ok (.invokevirtual 149, 3) := by decide +kernel
theorem dX7_ofDish_60 : decode cX7_ofDish 60 = .ok (.goto 5, 3) := by decide +kernel
theorem dX7_ofDish_63 : decode cX7_ofDish 63 = .ok (.bipush (-2), 2) := by decide +kernel
theorem dX7_ofDish_65 : decode cX7_ofDish 65 = .ok (.ireturn, 1) := by decide +kernel
theorem dX7_whose_0 : decode cX7_whose 0 = .ok (.aload_n 0, 1) := by decide +kernel
theorem dX7_whose_1 : decode cX7_whose 1 = .ok (.iload_n 1, 1) := by decide +kernel
theorem dX7_whose_2 : decode cX7_whose 2 = .ok (.invokevirtual 153, 3) := by decide +kernel
theorem dX7_whose_5 : decode cX7_whose 5 = .ok (.ifCond .eq 19, 3) := by decide +kernel
theorem dX7_whose_8 : decode cX7_whose 8 = .ok (.aload_n 0, 1) := by decide +kernel
theorem dX7_whose_9 : decode cX7_whose 9 = .ok (.iload_n 1, 1) := by decide +kernel
theorem dX7_whose_10 : decode cX7_whose 10 = .ok (.aload_n 0, 1) := by decide +kernel
theorem dX7_whose_11 : decode cX7_whose 11 = .ok (.getfield 120, 3) := by decide +kernel
theorem dX7_whose_14 : decode cX7_whose 14 = .ok (.aload_n 0, 1) := by decide +kernel
theorem dX7_whose_15 : decode cX7_whose 15 = .ok (.getfield 126, 3) := by decide +kernel
theorem dX7_whose_18 : decode cX7_whose 18 = .ok (.invokevirtual 149, 3) := by decide +kernel
theorem dX7_whose_21 : decode cX7_whose 21 = .ok (.goto 4, 3) := by decide +kernel
theorem dX7_whose_24 : decode cX7_whose 24 = .ok (.iconst (-1), 1) := by decide +kernel
theorem dX7_whose_25 : decode cX7_whose 25 = .ok (.ireturn, 1) := by decide +kernel
theorem dX7_land_0 : decode cX7_land 0 = .ok (.iload_n 1, 1) := by decide +kernel
theorem dX7_land_1 : decode cX7_land 1 = .ok (.invokestatic 162, 3) := by decide +kernel
theorem dX7_land_4 : decode cX7_land 4 = .ok (.ifCond .ne 5, 3) := by decide +kernel
theorem dX7_land_7 : decode cX7_land 7 = .ok (.iconst (-1), 1) := by decide +kernel
theorem dX7_land_8 : decode cX7_land 8 = .ok (.ireturn, 1) := by decide +kernel
theorem dX7_land_9 : decode cX7_land 9 = .ok (.aload_n 0, 1) := by decide +kernel
theorem dX7_land_10 : decode cX7_land 10 = .ok (.getfield 78, 3) := by decide +kernel
theorem dX7_land_13 : decode cX7_land 13 = .ok (.ifCond .ne 8, 3) := by decide +kernel
theorem dX7_land_16 : decode cX7_land 16 = .ok (.bipush (-3), 2) := by decide +kernel
theorem dX7_land_18 : decode cX7_land 18 = .ok (.goto 16, 3) := by decide +kernel
theorem dX7_land_21 : decode cX7_land 21 = .ok (.aload_n 0, 1) := by decide +kernel
theorem dX7_land_22 : decode cX7_land 22 = .ok (.iload_n 1, 1) := by decide +kernel
theorem dX7_land_23 : decode cX7_land 23 = .ok (.aload_n 0, 1) := by decide +kernel
theorem dX7_land_24 : decode cX7_land 24 = .ok (.getfield 120, 3) := by decide +kernel
theorem dX7_land_27 : decode cX7_land 27 = .ok (.aload_n 0, 1) := by decide +kernel
theorem dX7_land_28 : decode cX7_land 28 = .ok (.getfield 126, 3) := by decide +kernel
theorem dX7_land_31 : decode cX7_land 31 = .ok (.invokevirtual 165, 3) := by decide +kernel
theorem dX7_land_34 : decode cX7_land 34 = .ok (.ireturn, 1) := by decide +kernel
theorem dX7_chew_0 : decode cX7_chew 0 = .ok (.aload_n 0, 1) := by decide +kernel
theorem dX7_chew_1 : decode cX7_chew 1 = .ok (.iload_n 1, 1) := by decide +kernel
theorem dX7_chew_2 : decode cX7_chew 2 = .ok (.invokevirtual 153, 3) := by decide +kernel
theorem dX7_chew_5 : decode cX7_chew 5 = .ok (.ifCond .ne 5, 3) := by decide +kernel
theorem dX7_chew_8 : decode cX7_chew 8 = .ok (.iconst (-1), 1) := by decide +kernel
theorem dX7_chew_9 : decode cX7_chew 9 = .ok (.ireturn, 1) := by decide +kernel
theorem dX7_chew_10 : decode cX7_chew 10 = .ok (.iload_n 2, 1) := by decide +kernel
theorem dX7_chew_11 : decode cX7_chew 11 = .ok (.iconst 0, 1) := by decide +kernel
theorem dX7_chew_12 : decode cX7_chew 12 = .ok (.bipush 9, 2) := by decide +kernel
theorem dX7_chew_14 : decode cX7_chew 14 = .ok (.invokestatic 74, 3) := by decide +kernel
theorem dX7_chew_17 : decode cX7_chew 17 = .ok (.ifCond .ne 6, 3) := by decide +kernel
theorem dX7_chew_20 : decode cX7_chew 20 = .ok (.bipush (-2), 2) := by decide +kernel
theorem dX7_chew_22 : decode cX7_chew 22 = .ok (.ireturn, 1) := by decide +kernel
theorem dX7_chew_23 : decode cX7_chew 23 = .ok (.aload_n 0, 1) := by decide +kernel
theorem dX7_chew_24 : decode cX7_chew 24 = .ok (.getfield 22, 3) := by decide +kernel
theorem dX7_chew_27 : decode cX7_chew 27 = .ok (.iload_n 1, 1) := by decide +kernel
theorem dX7_chew_28 : decode cX7_chew 28 = .ok (.iaload, 1) := by decide +kernel
theorem dX7_chew_29 : decode cX7_chew 29 = .ok (.istore_n 3, 1) := by decide +kernel
theorem dX7_chew_30 : decode cX7_chew 30 = .ok (.aload_n 0, 1) := by decide +kernel
theorem dX7_chew_31 : decode cX7_chew 31 = .ok (.getfield 22, 3) := by decide +kernel
theorem dX7_chew_34 : decode cX7_chew 34 = .ok (.iload_n 1, 1) := by decide +kernel
theorem dX7_chew_35 : decode cX7_chew 35 = .ok (.iload_n 2, 1) := by decide +kernel
theorem dX7_chew_36 : decode cX7_chew 36 = .ok (.iastore, 1) := by decide +kernel
theorem dX7_chew_37 : decode cX7_chew 37 = .ok (.iload_n 3, 1) := by decide +kernel
theorem dX7_chew_38 : decode cX7_chew 38 = .ok (.ireturn, 1) := by decide +kernel
theorem dX7_cook_0 : decode cX7_cook 0 = .ok (.iload_n 1, 1) := by decide +kernel
theorem dX7_cook_1 : decode cX7_cook 1 = .ok (.iconst 0, 1) := by decide +kernel
theorem dX7_cook_2 : decode cX7_cook 2 = .ok (.iconst 3, 1) := by decide +kernel
theorem dX7_cook_3 : decode cX7_cook 3 = .ok (.invokestatic 74, 3) := by decide +kernel
theorem dX7_cook_6 : decode cX7_cook 6 = .ok (.ifCond .ne 6, 3) := by decide +kernel
theorem dX7_cook_9 : decode cX7_cook 9 = .ok (.bipush (-2), 2) := by decide +kernel
theorem dX7_cook_11 : decode cX7_cook 11 = .ok (.ireturn, 1) := by decide +kernel
theorem dX7_cook_12 : decode cX7_cook 12 = .ok (.aload_n 0, 1) := by decide +kernel
theorem dX7_cook_13 : decode cX7_cook 13 = .ok (.getfield 78, 3) := by decide +kernel
theorem dX7_cook_16 : decode cX7_cook 16 = .ok (.ifCond .ne 6, 3) := by decide +kernel
theorem dX7_cook_19 : decode cX7_cook 19 = .ok (.bipush (-3), 2) := by decide +kernel
theorem dX7_cook_21 : decode cX7_cook 21 = .ok (.ireturn, 1) := by decide +kernel
theorem dX7_cook_22 : decode cX7_cook 22 = .ok (.aload_n 0, 1) := by decide +kernel
theorem dX7_cook_23 : decode cX7_cook 23 = .ok (.getfield 111, 3) := by decide +kernel
theorem dX7_cook_26 : decode cX7_cook 26 = .ok (.istore_n 2, 1) := by decide +kernel
theorem dX7_cook_27 : decode cX7_cook 27 = .ok (.aload_n 0, 1) := by decide +kernel
theorem dX7_cook_28 : decode cX7_cook 28 = .ok (.iload_n 1, 1) := by decide +kernel
theorem dX7_cook_29 : decode cX7_cook 29 = .ok (.putfield 111, 3) := by decide +kernel
theorem dX7_cook_32 : decode cX7_cook 32 = .ok (.iload_n 2, 1) := by decide +kernel
theorem dX7_cook_33 : decode cX7_cook 33 = .ok (.ireturn, 1) := by decide +kernel
theorem dX7_rate_0 : decode cX7_rate 0 = .ok (.aload_n 0, 1) := by decide +kernel
theorem dX7_rate_1 : decode cX7_rate 1 = .ok (.iload_n 1, 1) := by decide +kernel
theorem dX7_rate_2 : decode cX7_rate 2 = .ok (.invokevirtual 159, 3) := by decide +kernel
theorem dX7_rate_5 : decode cX7_rate 5 = .ok (.ifCond .ne 5, 3) := by decide +kernel
theorem dX7_rate_8 : decode cX7_rate 8 = .ok (.iconst (-1), 1) := by decide +kernel
theorem dX7_rate_9 : decode cX7_rate 9 = .ok (.ireturn, 1) := by decide +kernel
theorem dX7_rate_10 : decode cX7_rate 10 = .ok (.iload_n 2, 1) := by decide +kernel
theorem dX7_rate_11 : decode cX7_rate 11 = .ok (.iconst 0, 1) := by decide +kernel
theorem dX7_rate_12 : decode cX7_rate 12 = .ok (.bipush 9, 2) := by decide +kernel
theorem dX7_rate_14 : decode cX7_rate 14 = .ok (.invokestatic 74, 3) := by decide +kernel
theorem dX7_rate_17 : decode cX7_rate 17 = .ok (.ifCond .ne 6, 3) := by decide +kernel
theorem dX7_rate_20 : decode cX7_rate 20 = .ok (.bipush (-2), 2) := by decide +kernel
theorem dX7_rate_22 : decode cX7_rate 22 = .ok (.ireturn, 1) := by decide +kernel
theorem dX7_rate_23 : decode cX7_rate 23 = .ok (.aload_n 0, 1) := by decide +kernel
theorem dX7_rate_24 : decode cX7_rate 24 = .ok (.getfield 31, 3) := by decide +kernel
theorem dX7_rate_27 : decode cX7_rate 27 = .ok (.iload_n 1, 1) := by decide +kernel
theorem dX7_rate_28 : decode cX7_rate 28 = .ok (.iaload, 1) := by decide +kernel
theorem dX7_rate_29 : decode cX7_rate 29 = .ok (.istore_n 3, 1) := by decide +kernel
theorem dX7_rate_30 : decode cX7_rate 30 = .ok (.aload_n 0, 1) := by decide +kernel
theorem dX7_rate_31 : decode cX7_rate 31 = .ok (.getfield 31, 3) := by decide +kernel
theorem dX7_rate_34 : decode cX7_rate 34 = .ok (.iload_n 1, 1) := by decide +kernel
theorem dX7_rate_35 : decode cX7_rate 35 = .ok (.iload_n 2, 1) := by decide +kernel
theorem dX7_rate_36 : decode cX7_rate 36 = .ok (.iastore, 1) := by decide +kernel
theorem dX7_rate_37 : decode cX7_rate 37 = .ok (.iload_n 3, 1) := by decide +kernel
theorem dX7_rate_38 : decode cX7_rate 38 = .ok (.ireturn, 1) := by decide +kernel
theorem dX7_carry_0 : decode cX7_carry 0 = .ok (.aload_n 0, 1) := by decide +kernel
theorem dX7_carry_1 : decode cX7_carry 1 = .ok (.iload_n 1, 1) := by decide +kernel
theorem dX7_carry_2 : decode cX7_carry 2 = .ok (.invokevirtual 159, 3) := by decide +kernel
theorem dX7_carry_5 : decode cX7_carry 5 = .ok (.ifCond .eq 11, 3) := by decide +kernel
theorem dX7_carry_8 : decode cX7_carry 8 = .ok (.aload_n 0, 1) := by decide +kernel
theorem dX7_carry_9 : decode cX7_carry 9 = .ok (.iload_n 2, 1) := by decide +kernel
theorem dX7_carry_10 : decode cX7_carry 10 = .ok (.invokevirtual 153, 3) := by decide +kernel
theorem dX7_carry_13 : decode cX7_carry 13 = .ok (.ifCond .ne 5, 3) := by decide +kernel
theorem dX7_carry_16 : decode cX7_carry 16 = .ok (.iconst (-1), 1) := by decide +kernel
theorem dX7_carry_17 : decode cX7_carry 17 = .ok (.ireturn, 1) := by decide +kernel
theorem dX7_carry_18 : decode cX7_carry 18 = .ok (.aload_n 0, 1) := by decide +kernel
theorem dX7_carry_19 : decode cX7_carry 19 = .ok (.getfield 28, 3) := by decide +kernel
theorem dX7_carry_22 : decode cX7_carry 22 = .ok (.iload_n 1, 1) := by decide +kernel
theorem dX7_carry_23 : decode cX7_carry 23 = .ok (.iaload, 1) := by decide +kernel
theorem dX7_carry_24 : decode cX7_carry 24 = .ok (.istore_n 3, 1) := by decide +kernel
theorem dX7_carry_25 : decode cX7_carry 25 = .ok (.aload_n 0, 1) := by decide +kernel
theorem dX7_carry_26 : decode cX7_carry 26 = .ok (.getfield 28, 3) := by decide +kernel
theorem dX7_carry_29 : decode cX7_carry 29 = .ok (.iload_n 1, 1) := by decide +kernel
theorem dX7_carry_30 : decode cX7_carry 30 = .ok (.iload_n 2, 1) := by decide +kernel
theorem dX7_carry_31 : decode cX7_carry 31 = .ok (.iastore, 1) := by decide +kernel
theorem dX7_carry_32 : decode cX7_carry 32 = .ok (.iload_n 3, 1) := by decide +kernel
theorem dX7_carry_33 : decode cX7_carry 33 = .ok (.ireturn, 1) := by decide +kernel
theorem dX7_next_0 : decode cX7_next 0 = .ok (.iload_n 2, 1) := by decide +kernel
theorem dX7_next_1 : decode cX7_next 1 = .ok (.iconst 2, 1) := by decide +kernel
theorem dX7_next_2 : decode cX7_next 2 = .ok (.irem, 1) := by decide +kernel
theorem dX7_next_3 : decode cX7_next 3 = .ok (.ifCond .ne 19, 3) := by decide +kernel
theorem dX7_next_6 : decode cX7_next 6 = .ok (.iload_n 1, 1) := by decide +kernel
theorem dX7_next_7 : decode cX7_next 7 = .ok (.aload_n 0, 1) := by decide +kernel
theorem dX7_next_8 : decode cX7_next 8 = .ok (.getfield 78, 3) := by decide +kernel
theorem dX7_next_11 : decode cX7_next 11 = .ok (.iadd, 1) := by decide +kernel
theorem dX7_next_12 : decode cX7_next 12 = .ok (.iconst 1, 1) := by decide +kernel
theorem dX7_next_13 : decode cX7_next 13 = .ok (.isub, 1) := by decide +kernel
theorem dX7_next_14 : decode cX7_next 14 = .ok (.aload_n 0, 1) := by decide +kernel
theorem dX7_next_15 : decode cX7_next 15 = .ok (.getfield 78, 3) := by decide +kernel
theorem dX7_next_18 : decode cX7_next 18 = .ok (.irem, 1) := by decide +kernel
theorem dX7_next_19 : decode cX7_next 19 = .ok (.goto 11, 3) := by decide +kernel
theorem dX7_next_22 : decode cX7_next 22 = .ok (.iload_n 1, 1) := by decide +kernel
theorem dX7_next_23 : decode cX7_next 23 = .ok (.iconst 1, 1) := by decide +kernel
theorem dX7_next_24 : decode cX7_next 24 = .ok (.iadd, 1) := by decide +kernel
theorem dX7_next_25 : decode cX7_next 25 = .ok (.aload_n 0, 1) := by decide +kernel
theorem dX7_next_26 : decode cX7_next 26 = .ok (.getfield 78, 3) := by decide +kernel
theorem dX7_next_29 : decode cX7_next 29 = .ok (.irem, 1) := by decide +kernel
theorem dX7_next_30 : decode cX7_next 30 = .ok (.ireturn, 1) := by decide +kernel
theorem dX7_behind_0 : decode cX7_behind 0 = .ok (.iload_n 1, 1) := by decide +kernel
theorem dX7_behind_1 : decode cX7_behind 1 = .ok (.bipush 8, 2) := by decide +kernel
theorem dX7_behind_3 : decode cX7_behind 3 = .ok (.idiv, 1) := by decide +kernel
theorem dX7_behind_4 : decode cX7_behind 4 = .ok (.istore_n 3, 1) := by decide +kernel
theorem dX7_behind_5 : decode cX7_behind 5 = .ok (.iload_n 1, 1) := by decide +kernel
theorem dX7_behind_6 : decode cX7_behind 6 = .ok (.bipush 8, 2) := by decide +kernel
theorem dX7_behind_8 : decode cX7_behind 8 = .ok (.irem, 1) := by decide +kernel
theorem dX7_behind_9 : decode cX7_behind 9 = .ok (.istore 4, 2) := by decide +kernel
theorem dX7_behind_11 : decode cX7_behind 11 = .ok (.aload_n 0, 1) := by decide +kernel
theorem dX7_behind_12 : decode cX7_behind 12 = .ok (.iload_n 2, 1) := by decide +kernel
theorem dX7_behind_13 : decode cX7_behind 13 = .ok (.iconst 2, 1) := by decide +kernel
theorem dX7_behind_14 : decode cX7_behind 14 = .ok (.if_icmp .ge 7, 3) := by decide +kernel
theorem dX7_behind_17 : decode cX7_behind 17 = .ok (.iload_n 3, 1) := by decide +kernel
theorem dX7_behind_18 : decode cX7_behind 18 = .ok (.goto 5, 3) := by decide +kernel
theorem dX7_behind_21 : decode cX7_behind 21 = .ok (.iload 4, 2) := by decide +kernel
theorem dX7_behind_23 : decode cX7_behind 23 = .ok (.iload_n 2, 1) := by decide +kernel
theorem dX7_behind_24 : decode cX7_behind 24 = .ok (.invokevirtual 168, 3) := by decide +kernel
theorem dX7_behind_27 : decode cX7_behind 27 = .ok (.istore 5, 2) := by decide +kernel
theorem dX7_behind_29 : decode cX7_behind 29 = .ok (.iload 5, 2) := by decide +kernel
theorem dX7_behind_31 : decode cX7_behind 31 = .ok (.iload_n 2, 1) := by decide +kernel
theorem dX7_behind_32 : decode cX7_behind 32 = .ok (.iconst 2, 1) := by decide +kernel
theorem dX7_behind_33 : decode cX7_behind 33 = .ok (.if_icmp .ge 8, 3) := by decide +kernel
theorem dX7_behind_36 : decode cX7_behind 36 = .ok (.iload 4, 2) := by decide +kernel
theorem dX7_behind_38 : decode cX7_behind 38 = .ok (.goto 4, 3) := by decide +kernel
theorem dX7_behind_41 : decode cX7_behind 41 = .ok (.iload_n 3, 1) := by decide +kernel
theorem dX7_behind_42 : decode cX7_behind 42 = .ok (.if_icmp .ne 6, 3) := by decide +kernel
theorem dX7_behind_45 : decode cX7_behind 45 = .ok (.bipush (-9), 2) := by decide +kernel
theorem dX7_behind_47 : decode cX7_behind 47 = .ok (.ireturn, 1) := by decide +kernel
theorem dX7_behind_48 : decode cX7_behind 48 = .ok (.iload_n 2, 1) := by decide +kernel
theorem dX7_behind_49 : decode cX7_behind 49 = .ok (.iconst 2, 1) := by decide +kernel
theorem dX7_behind_50 : decode cX7_behind 50 = .ok (.if_icmp .ge 14, 3) := by decide +kernel
theorem dX7_behind_53 : decode cX7_behind 53 = .ok (.bipush 8, 2) := by decide +kernel
theorem dX7_behind_55 : decode cX7_behind 55 = .ok (.iload 5, 2) := by decide +kernel
theorem dX7_behind_57 : decode cX7_behind 57 = .ok (.imul, 1) := by decide +kernel
theorem dX7_behind_58 : decode cX7_behind 58 = .ok (.iload 4, 2) := by decide +kernel
theorem dX7_behind_60 : decode cX7_behind 60 = .ok (.iadd, 1) := by decide +kernel
theorem dX7_behind_61 : decode cX7_behind 61 = .ok (.goto 10, 3) := by decide +kernel
theorem dX7_behind_64 : decode cX7_behind 64 = .ok (.bipush 8, 2) := by decide +kernel
theorem dX7_behind_66 : decode cX7_behind 66 = .ok (.iload_n 3, 1) := by decide +kernel
theorem dX7_behind_67 : decode cX7_behind 67 = .ok (.imul, 1) := by decide +kernel
theorem dX7_behind_68 : decode cX7_behind 68 = .ok (.iload 5, 2) := by decide +kernel
theorem dX7_behind_70 : decode cX7_behind 70 = .ok (.iadd, 1) := by decide +kernel
theorem dX7_behind_71 : decode cX7_behind 71 = .ok (.ireturn, 1) := by decide +kernel
theorem dX7_takes_0 : decode cX7_takes 0 = .ok (.aload_n 0, 1) := by decide +kernel
theorem dX7_takes_1 : decode cX7_takes 1 = .ok (.iload_n 2, 1) := by decide +kernel
theorem dX7_takes_2 : decode cX7_takes 2 = .ok (.iconst 2, 1) := by decide +kernel
theorem dX7_takes_3 : decode cX7_takes 3 = .ok (.if_icmp .ge 10, 3) := by decide +kernel
theorem dX7_takes_6 : decode cX7_takes 6 = .ok (.iload_n 1, 1) := by decide +kernel
theorem dX7_takes_7 : decode cX7_takes 7 = .ok (.bipush 8, 2) := by decide +kernel
theorem dX7_takes_9 : decode cX7_takes 9 = .ok (.idiv, 1) := by decide +kernel
theorem dX7_takes_10 : decode cX7_takes 10 = .ok (.goto 7, 3) := by decide +kernel
theorem dX7_takes_13 : decode cX7_takes 13 = .ok (.iload_n 1, 1) := by decide +kernel
theorem dX7_takes_14 : decode cX7_takes 14 = .ok (.bipush 8, 2) := by decide +kernel
theorem dX7_takes_16 : decode cX7_takes 16 = .ok (.irem, 1) := by decide +kernel
theorem dX7_takes_17 : decode cX7_takes 17 = .ok (.invokevirtual 156, 3) := by decide +kernel
theorem dX7_takes_20 : decode cX7_takes 20 = .ok (.ireturn, 1) := by decide +kernel
theorem dX7_stateNow_0 : decode cX7_stateNow 0 = .ok (.bipush 8, 2) := by decide +kernel
theorem dX7_stateNow_2 : decode cX7_stateNow 2 = .ok (.aload_n 0, 1) := by decide +kernel
theorem dX7_stateNow_3 : decode cX7_stateNow 3 = .ok (.getfield 120, 3) := by decide +kernel
theorem dX7_stateNow_6 : decode cX7_stateNow 6 = .ok (.imul, 1) := by decide +kernel
theorem dX7_stateNow_7 : decode cX7_stateNow 7 = .ok (.aload_n 0, 1) := by decide +kernel
theorem dX7_stateNow_8 : decode cX7_stateNow 8 = .ok (.getfield 126, 3) := by decide +kernel
theorem dX7_stateNow_11 : decode cX7_stateNow 11 = .ok (.iadd, 1) := by decide +kernel
theorem dX7_stateNow_12 : decode cX7_stateNow 12 = .ok (.ireturn, 1) := by decide +kernel
theorem dX7_pass_0 : decode cX7_pass 0 = .ok (.iload_n 1, 1) := by decide +kernel
theorem dX7_pass_1 : decode cX7_pass 1 = .ok (.iconst 0, 1) := by decide +kernel
theorem dX7_pass_2 : decode cX7_pass 2 = .ok (.iconst 3, 1) := by decide +kernel
theorem dX7_pass_3 : decode cX7_pass 3 = .ok (.invokestatic 74, 3) := by decide +kernel
theorem dX7_pass_6 : decode cX7_pass 6 = .ok (.ifCond .ne 6, 3) := by decide +kernel
theorem dX7_pass_9 : decode cX7_pass 9 = .ok (.bipush (-2), 2) := by decide +kernel
theorem dX7_pass_11 : decode cX7_pass 11 = .ok (.ireturn, 1) := by decide +kernel
theorem dX7_pass_12 : decode cX7_pass 12 = .ok (.aload_n 0, 1) := by decide +kernel
theorem dX7_pass_13 : decode cX7_pass 13 = .ok (.getfield 78, 3) := by decide +kernel
theorem dX7_pass_16 : decode cX7_pass 16 = .ok (.ifCond .eq 17, 3) := by decide +kernel
theorem dX7_pass_19 : decode cX7_pass 19 = .ok (.aload_n 0, 1) := by decide +kernel
theorem dX7_pass_20 : decode cX7_pass 20 = .ok (.aload_n 0, 1) := by decide +kernel
theorem dX7_pass_21 : decode cX7_pass 21 = .ok (.invokevirtual 171, 3) := by decide +kernel
theorem dX7_pass_24 : decode cX7_pass 24 = .ok (.iload_n 1, 1) := by decide +kernel
theorem dX7_pass_25 : decode cX7_pass 25 = .ok (.invokevirtual 175, 3) := by decide +kernel
theorem dX7_pass_28 : decode cX7_pass 28 = .ok (.bipush (-9), 2) := by decide +kernel
theorem dX7_pass_30 : decode cX7_pass 30 = .ok (.if_icmp .ne 6, 3) := by decide +kernel
theorem dX7_pass_33 : decode cX7_pass 33 = .ok (.bipush (-3), 2) := by decide +kernel
theorem dX7_pass_35 : decode cX7_pass 35 = .ok (.ireturn, 1) := by decide +kernel
theorem dX7_pass_36 : decode cX7_pass 36 = .ok (.aload_n 0, 1) := by decide +kernel
theorem dX7_pass_37 : decode cX7_pass 37 = .ok (.aload_n 0, 1) := by decide +kernel
theorem dX7_pass_38 : decode cX7_pass 38 = .ok (.invokevirtual 171, 3) := by decide +kernel
theorem dX7_pass_41 : decode cX7_pass 41 = .ok (.iload_n 1, 1) := by decide +kernel
theorem dX7_pass_42 : decode cX7_pass 42 = .ok (.invokevirtual 178, 3) := by decide +kernel
theorem dX7_pass_45 : decode cX7_pass 45 = .ok (.istore_n 2, 1) := by decide +kernel
theorem dX7_pass_46 : decode cX7_pass 46 = .ok (.aload_n 0, 1) := by decide +kernel
theorem dX7_pass_47 : decode cX7_pass 47 = .ok (.aload_n 0, 1) := by decide +kernel
theorem dX7_pass_48 : decode cX7_pass 48 = .ok (.invokevirtual 171, 3) := by decide +kernel
theorem dX7_pass_51 : decode cX7_pass 51 = .ok (.iload_n 1, 1) := by decide +kernel
theorem dX7_pass_52 : decode cX7_pass 52 = .ok (.invokevirtual 175, 3) := by decide +kernel
theorem dX7_pass_55 : decode cX7_pass 55 = .ok (.istore_n 3, 1) := by decide +kernel
theorem dX7_pass_56 : decode cX7_pass 56 = .ok (.aload_n 0, 1) := by decide +kernel
theorem dX7_pass_57 : decode cX7_pass 57 = .ok (.iload_n 3, 1) := by decide +kernel
theorem dX7_pass_58 : decode cX7_pass 58 = .ok (.bipush 8, 2) := by decide +kernel
theorem dX7_pass_60 : decode cX7_pass 60 = .ok (.idiv, 1) := by decide +kernel
theorem dX7_pass_61 : decode cX7_pass 61 = .ok (.putfield 120, 3) := by decide +kernel
theorem dX7_pass_64 : decode cX7_pass 64 = .ok (.aload_n 0, 1) := by decide +kernel
theorem dX7_pass_65 : decode cX7_pass 65 = .ok (.iload_n 3, 1) := by decide +kernel
theorem dX7_pass_66 : decode cX7_pass 66 = .ok (.bipush 8, 2) := by decide +kernel
theorem dX7_pass_68 : decode cX7_pass 68 = .ok (.irem, 1) := by decide +kernel
theorem dX7_pass_69 : decode cX7_pass 69 = .ok (.putfield 126, 3) := by decide +kernel
theorem dX7_pass_72 : decode cX7_pass 72 = .ok (.iload_n 2, 1) := by decide +kernel
theorem dX7_pass_73 : decode cX7_pass 73 = .ok (.ireturn, 1) := by decide +kernel
theorem dX7_dinner_0 : decode cX7_dinner 0 = .ok (.aload_n 0, 1) := by decide +kernel
theorem dX7_dinner_1 : decode cX7_dinner 1 = .ok (.iconst 0, 1) := by decide +kernel
theorem dX7_dinner_2 : decode cX7_dinner 2 = .ok (.putfield 68, 3) := by decide +kernel
theorem dX7_dinner_5 : decode cX7_dinner 5 = .ok (.iload_n 1, 1) := by decide +kernel
theorem dX7_dinner_6 : decode cX7_dinner 6 = .ok (.invokestatic 87, 3) := by decide +kernel
theorem dX7_dinner_9 : decode cX7_dinner 9 = .ok (.ifCond .ne 5, 3) := by decide +kernel
theorem dX7_dinner_12 : decode cX7_dinner 12 = .ok (.iconst (-1), 1) := by decide +kernel
theorem dX7_dinner_13 : decode cX7_dinner 13 = .ok (.ireturn, 1) := by decide +kernel
theorem dX7_dinner_14 : decode cX7_dinner 14 = .ok (.iload_n 2, 1) := by decide +kernel
theorem dX7_dinner_15 : decode cX7_dinner 15 = .ok (.invokestatic 91, 3) := by decide +kernel
theorem dX7_dinner_18 : decode cX7_dinner 18 = .ok (.ifCond .eq 36, 3) := by decide +kernel
theorem dX7_dinner_21 : decode cX7_dinner 21 = .ok (.iload 4, 2) := by decide +kernel
theorem dX7_dinner_23 : decode cX7_dinner 23 = .ok (.iconst 0, 1) := by decide +kernel
theorem dX7_dinner_24 : decode cX7_dinner 24 = .ok (.bipush 40, 2) := by decide +kernel
theorem dX7_dinner_26 : decode cX7_dinner 26 = .ok (.invokestatic 74, 3) := by decide +kernel
theorem dX7_dinner_29 : decode cX7_dinner 29 = .ok (.ifCond .eq 25, 3) := by decide +kernel
theorem dX7_dinner_32 : decode cX7_dinner 32 = .ok (.iload 5, 2) := by decide +kernel
theorem dX7_dinner_34 : decode cX7_dinner 34 = .ok (.iconst 0, 1) := by decide +kernel
theorem dX7_dinner_35 : decode cX7_dinner 35 = .ok (.iconst 5, 1) := by decide +kernel
theorem dX7_dinner_36 : decode cX7_dinner 36 = .ok (.invokestatic 74, 3) := by decide +kernel
theorem dX7_dinner_39 : decode cX7_dinner 39 = .ok (.ifCond .ne 18, 3) := by decide +kernel
theorem dX7_dinner_42 : decode cX7_dinner 42 = .ok (.iload 5, 2) := by decide +kernel
theorem dX7_dinner_44 : decode cX7_dinner 44 = .ok (.bipush 10, 2) := by decide +kernel
theorem dX7_dinner_46 : decode cX7_dinner 46 = .ok (.bipush 15, 2) := by decide +kernel
theorem dX7_dinner_48 : decode cX7_dinner 48 = .ok (.invokestatic 74, 3) := by decide +kernel
theorem dX7_dinner_51 : decode cX7_dinner 51 = .ok (.ifCond .ne 6, 3) := by decide +kernel
theorem dX7_dinner_54 : decode cX7_dinner 54 = .ok (.bipush (-2), 2) := by decide +kernel
theorem dX7_dinner_56 : decode cX7_dinner 56 = .ok (.ireturn, 1) := by decide +kernel
theorem dX7_dinner_57 : decode cX7_dinner 57 = .ok (.aload_n 0, 1) := by decide +kernel
theorem dX7_dinner_58 : decode cX7_dinner 58 = .ok (.iload_n 1, 1) := by decide +kernel
theorem dX7_dinner_59 : decode cX7_dinner 59 = .ok (.iload_n 2, 1) := by decide +kernel
theorem dX7_dinner_60 : decode cX7_dinner 60 = .ok (.iload_n 3, 1) := by decide +kernel
theorem dX7_dinner_61 : decode cX7_dinner 61 = .ok (.iload 4, 2) := by decide +kernel
theorem dX7_dinner_63 : decode cX7_dinner 63 = .ok (.invokevirtual 94, 3) := by decide +kernel
theorem dX7_dinner_66 : decode cX7_dinner 66 = .ok (.istore 6, 2) := by decide +kernel
theorem dX7_dinner_68 : decode cX7_dinner 68 = .ok (.iload 6, 2) := by decide +kernel
theorem dX7_dinner_70 : decode cX7_dinner 70 = .ok (.ifCond .eq 10, 3) := by decide +kernel
theorem dX7_dinner_73 : decode cX7_dinner 73 = .ok (.aload_n 0, 1) := by decide +kernel
theorem dX7_dinner_74 : decode cX7_dinner 74 = .ok (.iload 6, 2) := by decide +kernel
theorem dX7_dinner_76 : decode cX7_dinner 76 = .ok (.invokevirtual 98, 3) := by decide +kernel
theorem dX7_dinner_79 : decode cX7_dinner 79 = .ok (.ireturn, 1) := by decide +kernel
theorem dX7_dinner_80 : decode cX7_dinner 80 = .ok (.aload_n 0, 1) := by decide +kernel
theorem dX7_dinner_81 : decode cX7_dinner 81 = .ok (.getfield 78, 3) := by decide +kernel
theorem dX7_dinner_84 : decode cX7_dinner 84 = .ok (.ifCond .ne 6, 3) := by decide +kernel
theorem dX7_dinner_87 : decode cX7_dinner 87 = .ok (.bipush (-3), 2) := by decide +kernel
theorem dX7_dinner_89 : decode cX7_dinner 89 = .ok (.ireturn, 1) := by decide +kernel
theorem dX7_dinner_90 : decode cX7_dinner 90 = .ok (.bipush 60, 2) := by decide +kernel
theorem dX7_dinner_92 : decode cX7_dinner 92 = .ok (.iload_n 1, 1) := by decide +kernel
theorem dX7_dinner_93 : decode cX7_dinner 93 = .ok (.imul, 1) := by decide +kernel
theorem dX7_dinner_94 : decode cX7_dinner 94 = .ok (.iload_n 3, 1) := by decide +kernel
theorem dX7_dinner_95 : decode cX7_dinner 95 = .ok (.iadd, 1) := by decide +kernel
theorem dX7_dinner_96 : decode cX7_dinner 96 = .ok (.istore 7, 2) := by decide +kernel
theorem dX7_dinner_98 : decode cX7_dinner 98 = .ok (.iconst 0, 1) := by decide +kernel
theorem dX7_dinner_99 : decode cX7_dinner 99 = .ok (.istore 8, 2) := by decide +kernel
theorem dX7_dinner_101 : decode cX7_dinner 101 = .ok (.iload 8, 2) := by decide +kernel
theorem dX7_dinner_103 : decode cX7_dinner 103 = .ok (.iload 4, 2) := by decide +kernel
theorem dX7_dinner_105 : decode cX7_dinner 105 = .ok (.if_icmp .ge 30, 3) := by decide +kernel
theorem dX7_dinner_108 : decode cX7_dinner 108 = .ok (.aload_n 0, 1) := by decide +kernel
theorem dX7_dinner_109 : decode cX7_dinner 109 = .ok (.getfield 16, 3) := by decide +kernel
theorem dX7_dinner_112 : decode cX7_dinner 112 = .ok (.iload 7, 2) := by decide +kernel
theorem dX7_dinner_114 : decode cX7_dinner 114 = .ok (.iload 8, 2) := by decide +kernel
theorem dX7_dinner_116 : decode cX7_dinner 116 = .ok (.iadd, 1) := by decide +kernel
theorem dX7_dinner_117 : decode cX7_dinner 117 = .ok (.iaload, 1) := by decide +kernel
theorem dX7_dinner_118 : decode cX7_dinner 118 = .ok (.iconst 0, 1) := by decide +kernel
theorem dX7_dinner_119 : decode cX7_dinner 119 = .ok (.iconst 3, 1) := by decide +kernel
theorem dX7_dinner_120 : decode cX7_dinner 120 = .ok (.invokestatic 74, 3) := by decide +kernel
theorem dX7_dinner_123 : decode cX7_dinner 123 = .ok (.ifCond .ne 6, 3) := by decide +kernel
theorem dX7_dinner_126 : decode cX7_dinner 126 = .ok (.bipush (-2), 2) := by decide +kernel
theorem dX7_dinner_128 : decode cX7_dinner 128 = .ok (.ireturn, 1) := by decide +kernel
theorem dX7_dinner_129 : decode cX7_dinner 129 = .ok (.iinc 8 1, 3) := by decide +kernel
theorem dX7_dinner_132 : decode cX7_dinner 132 = .ok (.goto (-31), 3) := by decide +kernel
theorem dX7_dinner_135 : decode cX7_dinner 135 = .ok (.aload_n 0, 1) := by decide +kernel
theorem dX7_dinner_136 : decode cX7_dinner 136 = .ok (.invokevirtual 171, 3) := by decide +kernel
theorem dX7_dinner_139 : decode cX7_dinner 139 = .ok (.istore 8, 2) := by decide +kernel
theorem dX7_dinner_141 : decode cX7_dinner 141 = .ok (.iconst 0, 1) := by decide +kernel
theorem dX7_dinner_142 : decode cX7_dinner 142 = .ok (.istore 9, 2) := by decide +kernel
theorem dX7_dinner_144 : decode cX7_dinner 144 = .ok (.iconst 0, 1) := by decide +kernel
theorem dX7_dinner_145 : decode cX7_dinner 145 = .ok (.istore 10, 2) := by decide +kernel
theorem dX7_dinner_147 : decode cX7_dinner 147 = .ok (.iload 10, 2) := by decide +kernel
theorem dX7_dinner_149 : decode cX7_dinner 149 = .ok (.iload 4, 2) := by decide +kernel
theorem dX7_dinner_151 : decode cX7_dinner 151 = .ok (.if_icmp .ge 76, 3) := by decide +kernel
theorem dX7_dinner_154 : decode cX7_dinner 154 = .ok (.aload_n 0, 1) := by decide +kernel
theorem dX7_dinner_155 : decode cX7_dinner 155 = .ok (.iload 8, 2) := by decide +kernel
theorem dX7_dinner_157 : decode cX7_dinner 157 = .ok (.aload_n 0, 1) := by decide +kernel
theorem dX7_dinner_158 : decode cX7_dinner 158 = .ok (.getfield 16, 3) := by decide +kernel
theorem dX7_dinner_161 : decode cX7_dinner 161 = .ok (.iload 7, 2) := by decide +kernel
theorem dX7_dinner_163 : decode cX7_dinner 163 = .ok (.iload 10, 2) := by decide +kernel
theorem dX7_dinner_165 : decode cX7_dinner 165 = .ok (.iadd, 1) := by decide +kernel
theorem dX7_dinner_166 : decode cX7_dinner 166 = .ok (.iaload, 1) := by decide +kernel
theorem dX7_dinner_167 : decode cX7_dinner 167 = .ok (.invokevirtual 175, 3) := by decide +kernel
theorem dX7_dinner_170 : decode cX7_dinner 170 = .ok (.istore 11, 2) := by decide +kernel
theorem dX7_dinner_172 : decode cX7_dinner 172 = .ok (.iload 11, 2) := by decide +kernel
theorem dX7_dinner_174 : decode cX7_dinner 174 = .ok (.bipush (-9), 2) := by decide +kernel
theorem dX7_dinner_176 : decode cX7_dinner 176 = .ok (.if_icmp .ne 20, 3) := by decide +kernel
theorem dX7_dinner_179 : decode cX7_dinner 179 = .ok (.iload 5, 2) := by decide +kernel
theorem dX7_dinner_181 : decode cX7_dinner 181 = .ok (.iconst 1, 1) := by decide +kernel
theorem dX7_dinner_182 : decode cX7_dinner 182 = .ok (.if_icmp .ne 8, 3) := by decide +kernel
theorem dX7_dinner_185 : decode cX7_dinner 185 = .ok (.iload 10, 2) := by decide +kernel
theorem dX7_dinner_187 : decode cX7_dinner 187 = .ok (.goto 8, 3) := by decide +kernel
theorem dX7_dinner_190 : decode cX7_dinner 190 = .ok (.bipush (-100), 2) := by decide +kernel
theorem dX7_dinner_192 : decode cX7_dinner 192 = .ok (.iload 10, 2) := by decide +kernel
theorem dX7_dinner_194 : decode cX7_dinner 194 = .ok (.isub, 1) := by decide +kernel
theorem dX7_dinner_195 : decode cX7_dinner 195 = .ok (.ireturn, 1) := by decide +kernel
theorem dX7_dinner_196 : decode cX7_dinner 196 = .ok (.iload 9, 2) := by decide +kernel
theorem dX7_dinner_198 : decode cX7_dinner 198 = .ok (.aload_n 0, 1) := by decide +kernel
theorem dX7_dinner_199 : decode cX7_dinner 199 = .ok (.iload 8, 2) := by decide +kernel
theorem dX7_dinner_201 : decode cX7_dinner 201 = .ok (.aload_n 0, 1) := by decide +kernel
theorem dX7_dinner_202 : decode cX7_dinner 202 = .ok (.getfield 16, 3) := by decide +kernel
theorem dX7_dinner_205 : decode cX7_dinner 205 = .ok (.iload 7, 2) := by decide +kernel
theorem dX7_dinner_207 : decode cX7_dinner 207 = .ok (.iload 10, 2) := by decide +kernel
theorem dX7_dinner_209 : decode cX7_dinner 209 = .ok (.iadd, 1) := by decide +kernel
theorem dX7_dinner_210 : decode cX7_dinner 210 = .ok (.iaload, 1) := by decide +kernel
theorem dX7_dinner_211 : decode cX7_dinner 211 = .ok (.invokevirtual 178, 3) := by decide +kernel
theorem dX7_dinner_214 : decode cX7_dinner 214 = .ok (.iadd, 1) := by decide +kernel
theorem dX7_dinner_215 : decode cX7_dinner 215 = .ok (.istore 9, 2) := by decide +kernel
theorem dX7_dinner_217 : decode cX7_dinner 217 = .ok (.iload 11, 2) := by decide +kernel
theorem dX7_dinner_219 : decode cX7_dinner 219 = .ok (.istore 8, 2) := by decide +kernel
theorem dX7_dinner_221 : decode cX7_dinner 221 = .ok (.iinc 10 1, 3) := by decide +kernel
theorem dX7_dinner_224 : decode cX7_dinner 224 = .ok (.goto (-77), 3) := by decide +kernel
theorem dX7_dinner_227 : decode cX7_dinner 227 = .ok (.iload 5, 2) := by decide +kernel
theorem dX7_dinner_229 : decode cX7_dinner 229 = .ok (.iconst 1, 1) := by decide +kernel
theorem dX7_dinner_230 : decode cX7_dinner 230 = .ok (.if_icmp .ne 8, 3) := by decide +kernel
theorem dX7_dinner_233 : decode cX7_dinner 233 = .ok (.bipush (-9), 2) := by decide +kernel
theorem dX7_dinner_235 : decode cX7_dinner 235 = .ok (.goto 21, 3) := by decide +kernel
theorem dX7_dinner_238 : decode cX7_dinner 238 = .ok (.aload_n 0, 1) := by decide +kernel
theorem dX7_dinner_239 : decode cX7_dinner 239 = .ok (.iload 5, 2) := by decide +kernel
theorem dX7_dinner_241 : decode cX7_dinner 241 = .ok (.iload 9, 2) := by decide +kernel
theorem dX7_dinner_243 : decode cX7_dinner 243 = .ok (.iload 8, 2) := by decide +kernel
theorem dX7_dinner_245 : decode cX7_dinner 245 = .ok (.bipush 8, 2) := by decide +kernel
theorem dX7_dinner_247 : decode cX7_dinner 247 = .ok (.idiv, 1) := by decide +kernel
theorem dX7_dinner_248 : decode cX7_dinner 248 = .ok (.iload 8, 2) := by decide +kernel
theorem dX7_dinner_250 : decode cX7_dinner 250 = .ok (.bipush 8, 2) := by decide +kernel
theorem dX7_dinner_252 : decode cX7_dinner 252 = .ok (.irem, 1) := by decide +kernel
theorem dX7_dinner_253 : decode cX7_dinner 253 = .ok (.invokevirtual 181, 3) := by decide +kernel
theorem dX7_dinner_256 : decode cX7_dinner 256 = .ok (.ireturn, 1) := by decide +kernel
theorem dX7_tellDinner_0 : decode cX7_tellDinner 0 = .ok (.iload_n 1, 1) := by decide +kernel
theorem dX7_tellDinner_1 : decode cX7_tellDinner 1 = .ok (.tableswitch 64 0 5 #[39, 64, 41, 50, 59, 61], 39) := by decide +kernel
theorem dX7_tellDinner_40 : decode cX7_tellDinner 40 = .ok (.iload_n 2, 1) := by decide +kernel
theorem dX7_tellDinner_41 : decode cX7_tellDinner 41 = .ok (.ireturn, 1) := by decide +kernel
theorem dX7_tellDinner_42 : decode cX7_tellDinner 42 = .ok (.aload_n 0, 1) := by decide +kernel
theorem dX7_tellDinner_43 : decode cX7_tellDinner 43 = .ok (.iconst 0, 1) := by decide +kernel
theorem dX7_tellDinner_44 : decode cX7_tellDinner 44 = .ok (.iload_n 3, 1) := by decide +kernel
theorem dX7_tellDinner_45 : decode cX7_tellDinner 45 = .ok (.iload 4, 2) := by decide +kernel
theorem dX7_tellDinner_47 : decode cX7_tellDinner 47 = .ok (.invokevirtual 165, 3) := by decide +kernel
theorem dX7_tellDinner_50 : decode cX7_tellDinner 50 = .ok (.ireturn, 1) := by decide +kernel
theorem dX7_tellDinner_51 : decode cX7_tellDinner 51 = .ok (.aload_n 0, 1) := by decide +kernel
theorem dX7_tellDinner_52 : decode cX7_tellDinner 52 = .ok (.iconst 1, 1) := by decide +kernel
theorem dX7_tellDinner_53 : decode cX7_tellDinner 53 = .ok (.iload_n 3, 1) := by decide +kernel
theorem dX7_tellDinner_54 : decode cX7_tellDinner 54 = .ok (.iload 4, 2) := by decide +kernel
theorem dX7_tellDinner_56 : decode cX7_tellDinner 56 = .ok (.invokevirtual 165, 3) := by decide +kernel
theorem dX7_tellDinner_59 : decode cX7_tellDinner 59 = .ok (.ireturn, 1) := by decide +kernel
theorem dX7_tellDinner_60 : decode cX7_tellDinner 60 = .ok (.iload_n 3, 1) := by decide +kernel
theorem dX7_tellDinner_61 : decode cX7_tellDinner 61 = .ok (.ireturn, 1) := by decide +kernel
theorem dX7_tellDinner_62 : decode cX7_tellDinner 62 = .ok (.iload 4, 2) := by decide +kernel
theorem dX7_tellDinner_64 : decode cX7_tellDinner 64 = .ok (.ireturn, 1) := by decide +kernel
theorem dX7_tellDinner_65 : decode cX7_tellDinner 65 = .ok (.aload_n 0, 1) := by decide +kernel
theorem dX7_tellDinner_66 : decode cX7_tellDinner 66 = .ok (.iload_n 1, 1) := by decide +kernel
theorem dX7_tellDinner_67 : decode cX7_tellDinner 67 = .ok (.bipush 10, 2) := by decide +kernel
theorem dX7_tellDinner_69 : decode cX7_tellDinner 69 = .ok (.isub, 1) := by decide +kernel
theorem dX7_tellDinner_70 : decode cX7_tellDinner 70 = .ok (.invokevirtual 159, 3) := by decide +kernel
theorem dX7_tellDinner_73 : decode cX7_tellDinner 73 = .ok (.ifCond .eq 22, 3) := by decide +kernel
theorem dX7_tellDinner_76 : decode cX7_tellDinner 76 = .ok (.aload_n 0, 1) := by decide +kernel
theorem dX7_tellDinner_77 : decode cX7_tellDinner 77 = .ok (.aload_n 0, 1) := by decide +kernel
theorem dX7_tellDinner_78 : decode cX7_tellDinner 78 = .ok (.getfield 28, 3) := by decide +kernel
theorem dX7_tellDinner_81 : decode cX7_tellDinner 81 = .ok (.iload_n 1, 1) := by decide +kernel
theorem dX7_tellDinner_82 : decode cX7_tellDinner 82 = .ok (.bipush 10, 2) := by decide +kernel
theorem dX7_tellDinner_84 : decode cX7_tellDinner 84 = .ok (.isub, 1) := by decide +kernel
theorem dX7_tellDinner_85 : decode cX7_tellDinner 85 = .ok (.iaload, 1) := by decide +kernel
theorem dX7_tellDinner_86 : decode cX7_tellDinner 86 = .ok (.iload_n 3, 1) := by decide +kernel
theorem dX7_tellDinner_87 : decode cX7_tellDinner 87 = .ok (.iload 4, 2) := by decide +kernel
theorem dX7_tellDinner_89 : decode cX7_tellDinner 89 = .ok (.invokevirtual 149, 3) := by decide +kernel
theorem dX7_tellDinner_92 : decode cX7_tellDinner 92 = .ok (.goto 5, 3) := by decide +kernel
theorem dX7_tellDinner_95 : decode cX7_tellDinner 95 = .ok (.bipush (-9), 2) := by decide +kernel
theorem dX7_tellDinner_97 : decode cX7_tellDinner 97 = .ok (.ireturn, 1) := by decide +kernel
theorem dX7_isState_0 : decode cX7_isState 0 = .ok (.iload_n 1, 1) := by decide +kernel
theorem dX7_isState_1 : decode cX7_isState 1 = .ok (.bipush 8, 2) := by decide +kernel
theorem dX7_isState_3 : decode cX7_isState 3 = .ok (.idiv, 1) := by decide +kernel
theorem dX7_isState_4 : decode cX7_isState 4 = .ok (.istore_n 2, 1) := by decide +kernel
theorem dX7_isState_5 : decode cX7_isState 5 = .ok (.iload_n 1, 1) := by decide +kernel
theorem dX7_isState_6 : decode cX7_isState 6 = .ok (.bipush 8, 2) := by decide +kernel
theorem dX7_isState_8 : decode cX7_isState 8 = .ok (.irem, 1) := by decide +kernel
theorem dX7_isState_9 : decode cX7_isState 9 = .ok (.istore_n 3, 1) := by decide +kernel
theorem dX7_isState_10 : decode cX7_isState 10 = .ok (.iload_n 2, 1) := by decide +kernel
theorem dX7_isState_11 : decode cX7_isState 11 = .ok (.aload_n 0, 1) := by decide +kernel
theorem dX7_isState_12 : decode cX7_isState 12 = .ok (.getfield 78, 3) := by decide +kernel
theorem dX7_isState_15 : decode cX7_isState 15 = .ok (.if_icmp .ge 20, 3) := by decide +kernel
theorem dX7_isState_18 : decode cX7_isState 18 = .ok (.iload_n 3, 1) := by decide +kernel
theorem dX7_isState_19 : decode cX7_isState 19 = .ok (.aload_n 0, 1) := by decide +kernel
theorem dX7_isState_20 : decode cX7_isState 20 = .ok (.getfield 78, 3) := by decide +kernel
theorem dX7_isState_23 : decode cX7_isState 23 = .ok (.if_icmp .ge 12, 3) := by decide +kernel
theorem dX7_isState_26 : decode cX7_isState 26 = .ok (.iload_n 2, 1) := by decide +kernel
theorem dX7_isState_27 : decode cX7_isState 27 = .ok (.iload_n 3, 1) := by decide +kernel
theorem dX7_isState_28 : decode cX7_isState 28 = .ok (.if_icmp .eq 7, 3) := by decide +kernel
theorem dX7_isState_31 : decode cX7_isState 31 = .ok (.iconst 1, 1) := by decide +kernel
theorem dX7_isState_32 : decode cX7_isState 32 = .ok (.goto 4, 3) := by decide +kernel
theorem dX7_isState_35 : decode cX7_isState 35 = .ok (.iconst 0, 1) := by decide +kernel
theorem dX7_isState_36 : decode cX7_isState 36 = .ok (.ireturn, 1) := by decide +kernel
theorem dX7_isGoal_0 : decode cX7_isGoal 0 = .ok (.iload_n 1, 1) := by decide +kernel
theorem dX7_isGoal_1 : decode cX7_isGoal 1 = .ok (.bipush 8, 2) := by decide +kernel
theorem dX7_isGoal_3 : decode cX7_isGoal 3 = .ok (.idiv, 1) := by decide +kernel
theorem dX7_isGoal_4 : decode cX7_isGoal 4 = .ok (.istore 4, 2) := by decide +kernel
theorem dX7_isGoal_6 : decode cX7_isGoal 6 = .ok (.iload_n 1, 1) := by decide +kernel
theorem dX7_isGoal_7 : decode cX7_isGoal 7 = .ok (.bipush 8, 2) := by decide +kernel
theorem dX7_isGoal_9 : decode cX7_isGoal 9 = .ok (.irem, 1) := by decide +kernel
theorem dX7_isGoal_10 : decode cX7_isGoal 10 = .ok (.istore 5, 2) := by decide +kernel
theorem dX7_isGoal_12 : decode cX7_isGoal 12 = .ok (.iload_n 2, 1) := by decide +kernel
theorem dX7_isGoal_13 : decode cX7_isGoal 13 = .ok (.bipush (-9), 2) := by decide +kernel
theorem dX7_isGoal_15 : decode cX7_isGoal 15 = .ok (.if_icmp .ne 32, 3) := by decide +kernel
theorem dX7_isGoal_18 : decode cX7_isGoal 18 = .ok (.aload_n 0, 1) := by decide +kernel
theorem dX7_isGoal_19 : decode cX7_isGoal 19 = .ok (.iconst 0, 1) := by decide +kernel
theorem dX7_isGoal_20 : decode cX7_isGoal 20 = .ok (.iload 4, 2) := by decide +kernel
theorem dX7_isGoal_22 : decode cX7_isGoal 22 = .ok (.iload 5, 2) := by decide +kernel
theorem dX7_isGoal_24 : decode cX7_isGoal 24 = .ok (.invokevirtual 165, 3) := by decide +kernel
theorem dX7_isGoal_27 : decode cX7_isGoal 27 = .ok (.aload_n 0, 1) := by decide +kernel
theorem dX7_isGoal_28 : decode cX7_isGoal 28 = .ok (.iconst 1, 1) := by decide +kernel
theorem dX7_isGoal_29 : decode cX7_isGoal 29 = .ok (.iload 4, 2) := by decide +kernel
theorem dX7_isGoal_31 : decode cX7_isGoal 31 = .ok (.iload 5, 2) := by decide +kernel
theorem dX7_isGoal_33 : decode cX7_isGoal 33 = .ok (.invokevirtual 165, 3) := by decide +kernel
theorem dX7_isGoal_36 : decode cX7_isGoal 36 = .ok (.if_icmp .ne 7, 3) := by decide +kernel
theorem dX7_isGoal_39 : decode cX7_isGoal 39 = .ok (.iconst 1, 1) := by decide +kernel
theorem dX7_isGoal_40 : decode cX7_isGoal 40 = .ok (.goto 30, 3) := by decide +kernel
theorem dX7_isGoal_43 : decode cX7_isGoal 43 = .ok (.iconst 0, 1) := by decide +kernel
theorem dX7_isGoal_44 : decode cX7_isGoal 44 = .ok (.goto 26, 3) := by decide +kernel
theorem dX7_isGoal_47 : decode cX7_isGoal 47 = .ok (.aload_n 0, 1) := by decide +kernel
theorem dX7_isGoal_48 : decode cX7_isGoal 48 = .ok (.aload_n 0, 1) := by decide +kernel
theorem dX7_isGoal_49 : decode cX7_isGoal 49 = .ok (.getfield 28, 3) := by decide +kernel
theorem dX7_isGoal_52 : decode cX7_isGoal 52 = .ok (.iload_n 2, 1) := by decide +kernel
theorem dX7_isGoal_53 : decode cX7_isGoal 53 = .ok (.iaload, 1) := by decide +kernel
theorem dX7_isGoal_54 : decode cX7_isGoal 54 = .ok (.iload 4, 2) := by decide +kernel
theorem dX7_isGoal_56 : decode cX7_isGoal 56 = .ok (.iload 5, 2) := by decide +kernel
theorem dX7_isGoal_58 : decode cX7_isGoal 58 = .ok (.invokevirtual 149, 3) := by decide +kernel
theorem dX7_isGoal_61 : decode cX7_isGoal 61 = .ok (.iload_n 3, 1) := by decide +kernel
theorem dX7_isGoal_62 : decode cX7_isGoal 62 = .ok (.if_icmp .ne 7, 3) := by decide +kernel
theorem dX7_isGoal_65 : decode cX7_isGoal 65 = .ok (.iconst 1, 1) := by decide +kernel
theorem dX7_isGoal_66 : decode cX7_isGoal 66 = .ok (.goto 4, 3) := by decide +kernel
theorem dX7_isGoal_69 : decode cX7_isGoal 69 = .ok (.iconst 0, 1) := by decide +kernel
theorem dX7_isGoal_70 : decode cX7_isGoal 70 = .ok (.ireturn, 1) := by decide +kernel
theorem dX7_costOf_0 : decode cX7_costOf 0 = .ok (.iload_n 3, 1) := by decide +kernel
theorem dX7_costOf_1 : decode cX7_costOf 1 = .ok (.aload_n 0, 1) := by decide +kernel
theorem dX7_costOf_2 : decode cX7_costOf 2 = .ok (.iload_n 1, 1) := by decide +kernel
theorem dX7_costOf_3 : decode cX7_costOf 3 = .ok (.iload_n 2, 1) := by decide +kernel
theorem dX7_costOf_4 : decode cX7_costOf 4 = .ok (.invokevirtual 178, 3) := by decide +kernel
theorem dX7_costOf_7 : decode cX7_costOf 7 = .ok (.imul, 1) := by decide +kernel
theorem dX7_costOf_8 : decode cX7_costOf 8 = .ok (.iconst 1, 1) := by decide +kernel
theorem dX7_costOf_9 : decode cX7_costOf 9 = .ok (.iadd, 1) := by decide +kernel
theorem dX7_costOf_10 : decode cX7_costOf 10 = .ok (.ireturn, 1) := by decide +kernel
theorem dX7_findLeft_0 : decode cX7_findLeft 0 = .ok (.iconst 0, 1) := by decide +kernel
theorem dX7_findLeft_1 : decode cX7_findLeft 1 = .ok (.istore 4, 2) := by decide +kernel
theorem dX7_findLeft_3 : decode cX7_findLeft 3 = .ok (.iload 4, 2) := by decide +kernel
theorem dX7_findLeft_5 : decode cX7_findLeft 5 = .ok (.bipush 64, 2) := by decide +kernel
theorem dX7_findLeft_7 : decode cX7_findLeft 7 = .ok (.if_icmp .ge 42, 3) := by decide +kernel
theorem dX7_findLeft_10 : decode cX7_findLeft 10 = .ok (.aload_n 0, 1) := by decide +kernel
theorem dX7_findLeft_11 : decode cX7_findLeft 11 = .ok (.getfield 49, 3) := by decide +kernel
theorem dX7_findLeft_14 : decode cX7_findLeft 14 = .ok (.iload 4, 2) := by decide +kernel
theorem dX7_findLeft_16 : decode cX7_findLeft 16 = .ok (.aload_n 0, 1) := by decide +kernel
theorem dX7_findLeft_17 : decode cX7_findLeft 17 = .ok (.iload 4, 2) := by decide +kernel
theorem dX7_findLeft_19 : decode cX7_findLeft 19 = .ok (.invokevirtual 184, 3) := by decide +kernel
theorem dX7_findLeft_22 : decode cX7_findLeft 22 = .ok (.ifCond .eq 18, 3) := by decide +kernel
theorem dX7_findLeft_25 : decode cX7_findLeft 25 = .ok (.aload_n 0, 1) := by decide +kernel
theorem dX7_findLeft_26 : decode cX7_findLeft 26 = .ok (.iload 4, 2) := by decide +kernel
theorem dX7_findLeft_28 : decode cX7_findLeft 28 = .ok (.iload_n 1, 1) := by decide +kernel
theorem dX7_findLeft_29 : decode cX7_findLeft 29 = .ok (.iload_n 2, 1) := by decide +kernel
theorem dX7_findLeft_30 : decode cX7_findLeft 30 = .ok (.invokevirtual 187, 3) := by decide +kernel
theorem dX7_findLeft_33 : decode cX7_findLeft 33 = .ok (.ifCond .eq 7, 3) := by decide +kernel
theorem dX7_findLeft_36 : decode cX7_findLeft 36 = .ok (.iconst 0, 1) := by decide +kernel
theorem dX7_findLeft_37 : decode cX7_findLeft 37 = .ok (.goto 5, 3) := by decide +kernel
theorem dX7_findLeft_40 : decode cX7_findLeft 40 = .ok (.ldc 190, 2) := by decide +kernel
theorem dX7_findLeft_42 : decode cX7_findLeft 42 = .ok (.iastore, 1) := by decide +kernel
theorem dX7_findLeft_43 : decode cX7_findLeft 43 = .ok (.iinc 4 1, 3) := by decide +kernel
theorem dX7_findLeft_46 : decode cX7_findLeft 46 = .ok (.goto (-43), 3) := by decide +kernel
theorem dX7_findLeft_49 : decode cX7_findLeft 49 = .ok (.iconst 1, 1) := by decide +kernel
theorem dX7_findLeft_50 : decode cX7_findLeft 50 = .ok (.istore 4, 2) := by decide +kernel
theorem dX7_findLeft_52 : decode cX7_findLeft 52 = .ok (.iload 4, 2) := by decide +kernel
theorem dX7_findLeft_54 : decode cX7_findLeft 54 = .ok (.ifCond .eq 123, 3) := by decide +kernel
theorem dX7_findLeft_57 : decode cX7_findLeft 57 = .ok (.iconst 0, 1) := by decide +kernel
theorem dX7_findLeft_58 : decode cX7_findLeft 58 = .ok (.istore 4, 2) := by decide +kernel
theorem dX7_findLeft_60 : decode cX7_findLeft 60 = .ok (.iconst 0, 1) := by decide +kernel
theorem dX7_findLeft_61 : decode cX7_findLeft 61 = .ok (.istore 5, 2) := by decide +kernel
theorem dX7_findLeft_63 : decode cX7_findLeft 63 = .ok (.iload 5, 2) := by decide +kernel
theorem dX7_findLeft_65 : decode cX7_findLeft 65 = .ok (.sipush 256, 3) := by decide +kernel
theorem dX7_findLeft_68 : decode cX7_findLeft 68 = .ok (.if_icmp .ge 106, 3) := by decide +kernel
theorem dX7_findLeft_71 : decode cX7_findLeft 71 = .ok (.iload 5, 2) := by decide +kernel
theorem dX7_findLeft_73 : decode cX7_findLeft 73 = .ok (.iconst 4, 1) := by decide +kernel
theorem dX7_findLeft_74 : decode cX7_findLeft 74 = .ok (.idiv, 1) := by decide +kernel
theorem dX7_findLeft_75 : decode cX7_findLeft 75 = .ok (.istore 6, 2) := by decide +kernel
theorem dX7_findLeft_77 : decode cX7_findLeft 77 = .ok (.aload_n 0, 1) := by decide +kernel
theorem dX7_findLeft_78 : decode cX7_findLeft 78 = .ok (.iload 6, 2) := by decide +kernel
theorem dX7_findLeft_80 : decode cX7_findLeft 80 = .ok (.invokevirtual 184, 3) := by decide +kernel
theorem dX7_findLeft_83 : decode cX7_findLeft 83 = .ok (.ifCond .eq 16, 3) := by decide +kernel
theorem dX7_findLeft_86 : decode cX7_findLeft 86 = .ok (.aload_n 0, 1) := by decide +kernel
theorem dX7_findLeft_87 : decode cX7_findLeft 87 = .ok (.iload 6, 2) := by decide +kernel
theorem dX7_findLeft_89 : decode cX7_findLeft 89 = .ok (.iload 5, 2) := by decide +kernel
theorem dX7_findLeft_91 : decode cX7_findLeft 91 = .ok (.iconst 4, 1) := by decide +kernel
theorem dX7_findLeft_92 : decode cX7_findLeft 92 = .ok (.irem, 1) := by decide +kernel
theorem dX7_findLeft_93 : decode cX7_findLeft 93 = .ok (.invokevirtual 175, 3) := by decide +kernel
theorem dX7_findLeft_96 : decode cX7_findLeft 96 = .ok (.goto 5, 3) := by decide +kernel
theorem dX7_findLeft_99 : decode cX7_findLeft 99 = .ok (.bipush (-9), 2) := by decide +kernel
theorem dX7_findLeft_101 : decode cX7_findLeft 101 = .ok (.istore 7, 2) := by decide +kernel
theorem dX7_findLeft_103 : decode cX7_findLeft 103 = .ok (.iload 7, 2) := by decide +kernel
theorem dX7_findLeft_105 : decode cX7_findLeft 105 = .ok (.bipush (-9), 2) := by decide +kernel
theorem dX7_findLeft_107 : decode cX7_findLeft 107 = .ok (.if_icmp .eq 61, 3) := by decide +kernel
theorem dX7_findLeft_110 : decode cX7_findLeft 110 = .ok (.aload_n 0, 1) := by decide +kernel
theorem dX7_findLeft_111 : decode cX7_findLeft 111 = .ok (.getfield 49, 3) := by decide +kernel
theorem dX7_findLeft_114 : decode cX7_findLeft 114 = .ok (.iload 7, 2) := by decide +kernel
theorem dX7_findLeft_116 : decode cX7_findLeft 116 = .ok (.iaload, 1) := by decide +kernel
theorem dX7_findLeft_117 : decode cX7_findLeft 117 = .ok (.aload_n 0, 1) := by decide +kernel
theorem dX7_findLeft_118 : decode cX7_findLeft 118 = .ok (.iload 6, 2) := by decide +kernel
theorem dX7_findLeft_120 : decode cX7_findLeft 120 = .ok (.iload 5, 2) := by decide +kernel
theorem dX7_findLeft_122 : decode cX7_findLeft 122 = .ok (.iconst 4, 1) := by decide +kernel
theorem dX7_findLeft_123 : decode cX7_findLeft 123 = .ok (.irem, 1) := by decide +kernel
theorem dX7_findLeft_124 : decode cX7_findLeft 124 = .ok (.iload_n 3, 1) := by decide +kernel
theorem dX7_findLeft_125 : decode cX7_findLeft 125 = .ok (.invokevirtual 191, 3) := by decide +kernel
theorem dX7_findLeft_128 : decode cX7_findLeft 128 = .ok (.iadd, 1) := by decide +kernel
theorem dX7_findLeft_129 : decode cX7_findLeft 129 = .ok (.aload_n 0, 1) := by decide +kernel
theorem dX7_findLeft_130 : decode cX7_findLeft 130 = .ok (.getfield 49, 3) := by decide +kernel
theorem dX7_findLeft_133 : decode cX7_findLeft 133 = .ok (.iload 6, 2) := by decide +kernel
theorem dX7_findLeft_135 : decode cX7_findLeft 135 = .ok (.iaload, 1) := by decide +kernel
theorem dX7_findLeft_136 : decode cX7_findLeft 136 = .ok (.if_icmp .ge 32, 3) := by decide +kernel
theorem dX7_findLeft_139 : decode cX7_findLeft 139 = .ok (.aload_n 0, 1) := by decide +kernel
theorem dX7_findLeft_140 : decode cX7_findLeft 140 = .ok (.getfield 49, 3) := by decide +kernel
theorem dX7_findLeft_143 : decode cX7_findLeft 143 = .ok (.iload 6, 2) := by decide +kernel
theorem dX7_findLeft_145 : decode cX7_findLeft 145 = .ok (.aload_n 0, 1) := by decide +kernel
theorem dX7_findLeft_146 : decode cX7_findLeft 146 = .ok (.getfield 49, 3) := by decide +kernel
theorem dX7_findLeft_149 : decode cX7_findLeft 149 = .ok (.iload 7, 2) := by decide +kernel
theorem dX7_findLeft_151 : decode cX7_findLeft 151 = .ok (.iaload, 1) := by decide +kernel
theorem dX7_findLeft_152 : decode cX7_findLeft 152 = .ok (.aload_n 0, 1) := by decide +kernel
theorem dX7_findLeft_153 : decode cX7_findLeft 153 = .ok (.iload 6, 2) := by decide +kernel
theorem dX7_findLeft_155 : decode cX7_findLeft 155 = .ok (.iload 5, 2) := by decide +kernel
theorem dX7_findLeft_157 : decode cX7_findLeft 157 = .ok (.iconst 4, 1) := by decide +kernel
theorem dX7_findLeft_158 : decode cX7_findLeft 158 = .ok (.irem, 1) := by decide +kernel
theorem dX7_findLeft_159 : decode cX7_findLeft 159 = .ok (.iload_n 3, 1) := by decide +kernel
theorem dX7_findLeft_160 : decode cX7_findLeft 160 = .ok (.invokevirtual 191, 3) := by decide +kernel
theorem dX7_findLeft_163 : decode cX7_findLeft 163 = .ok (.iadd, 1) := by decide +kernel
theorem dX7_findLeft_164 : decode cX7_findLeft 164 = .ok (.iastore, 1) := by decide +kernel
theorem dX7_findLeft_165 : decode cX7_findLeft 165 = .ok (.iconst 1, 1) := by decide +kernel
theorem dX7_findLeft_166 : decode cX7_findLeft 166 = .ok (.istore 4, 2) := by decide +kernel
theorem dX7_findLeft_168 : decode cX7_findLeft 168 = .ok (.iinc 5 1, 3) := by decide +kernel
theorem dX7_findLeft_171 : decode cX7_findLeft 171 = .ok (.goto (-108), 3) := by decide +kernel
theorem dX7_findLeft_174 : decode cX7_findLeft 174 = .ok (.goto (-122), 3) := by decide +kernel
theorem dX7_findLeft_177 : decode cX7_findLeft 177 = .ok (.return_, 1) := by decide +kernel
theorem dX7_firstRequest_0 : decode cX7_firstRequest 0 = .ok (.iconst 0, 1) := by decide +kernel
theorem dX7_firstRequest_1 : decode cX7_firstRequest 1 = .ok (.istore_n 3, 1) := by decide +kernel
theorem dX7_firstRequest_2 : decode cX7_firstRequest 2 = .ok (.aload_n 0, 1) := by decide +kernel
theorem dX7_firstRequest_3 : decode cX7_firstRequest 3 = .ok (.iload_n 1, 1) := by decide +kernel
theorem dX7_firstRequest_4 : decode cX7_firstRequest 4 = .ok (.iload_n 3, 1) := by decide +kernel
theorem dX7_firstRequest_5 : decode cX7_firstRequest 5 = .ok (.invokevirtual 175, 3) := by decide +kernel
theorem dX7_firstRequest_8 : decode cX7_firstRequest 8 = .ok (.bipush (-9), 2) := by decide +kernel
theorem dX7_firstRequest_10 : decode cX7_firstRequest 10 = .ok (.if_icmp .eq 31, 3) := by decide +kernel
theorem dX7_firstRequest_13 : decode cX7_firstRequest 13 = .ok (.aload_n 0, 1) := by decide +kernel
theorem dX7_firstRequest_14 : decode cX7_firstRequest 14 = .ok (.getfield 49, 3) := by decide +kernel
theorem dX7_firstRequest_17 : decode cX7_firstRequest 17 = .ok (.aload_n 0, 1) := by decide +kernel
theorem dX7_firstRequest_18 : decode cX7_firstRequest 18 = .ok (.iload_n 1, 1) := by decide +kernel
theorem dX7_firstRequest_19 : decode cX7_firstRequest 19 = .ok (.iload_n 3, 1) := by decide +kernel
theorem dX7_firstRequest_20 : decode cX7_firstRequest 20 = .ok (.invokevirtual 175, 3) := by decide +kernel
theorem dX7_firstRequest_23 : decode cX7_firstRequest 23 = .ok (.iaload, 1) := by decide +kernel
theorem dX7_firstRequest_24 : decode cX7_firstRequest 24 = .ok (.aload_n 0, 1) := by decide +kernel
theorem dX7_firstRequest_25 : decode cX7_firstRequest 25 = .ok (.iload_n 1, 1) := by decide +kernel
theorem dX7_firstRequest_26 : decode cX7_firstRequest 26 = .ok (.iload_n 3, 1) := by decide +kernel
theorem dX7_firstRequest_27 : decode cX7_firstRequest 27 = .ok (.iload_n 2, 1) := by decide +kernel
theorem dX7_firstRequest_28 : decode cX7_firstRequest 28 = .ok (.invokevirtual 191, 3) := by decide +kernel
theorem dX7_firstRequest_31 : decode cX7_firstRequest 31 = .ok (.iadd, 1) := by decide +kernel
theorem dX7_firstRequest_32 : decode cX7_firstRequest 32 = .ok (.aload_n 0, 1) := by decide +kernel
theorem dX7_firstRequest_33 : decode cX7_firstRequest 33 = .ok (.getfield 49, 3) := by decide +kernel
theorem dX7_firstRequest_36 : decode cX7_firstRequest 36 = .ok (.iload_n 1, 1) := by decide +kernel
theorem dX7_firstRequest_37 : decode cX7_firstRequest 37 = .ok (.iaload, 1) := by decide +kernel
theorem dX7_firstRequest_38 : decode cX7_firstRequest 38 = .ok (.if_icmp .eq 9, 3) := by decide +kernel
theorem dX7_firstRequest_41 : decode cX7_firstRequest 41 = .ok (.iinc 3 1, 3) := by decide +kernel
theorem dX7_firstRequest_44 : decode cX7_firstRequest 44 = .ok (.goto (-42), 3) := by decide +kernel
theorem dX7_firstRequest_47 : decode cX7_firstRequest 47 = .ok (.iload_n 3, 1) := by decide +kernel
theorem dX7_firstRequest_48 : decode cX7_firstRequest 48 = .ok (.ireturn, 1) := by decide +kernel
theorem dX7_requestOf_0 : decode cX7_requestOf 0 = .ok (.aload_n 0, 1) := by decide +kernel
theorem dX7_requestOf_1 : decode cX7_requestOf 1 = .ok (.invokevirtual 171, 3) := by decide +kernel
theorem dX7_requestOf_4 : decode cX7_requestOf 4 = .ok (.istore_n 3, 1) := by decide +kernel
theorem dX7_requestOf_5 : decode cX7_requestOf 5 = .ok (.bipush (-9), 2) := by decide +kernel
theorem dX7_requestOf_7 : decode cX7_requestOf 7 = .ok (.istore 4, 2) := by decide +kernel
theorem dX7_requestOf_9 : decode cX7_requestOf 9 = .ok (.iconst 0, 1) := by decide +kernel
theorem dX7_requestOf_10 : decode cX7_requestOf 10 = .ok (.istore 5, 2) := by decide +kernel
theorem dX7_requestOf_12 : decode cX7_requestOf 12 = .ok (.iload 5, 2) := by decide +kernel
theorem dX7_requestOf_14 : decode cX7_requestOf 14 = .ok (.iload_n 1, 1) := by decide +kernel
theorem dX7_requestOf_15 : decode cX7_requestOf 15 = .ok (.if_icmp .gt 50, 3) := by decide +kernel
theorem dX7_requestOf_18 : decode cX7_requestOf 18 = .ok (.aload_n 0, 1) := by decide +kernel
theorem dX7_requestOf_19 : decode cX7_requestOf 19 = .ok (.getfield 49, 3) := by decide +kernel
theorem dX7_requestOf_22 : decode cX7_requestOf 22 = .ok (.iload_n 3, 1) := by decide +kernel
theorem dX7_requestOf_23 : decode cX7_requestOf 23 = .ok (.iaload, 1) := by decide +kernel
theorem dX7_requestOf_24 : decode cX7_requestOf 24 = .ok (.ifCond .ne 8, 3) := by decide +kernel
theorem dX7_requestOf_27 : decode cX7_requestOf 27 = .ok (.bipush (-9), 2) := by decide +kernel
theorem dX7_requestOf_29 : decode cX7_requestOf 29 = .ok (.goto 9, 3) := by decide +kernel
theorem dX7_requestOf_32 : decode cX7_requestOf 32 = .ok (.aload_n 0, 1) := by decide +kernel
theorem dX7_requestOf_33 : decode cX7_requestOf 33 = .ok (.iload_n 3, 1) := by decide +kernel
theorem dX7_requestOf_34 : decode cX7_requestOf 34 = .ok (.iload_n 2, 1) := by decide +kernel
theorem dX7_requestOf_35 : decode cX7_requestOf 35 = .ok (.invokevirtual 194, 3) := by decide +kernel
theorem dX7_requestOf_38 : decode cX7_requestOf 38 = .ok (.istore 4, 2) := by decide +kernel
theorem dX7_requestOf_40 : decode cX7_requestOf 40 = .ok (.iload 4, 2) := by decide +kernel
theorem dX7_requestOf_42 : decode cX7_requestOf 42 = .ok (.bipush (-9), 2) := by decide +kernel
theorem dX7_requestOf_44 : decode cX7_requestOf 44 = .ok (.if_icmp .ne 7, 3) := by decide +kernel
theorem dX7_requestOf_47 : decode cX7_requestOf 47 = .ok (.iload_n 3, 1) := by decide +kernel
theorem dX7_requestOf_48 : decode cX7_requestOf 48 = .ok (.goto 10, 3) := by decide +kernel
theorem dX7_requestOf_51 : decode cX7_requestOf 51 = .ok (.aload_n 0, 1) := by decide +kernel
theorem dX7_requestOf_52 : decode cX7_requestOf 52 = .ok (.iload_n 3, 1) := by decide +kernel
theorem dX7_requestOf_53 : decode cX7_requestOf 53 = .ok (.iload 4, 2) := by decide +kernel
theorem dX7_requestOf_55 : decode cX7_requestOf 55 = .ok (.invokevirtual 175, 3) := by decide +kernel
theorem dX7_requestOf_58 : decode cX7_requestOf 58 = .ok (.istore_n 3, 1) := by decide +kernel
theorem dX7_requestOf_59 : decode cX7_requestOf 59 = .ok (.iinc 5 1, 3) := by decide +kernel
theorem dX7_requestOf_62 : decode cX7_requestOf 62 = .ok (.goto (-50), 3) := by decide +kernel
theorem dX7_requestOf_65 : decode cX7_requestOf 65 = .ok (.iload 4, 2) := by decide +kernel
theorem dX7_requestOf_67 : decode cX7_requestOf 67 = .ok (.ireturn, 1) := by decide +kernel
theorem dX7_ask_0 : decode cX7_ask 0 = .ok (.aload_n 0, 1) := by decide +kernel
theorem dX7_ask_1 : decode cX7_ask 1 = .ok (.iload_n 1, 1) := by decide +kernel
theorem dX7_ask_2 : decode cX7_ask 2 = .ok (.invokevirtual 159, 3) := by decide +kernel
theorem dX7_ask_5 : decode cX7_ask 5 = .ok (.ifCond .eq 10, 3) := by decide +kernel
theorem dX7_ask_8 : decode cX7_ask 8 = .ok (.iload_n 2, 1) := by decide +kernel
theorem dX7_ask_9 : decode cX7_ask 9 = .ok (.invokestatic 162, 3) := by decide +kernel
theorem dX7_ask_12 : decode cX7_ask 12 = .ok (.ifCond .ne 5, 3) := by decide +kernel
theorem dX7_ask_15 : decode cX7_ask 15 = .ok (.iconst (-1), 1) := by decide +kernel
theorem dX7_ask_16 : decode cX7_ask 16 = .ok (.ireturn, 1) := by decide +kernel
theorem dX7_ask_17 : decode cX7_ask 17 = .ok (.iload_n 3, 1) := by decide +kernel
theorem dX7_ask_18 : decode cX7_ask 18 = .ok (.bipush (-2), 2) := by decide +kernel
theorem dX7_ask_20 : decode cX7_ask 20 = .ok (.bipush 15, 2) := by decide +kernel
theorem dX7_ask_22 : decode cX7_ask 22 = .ok (.invokestatic 74, 3) := by decide +kernel
theorem dX7_ask_25 : decode cX7_ask 25 = .ok (.ifCond .ne 6, 3) := by decide +kernel
theorem dX7_ask_28 : decode cX7_ask 28 = .ok (.bipush (-2), 2) := by decide +kernel
theorem dX7_ask_30 : decode cX7_ask 30 = .ok (.ireturn, 1) := by decide +kernel
theorem dX7_ask_31 : decode cX7_ask 31 = .ok (.aload_n 0, 1) := by decide +kernel
theorem dX7_ask_32 : decode cX7_ask 32 = .ok (.iload_n 1, 1) := by decide +kernel
theorem dX7_ask_33 : decode cX7_ask 33 = .ok (.iload_n 2, 1) := by decide +kernel
theorem dX7_ask_34 : decode cX7_ask 34 = .ok (.bipush 100, 2) := by decide +kernel
theorem dX7_ask_36 : decode cX7_ask 36 = .ok (.invokevirtual 197, 3) := by decide +kernel
theorem dX7_ask_39 : decode cX7_ask 39 = .ok (.aload_n 0, 1) := by decide +kernel
theorem dX7_ask_40 : decode cX7_ask 40 = .ok (.getfield 49, 3) := by decide +kernel
theorem dX7_ask_43 : decode cX7_ask 43 = .ok (.aload_n 0, 1) := by decide +kernel
theorem dX7_ask_44 : decode cX7_ask 44 = .ok (.invokevirtual 171, 3) := by decide +kernel
theorem dX7_ask_47 : decode cX7_ask 47 = .ok (.iaload, 1) := by decide +kernel
theorem dX7_ask_48 : decode cX7_ask 48 = .ok (.istore 4, 2) := by decide +kernel
theorem dX7_ask_50 : decode cX7_ask 50 = .ok (.iload 4, 2) := by decide +kernel
theorem dX7_ask_52 : decode cX7_ask 52 = .ok (.ldc 190, 2) := by decide +kernel
theorem dX7_ask_54 : decode cX7_ask 54 = .ok (.if_icmp .lt 6, 3) := by decide +kernel
theorem dX7_ask_57 : decode cX7_ask 57 = .ok (.bipush (-9), 2) := by decide +kernel
theorem dX7_ask_59 : decode cX7_ask 59 = .ok (.ireturn, 1) := by decide +kernel
theorem dX7_ask_60 : decode cX7_ask 60 = .ok (.iload_n 3, 1) := by decide +kernel
theorem dX7_ask_61 : decode cX7_ask 61 = .ok (.bipush (-2), 2) := by decide +kernel
theorem dX7_ask_63 : decode cX7_ask 63 = .ok (.if_icmp .ne 11, 3) := by decide +kernel
theorem dX7_ask_66 : decode cX7_ask 66 = .ok (.iload 4, 2) := by decide +kernel
theorem dX7_ask_68 : decode cX7_ask 68 = .ok (.bipush 100, 2) := by decide +kernel
theorem dX7_ask_70 : decode cX7_ask 70 = .ok (.idiv, 1) := by decide +kernel
theorem dX7_ask_71 : decode cX7_ask 71 = .ok (.goto 23, 3) := by decide +kernel
theorem dX7_ask_74 : decode cX7_ask 74 = .ok (.iload_n 3, 1) := by decide +kernel
theorem dX7_ask_75 : decode cX7_ask 75 = .ok (.iconst (-1), 1) := by decide +kernel
theorem dX7_ask_76 : decode cX7_ask 76 = .ok (.if_icmp .ne 11, 3) := by decide +kernel
theorem dX7_ask_79 : decode cX7_ask 79 = .ok (.iload 4, 2) := by decide +kernel
theorem dX7_ask_81 : decode cX7_ask 81 = .ok (.bipush 100, 2) := by decide +kernel
theorem dX7_ask_83 : decode cX7_ask 83 = .ok (.irem, 1) := by decide +kernel
theorem dX7_ask_84 : decode cX7_ask 84 = .ok (.goto 10, 3) := by decide +kernel
theorem dX7_ask_87 : decode cX7_ask 87 = .ok (.aload_n 0, 1) := by decide +kernel
theorem dX7_ask_88 : decode cX7_ask 88 = .ok (.iload_n 3, 1) := by decide +kernel
theorem dX7_ask_89 : decode cX7_ask 89 = .ok (.bipush 100, 2) := by decide +kernel
theorem dX7_ask_91 : decode cX7_ask 91 = .ok (.invokevirtual 201, 3) := by decide +kernel
theorem dX7_ask_94 : decode cX7_ask 94 = .ok (.ireturn, 1) := by decide +kernel
theorem dX7_treaty_0 : decode cX7_treaty 0 = .ok (.iload_n 1, 1) := by decide +kernel
theorem dX7_treaty_1 : decode cX7_treaty 1 = .ok (.iconst (-1), 1) := by decide +kernel
theorem dX7_treaty_2 : decode cX7_treaty 2 = .ok (.bipush 15, 2) := by decide +kernel
theorem dX7_treaty_4 : decode cX7_treaty 4 = .ok (.invokestatic 74, 3) := by decide +kernel
theorem dX7_treaty_7 : decode cX7_treaty 7 = .ok (.ifCond .ne 6, 3) := by decide +kernel
theorem dX7_treaty_10 : decode cX7_treaty 10 = .ok (.bipush (-2), 2) := by decide +kernel
theorem dX7_treaty_12 : decode cX7_treaty 12 = .ok (.ireturn, 1) := by decide +kernel
theorem dX7_treaty_13 : decode cX7_treaty 13 = .ok (.aload_n 0, 1) := by decide +kernel
theorem dX7_treaty_14 : decode cX7_treaty 14 = .ok (.getfield 78, 3) := by decide +kernel
theorem dX7_treaty_17 : decode cX7_treaty 17 = .ok (.ifCond .ne 6, 3) := by decide +kernel
theorem dX7_treaty_20 : decode cX7_treaty 20 = .ok (.bipush (-3), 2) := by decide +kernel
theorem dX7_treaty_22 : decode cX7_treaty 22 = .ok (.ireturn, 1) := by decide +kernel
theorem dX7_treaty_23 : decode cX7_treaty 23 = .ok (.aload_n 0, 1) := by decide +kernel
theorem dX7_treaty_24 : decode cX7_treaty 24 = .ok (.bipush (-9), 2) := by decide +kernel
theorem dX7_treaty_26 : decode cX7_treaty 26 = .ok (.bipush (-9), 2) := by decide +kernel
theorem dX7_treaty_28 : decode cX7_treaty 28 = .ok (.iconst 0, 1) := by decide +kernel
theorem dX7_treaty_29 : decode cX7_treaty 29 = .ok (.invokevirtual 197, 3) := by decide +kernel
theorem dX7_treaty_32 : decode cX7_treaty 32 = .ok (.aload_n 0, 1) := by decide +kernel
theorem dX7_treaty_33 : decode cX7_treaty 33 = .ok (.getfield 49, 3) := by decide +kernel
theorem dX7_treaty_36 : decode cX7_treaty 36 = .ok (.aload_n 0, 1) := by decide +kernel
theorem dX7_treaty_37 : decode cX7_treaty 37 = .ok (.invokevirtual 171, 3) := by decide +kernel
theorem dX7_treaty_40 : decode cX7_treaty 40 = .ok (.iaload, 1) := by decide +kernel
theorem dX7_treaty_41 : decode cX7_treaty 41 = .ok (.istore_n 2, 1) := by decide +kernel
theorem dX7_treaty_42 : decode cX7_treaty 42 = .ok (.iload_n 2, 1) := by decide +kernel
theorem dX7_treaty_43 : decode cX7_treaty 43 = .ok (.ldc 190, 2) := by decide +kernel
theorem dX7_treaty_45 : decode cX7_treaty 45 = .ok (.if_icmp .lt 6, 3) := by decide +kernel
theorem dX7_treaty_48 : decode cX7_treaty 48 = .ok (.bipush (-9), 2) := by decide +kernel
theorem dX7_treaty_50 : decode cX7_treaty 50 = .ok (.ireturn, 1) := by decide +kernel
theorem dX7_treaty_51 : decode cX7_treaty 51 = .ok (.iload_n 1, 1) := by decide +kernel
theorem dX7_treaty_52 : decode cX7_treaty 52 = .ok (.iconst (-1), 1) := by decide +kernel
theorem dX7_treaty_53 : decode cX7_treaty 53 = .ok (.if_icmp .ne 7, 3) := by decide +kernel
theorem dX7_treaty_56 : decode cX7_treaty 56 = .ok (.iload_n 2, 1) := by decide +kernel
theorem dX7_treaty_57 : decode cX7_treaty 57 = .ok (.goto 9, 3) := by decide +kernel
theorem dX7_treaty_60 : decode cX7_treaty 60 = .ok (.aload_n 0, 1) := by decide +kernel
theorem dX7_treaty_61 : decode cX7_treaty 61 = .ok (.iload_n 1, 1) := by decide +kernel
theorem dX7_treaty_62 : decode cX7_treaty 62 = .ok (.iconst 0, 1) := by decide +kernel
theorem dX7_treaty_63 : decode cX7_treaty 63 = .ok (.invokevirtual 201, 3) := by decide +kernel
theorem dX7_treaty_66 : decode cX7_treaty 66 = .ok (.ireturn, 1) := by decide +kernel
theorem dX7_behindRow_0 : decode cX7_behindRow 0 = .ok (.iconst 1, 1) := by decide +kernel
theorem dX7_behindRow_1 : decode cX7_behindRow 1 = .ok (.istore_n 3, 1) := by decide +kernel
theorem dX7_behindRow_2 : decode cX7_behindRow 2 = .ok (.iconst 1, 1) := by decide +kernel
theorem dX7_behindRow_3 : decode cX7_behindRow 3 = .ok (.istore 4, 2) := by decide +kernel
theorem dX7_behindRow_5 : decode cX7_behindRow 5 = .ok (.iload 4, 2) := by decide +kernel
theorem dX7_behindRow_7 : decode cX7_behindRow 7 = .ok (.iload_n 2, 1) := by decide +kernel
theorem dX7_behindRow_8 : decode cX7_behindRow 8 = .ok (.if_icmp .ge 13, 3) := by decide +kernel
theorem dX7_behindRow_11 : decode cX7_behindRow 11 = .ok (.iload_n 3, 1) := by decide +kernel
theorem dX7_behindRow_12 : decode cX7_behindRow 12 = .ok (.iconst 4, 1) := by decide +kernel
theorem dX7_behindRow_13 : decode cX7_behindRow 13 = .ok (.imul, 1) := by decide +kernel
theorem dX7_behindRow_14 : decode cX7_behindRow 14 = .ok (.istore_n 3, 1) := by decide +kernel
theorem dX7_behindRow_15 : decode cX7_behindRow 15 = .ok (.iinc 4 1, 3) := by decide +kernel
theorem dX7_behindRow_18 : decode cX7_behindRow 18 = .ok (.goto (-13), 3) := by decide +kernel
theorem dX7_behindRow_21 : decode cX7_behindRow 21 = .ok (.aload_n 0, 1) := by decide +kernel
theorem dX7_behindRow_22 : decode cX7_behindRow 22 = .ok (.invokevirtual 171, 3) := by decide +kernel
theorem dX7_behindRow_25 : decode cX7_behindRow 25 = .ok (.istore 4, 2) := by decide +kernel
theorem dX7_behindRow_27 : decode cX7_behindRow 27 = .ok (.iconst 0, 1) := by decide +kernel
theorem dX7_behindRow_28 : decode cX7_behindRow 28 = .ok (.istore 5, 2) := by decide +kernel
theorem dX7_behindRow_30 : decode cX7_behindRow 30 = .ok (.iload 5, 2) := by decide +kernel
theorem dX7_behindRow_32 : decode cX7_behindRow 32 = .ok (.iload_n 2, 1) := by decide +kernel
theorem dX7_behindRow_33 : decode cX7_behindRow 33 = .ok (.if_icmp .ge 42, 3) := by decide +kernel
theorem dX7_behindRow_36 : decode cX7_behindRow 36 = .ok (.iload 4, 2) := by decide +kernel
theorem dX7_behindRow_38 : decode cX7_behindRow 38 = .ok (.bipush (-9), 2) := by decide +kernel
theorem dX7_behindRow_40 : decode cX7_behindRow 40 = .ok (.if_icmp .eq 35, 3) := by decide +kernel
theorem dX7_behindRow_43 : decode cX7_behindRow 43 = .ok (.aload_n 0, 1) := by decide +kernel
theorem dX7_behindRow_44 : decode cX7_behindRow 44 = .ok (.iload 4, 2) := by decide +kernel
theorem dX7_behindRow_46 : decode cX7_behindRow 46 = .ok (.iload_n 1, 1) := by decide +kernel
theorem dX7_behindRow_47 : decode cX7_behindRow 47 = .ok (.iload_n 3, 1) := by decide +kernel
theorem dX7_behindRow_48 : decode cX7_behindRow 48 = .ok (.idiv, 1) := by decide +kernel
theorem dX7_behindRow_49 : decode cX7_behindRow 49 = .ok (.iconst 4, 1) := by decide +kernel
theorem dX7_behindRow_50 : decode cX7_behindRow 50 = .ok (.irem, 1) := by decide +kernel
theorem dX7_behindRow_51 : decode cX7_behindRow 51 = .ok (.invokevirtual 175, 3) := by decide +kernel
theorem dX7_behindRow_54 : decode cX7_behindRow 54 = .ok (.istore 4, 2) := by decide +kernel
theorem dX7_behindRow_56 : decode cX7_behindRow 56 = .ok (.iload_n 3, 1) := by decide +kernel
theorem dX7_behindRow_57 : decode cX7_behindRow 57 = .ok (.iconst 1, 1) := by decide +kernel
theorem dX7_behindRow_58 : decode cX7_behindRow 58 = .ok (.if_icmp .le 9, 3) := by decide +kernel
theorem dX7_behindRow_61 : decode cX7_behindRow 61 = .ok (.iload_n 3, 1) := by decide +kernel
theorem dX7_behindRow_62 : decode cX7_behindRow 62 = .ok (.iconst 4, 1) := by decide +kernel
theorem dX7_behindRow_63 : decode cX7_behindRow 63 = .ok (.idiv, 1) := by decide +kernel
theorem dX7_behindRow_64 : decode cX7_behindRow 64 = .ok (.goto 4, 3) := by decide +kernel
theorem dX7_behindRow_67 : decode cX7_behindRow 67 = .ok (.iconst 1, 1) := by decide +kernel
theorem dX7_behindRow_68 : decode cX7_behindRow 68 = .ok (.istore_n 3, 1) := by decide +kernel
theorem dX7_behindRow_69 : decode cX7_behindRow 69 = .ok (.iinc 5 1, 3) := by decide +kernel
theorem dX7_behindRow_72 : decode cX7_behindRow 72 = .ok (.goto (-42), 3) := by decide +kernel
theorem dX7_behindRow_75 : decode cX7_behindRow 75 = .ok (.iload 4, 2) := by decide +kernel
theorem dX7_behindRow_77 : decode cX7_behindRow 77 = .ok (.ireturn, 1) := by decide +kernel
theorem dX7_findGame_0 : decode cX7_findGame 0 = .ok (.iconst 1, 1) := by decide +kernel
theorem dX7_findGame_1 : decode cX7_findGame 1 = .ok (.istore_n 3, 1) := by decide +kernel
theorem dX7_findGame_2 : decode cX7_findGame 2 = .ok (.iconst 0, 1) := by decide +kernel
theorem dX7_findGame_3 : decode cX7_findGame 3 = .ok (.istore 4, 2) := by decide +kernel
theorem dX7_findGame_5 : decode cX7_findGame 5 = .ok (.iload 4, 2) := by decide +kernel
theorem dX7_findGame_7 : decode cX7_findGame 7 = .ok (.iload_n 2, 1) := by decide +kernel
theorem dX7_findGame_8 : decode cX7_findGame 8 = .ok (.if_icmp .ge 13, 3) := by decide +kernel
theorem dX7_findGame_11 : decode cX7_findGame 11 = .ok (.iload_n 3, 1) := by decide +kernel
theorem dX7_findGame_12 : decode cX7_findGame 12 = .ok (.iconst 4, 1) := by decide +kernel
theorem dX7_findGame_13 : decode cX7_findGame 13 = .ok (.imul, 1) := by decide +kernel
theorem dX7_findGame_14 : decode cX7_findGame 14 = .ok (.istore_n 3, 1) := by decide +kernel
theorem dX7_findGame_15 : decode cX7_findGame 15 = .ok (.iinc 4 1, 3) := by decide +kernel
theorem dX7_findGame_18 : decode cX7_findGame 18 = .ok (.goto (-13), 3) := by decide +kernel
theorem dX7_findGame_21 : decode cX7_findGame 21 = .ok (.iconst 0, 1) := by decide +kernel
theorem dX7_findGame_22 : decode cX7_findGame 22 = .ok (.istore 4, 2) := by decide +kernel
theorem dX7_findGame_24 : decode cX7_findGame 24 = .ok (.iload 4, 2) := by decide +kernel
theorem dX7_findGame_26 : decode cX7_findGame 26 = .ok (.iload_n 3, 1) := by decide +kernel
theorem dX7_findGame_27 : decode cX7_findGame 27 = .ok (.if_icmp .ge 73, 3) := by decide +kernel
theorem dX7_findGame_30 : decode cX7_findGame 30 = .ok (.aload_n 0, 1) := by decide +kernel
theorem dX7_findGame_31 : decode cX7_findGame 31 = .ok (.iload 4, 2) := by decide +kernel
theorem dX7_findGame_33 : decode cX7_findGame 33 = .ok (.iload_n 2, 1) := by decide +kernel
theorem dX7_findGame_34 : decode cX7_findGame 34 = .ok (.invokevirtual 204, 3) := by decide +kernel
theorem dX7_findGame_37 : decode cX7_findGame 37 = .ok (.istore 5, 2) := by decide +kernel
theorem dX7_findGame_39 : decode cX7_findGame 39 = .ok (.aload_n 0, 1) := by decide +kernel
theorem dX7_findGame_40 : decode cX7_findGame 40 = .ok (.getfield 52, 3) := by decide +kernel
theorem dX7_findGame_43 : decode cX7_findGame 43 = .ok (.iload 4, 2) := by decide +kernel
theorem dX7_findGame_45 : decode cX7_findGame 45 = .ok (.iload 5, 2) := by decide +kernel
theorem dX7_findGame_47 : decode cX7_findGame 47 = .ok (.bipush (-9), 2) := by decide +kernel
theorem dX7_findGame_49 : decode cX7_findGame 49 = .ok (.if_icmp .ne 8, 3) := by decide +kernel
theorem dX7_findGame_52 : decode cX7_findGame 52 = .ok (.bipush (-9), 2) := by decide +kernel
theorem dX7_findGame_54 : decode cX7_findGame 54 = .ok (.goto 39, 3) := by decide +kernel
theorem dX7_findGame_57 : decode cX7_findGame 57 = .ok (.bipush 100, 2) := by decide +kernel
theorem dX7_findGame_59 : decode cX7_findGame 59 = .ok (.aload_n 0, 1) := by decide +kernel
theorem dX7_findGame_60 : decode cX7_findGame 60 = .ok (.iload_n 1, 1) := by decide +kernel
theorem dX7_findGame_61 : decode cX7_findGame 61 = .ok (.iload 5, 2) := by decide +kernel
theorem dX7_findGame_63 : decode cX7_findGame 63 = .ok (.bipush 8, 2) := by decide +kernel
theorem dX7_findGame_65 : decode cX7_findGame 65 = .ok (.idiv, 1) := by decide +kernel
theorem dX7_findGame_66 : decode cX7_findGame 66 = .ok (.iload 5, 2) := by decide +kernel
theorem dX7_findGame_68 : decode cX7_findGame 68 = .ok (.bipush 8, 2) := by decide +kernel
theorem dX7_findGame_70 : decode cX7_findGame 70 = .ok (.irem, 1) := by decide +kernel
theorem dX7_findGame_71 : decode cX7_findGame 71 = .ok (.invokevirtual 165, 3) := by decide +kernel
theorem dX7_findGame_74 : decode cX7_findGame 74 = .ok (.iadd, 1) := by decide +kernel
theorem dX7_findGame_75 : decode cX7_findGame 75 = .ok (.aload_n 0, 1) := by decide +kernel
theorem dX7_findGame_76 : decode cX7_findGame 76 = .ok (.iconst 1, 1) := by decide +kernel
theorem dX7_findGame_77 : decode cX7_findGame 77 = .ok (.iload_n 1, 1) := by decide +kernel
theorem dX7_findGame_78 : decode cX7_findGame 78 = .ok (.isub, 1) := by decide +kernel
theorem dX7_findGame_79 : decode cX7_findGame 79 = .ok (.iload 5, 2) := by decide +kernel
theorem dX7_findGame_81 : decode cX7_findGame 81 = .ok (.bipush 8, 2) := by decide +kernel
theorem dX7_findGame_83 : decode cX7_findGame 83 = .ok (.idiv, 1) := by decide +kernel
theorem dX7_findGame_84 : decode cX7_findGame 84 = .ok (.iload 5, 2) := by decide +kernel
theorem dX7_findGame_86 : decode cX7_findGame 86 = .ok (.bipush 8, 2) := by decide +kernel
theorem dX7_findGame_88 : decode cX7_findGame 88 = .ok (.irem, 1) := by decide +kernel
theorem dX7_findGame_89 : decode cX7_findGame 89 = .ok (.invokevirtual 165, 3) := by decide +kernel
theorem dX7_findGame_92 : decode cX7_findGame 92 = .ok (.isub, 1) := by decide +kernel
theorem dX7_findGame_93 : decode cX7_findGame 93 = .ok (.iastore, 1) := by decide +kernel
theorem dX7_findGame_94 : decode cX7_findGame 94 = .ok (.iinc 4 1, 3) := by decide +kernel
theorem dX7_findGame_97 : decode cX7_findGame 97 = .ok (.goto (-73), 3) := by decide +kernel
theorem dX7_findGame_100 : decode cX7_findGame 100 = .ok (.iload_n 2, 1) := by decide +kernel
theorem dX7_findGame_101 : decode cX7_findGame 101 = .ok (.iconst 1, 1) := by decide +kernel
theorem dX7_findGame_102 : decode cX7_findGame 102 = .ok (.isub, 1) := by decide +kernel
theorem dX7_findGame_103 : decode cX7_findGame 103 = .ok (.istore 4, 2) := by decide +kernel
theorem dX7_findGame_105 : decode cX7_findGame 105 = .ok (.iload 4, 2) := by decide +kernel
theorem dX7_findGame_107 : decode cX7_findGame 107 = .ok (.ifCond .lt 53, 3) := by decide +kernel
theorem dX7_findGame_110 : decode cX7_findGame 110 = .ok (.iload_n 3, 1) := by decide +kernel
theorem dX7_findGame_111 : decode cX7_findGame 111 = .ok (.iconst 4, 1) := by decide +kernel
theorem dX7_findGame_112 : decode cX7_findGame 112 = .ok (.idiv, 1) := by decide +kernel
theorem dX7_findGame_113 : decode cX7_findGame 113 = .ok (.istore_n 3, 1) := by decide +kernel
theorem dX7_findGame_114 : decode cX7_findGame 114 = .ok (.iconst 0, 1) := by decide +kernel
theorem dX7_findGame_115 : decode cX7_findGame 115 = .ok (.istore 5, 2) := by decide +kernel
theorem dX7_findGame_117 : decode cX7_findGame 117 = .ok (.iload 5, 2) := by decide +kernel
theorem dX7_findGame_119 : decode cX7_findGame 119 = .ok (.iload_n 3, 1) := by decide +kernel
theorem dX7_findGame_120 : decode cX7_findGame 120 = .ok (.if_icmp .ge 34, 3) := by decide +kernel
theorem dX7_findGame_123 : decode cX7_findGame 123 = .ok (.aload_n 0, 1) := by decide +kernel
theorem dX7_findGame_124 : decode cX7_findGame 124 = .ok (.getfield 52, 3) := by decide +kernel
theorem dX7_findGame_127 : decode cX7_findGame 127 = .ok (.iload 5, 2) := by decide +kernel
theorem dX7_findGame_129 : decode cX7_findGame 129 = .ok (.aload_n 0, 1) := by decide +kernel
theorem dX7_findGame_130 : decode cX7_findGame 130 = .ok (.iload 5, 2) := by decide +kernel
theorem dX7_findGame_132 : decode cX7_findGame 132 = .ok (.iload 4, 2) := by decide +kernel
theorem dX7_findGame_134 : decode cX7_findGame 134 = .ok (.iconst 2, 1) := by decide +kernel
theorem dX7_findGame_135 : decode cX7_findGame 135 = .ok (.irem, 1) := by decide +kernel
theorem dX7_findGame_136 : decode cX7_findGame 136 = .ok (.ifCond .ne 7, 3) := by decide +kernel
theorem dX7_findGame_139 : decode cX7_findGame 139 = .ok (.iconst 1, 1) := by decide +kernel
theorem dX7_findGame_140 : decode cX7_findGame 140 = .ok (.goto 4, 3) := by decide +kernel
theorem dX7_findGame_143 : decode cX7_findGame 143 = .ok (.iconst 0, 1) := by decide +kernel
theorem dX7_findGame_144 : decode cX7_findGame 144 = .ok (.invokevirtual 207, 3) := by decide +kernel
theorem dX7_findGame_147 : decode cX7_findGame 147 = .ok (.iastore, 1) := by decide +kernel
theorem dX7_findGame_148 : decode cX7_findGame 148 = .ok (.iinc 5 1, 3) := by decide +kernel
theorem dX7_findGame_151 : decode cX7_findGame 151 = .ok (.goto (-34), 3) := by decide +kernel
theorem dX7_findGame_154 : decode cX7_findGame 154 = .ok (.iinc 4 (-1), 3) := by decide +kernel
theorem dX7_findGame_157 : decode cX7_findGame 157 = .ok (.goto (-52), 3) := by decide +kernel
theorem dX7_findGame_160 : decode cX7_findGame 160 = .ok (.return_, 1) := by decide +kernel
theorem dX7_bestOf_0 : decode cX7_bestOf 0 = .ok (.bipush (-9), 2) := by decide +kernel
theorem dX7_bestOf_2 : decode cX7_bestOf 2 = .ok (.istore_n 3, 1) := by decide +kernel
theorem dX7_bestOf_3 : decode cX7_bestOf 3 = .ok (.iconst 0, 1) := by decide +kernel
theorem dX7_bestOf_4 : decode cX7_bestOf 4 = .ok (.istore 4, 2) := by decide +kernel
theorem dX7_bestOf_6 : decode cX7_bestOf 6 = .ok (.iload 4, 2) := by decide +kernel
theorem dX7_bestOf_8 : decode cX7_bestOf 8 = .ok (.iconst 4, 1) := by decide +kernel
theorem dX7_bestOf_9 : decode cX7_bestOf 9 = .ok (.if_icmp .ge 63, 3) := by decide +kernel
theorem dX7_bestOf_12 : decode cX7_bestOf 12 = .ok (.aload_n 0, 1) := by decide +kernel
theorem dX7_bestOf_13 : decode cX7_bestOf 13 = .ok (.getfield 52, 3) := by decide +kernel
theorem dX7_bestOf_16 : decode cX7_bestOf 16 = .ok (.iconst 4, 1) := by decide +kernel
theorem dX7_bestOf_17 : decode cX7_bestOf 17 = .ok (.iload_n 1, 1) := by decide +kernel
theorem dX7_bestOf_18 : decode cX7_bestOf 18 = .ok (.imul, 1) := by decide +kernel
theorem dX7_bestOf_19 : decode cX7_bestOf 19 = .ok (.iload 4, 2) := by decide +kernel
theorem dX7_bestOf_21 : decode cX7_bestOf 21 = .ok (.iadd, 1) := by decide +kernel
theorem dX7_bestOf_22 : decode cX7_bestOf 22 = .ok (.iaload, 1) := by decide +kernel
theorem dX7_bestOf_23 : decode cX7_bestOf 23 = .ok (.istore 5, 2) := by decide +kernel
theorem dX7_bestOf_25 : decode cX7_bestOf 25 = .ok (.iload 5, 2) := by decide +kernel
theorem dX7_bestOf_27 : decode cX7_bestOf 27 = .ok (.bipush (-9), 2) := by decide +kernel
theorem dX7_bestOf_29 : decode cX7_bestOf 29 = .ok (.if_icmp .eq 37, 3) := by decide +kernel
theorem dX7_bestOf_32 : decode cX7_bestOf 32 = .ok (.iload_n 3, 1) := by decide +kernel
theorem dX7_bestOf_33 : decode cX7_bestOf 33 = .ok (.bipush (-9), 2) := by decide +kernel
theorem dX7_bestOf_35 : decode cX7_bestOf 35 = .ok (.if_icmp .eq 22, 3) := by decide +kernel
theorem dX7_bestOf_38 : decode cX7_bestOf 38 = .ok (.iload_n 2, 1) := by decide +kernel
theorem dX7_bestOf_39 : decode cX7_bestOf 39 = .ok (.ifCond .eq 12, 3) := by decide +kernel
theorem dX7_bestOf_42 : decode cX7_bestOf 42 = .ok (.iload 5, 2) := by decide +kernel
theorem dX7_bestOf_44 : decode cX7_bestOf 44 = .ok (.iload_n 3, 1) := by decide +kernel
theorem dX7_bestOf_45 : decode cX7_bestOf 45 = .ok (.if_icmp .le 21, 3) := by decide +kernel
theorem dX7_bestOf_48 : decode cX7_bestOf 48 = .ok (.goto 9, 3) := by decide +kernel
theorem dX7_bestOf_51 : decode cX7_bestOf 51 = .ok (.iload 5, 2) := by decide +kernel
theorem dX7_bestOf_53 : decode cX7_bestOf 53 = .ok (.iload_n 3, 1) := by decide +kernel
theorem dX7_bestOf_54 : decode cX7_bestOf 54 = .ok (.if_icmp .ge 12, 3) := by decide +kernel
theorem dX7_bestOf_57 : decode cX7_bestOf 57 = .ok (.iload 5, 2) := by decide +kernel
theorem dX7_bestOf_59 : decode cX7_bestOf 59 = .ok (.istore_n 3, 1) := by decide +kernel
theorem dX7_bestOf_60 : decode cX7_bestOf 60 = .ok (.aload_n 0, 1) := by decide +kernel
theorem dX7_bestOf_61 : decode cX7_bestOf 61 = .ok (.iload 4, 2) := by decide +kernel
theorem dX7_bestOf_63 : decode cX7_bestOf 63 = .ok (.putfield 211, 3) := by decide +kernel
theorem dX7_bestOf_66 : decode cX7_bestOf 66 = .ok (.iinc 4 1, 3) := by decide +kernel
theorem dX7_bestOf_69 : decode cX7_bestOf 69 = .ok (.goto (-63), 3) := by decide +kernel
theorem dX7_bestOf_72 : decode cX7_bestOf 72 = .ok (.iload_n 3, 1) := by decide +kernel
theorem dX7_bestOf_73 : decode cX7_bestOf 73 = .ok (.ireturn, 1) := by decide +kernel
theorem dX7_game_0 : decode cX7_game 0 = .ok (.iload_n 1, 1) := by decide +kernel
theorem dX7_game_1 : decode cX7_game 1 = .ok (.invokestatic 162, 3) := by decide +kernel
theorem dX7_game_4 : decode cX7_game 4 = .ok (.ifCond .ne 5, 3) := by decide +kernel
theorem dX7_game_7 : decode cX7_game 7 = .ok (.iconst (-1), 1) := by decide +kernel
theorem dX7_game_8 : decode cX7_game 8 = .ok (.ireturn, 1) := by decide +kernel
theorem dX7_game_9 : decode cX7_game 9 = .ok (.iload_n 2, 1) := by decide +kernel
theorem dX7_game_10 : decode cX7_game 10 = .ok (.iconst 1, 1) := by decide +kernel
theorem dX7_game_11 : decode cX7_game 11 = .ok (.iconst 4, 1) := by decide +kernel
theorem dX7_game_12 : decode cX7_game 12 = .ok (.invokestatic 74, 3) := by decide +kernel
theorem dX7_game_15 : decode cX7_game 15 = .ok (.ifCond .eq 12, 3) := by decide +kernel
theorem dX7_game_18 : decode cX7_game 18 = .ok (.iload_n 3, 1) := by decide +kernel
theorem dX7_game_19 : decode cX7_game 19 = .ok (.iconst 0, 1) := by decide +kernel
theorem dX7_game_20 : decode cX7_game 20 = .ok (.iconst 1, 1) := by decide +kernel
theorem dX7_game_21 : decode cX7_game 21 = .ok (.invokestatic 74, 3) := by decide +kernel
theorem dX7_game_24 : decode cX7_game 24 = .ok (.ifCond .ne 6, 3) := by decide +kernel
theorem dX7_game_27 : decode cX7_game 27 = .ok (.bipush (-2), 2) := by decide +kernel
theorem dX7_game_29 : decode cX7_game 29 = .ok (.ireturn, 1) := by decide +kernel
theorem dX7_game_30 : decode cX7_game 30 = .ok (.aload_n 0, 1) := by decide +kernel
theorem dX7_game_31 : decode cX7_game 31 = .ok (.getfield 78, 3) := by decide +kernel
theorem dX7_game_34 : decode cX7_game 34 = .ok (.ifCond .ne 6, 3) := by decide +kernel
theorem dX7_game_37 : decode cX7_game 37 = .ok (.bipush (-3), 2) := by decide +kernel
theorem dX7_game_39 : decode cX7_game 39 = .ok (.ireturn, 1) := by decide +kernel
theorem dX7_game_40 : decode cX7_game 40 = .ok (.aload_n 0, 1) := by decide +kernel
theorem dX7_game_41 : decode cX7_game 41 = .ok (.iload_n 1, 1) := by decide +kernel
theorem dX7_game_42 : decode cX7_game 42 = .ok (.iload_n 2, 1) := by decide +kernel
theorem dX7_game_43 : decode cX7_game 43 = .ok (.invokevirtual 214, 3) := by decide +kernel
theorem dX7_game_46 : decode cX7_game 46 = .ok (.iload_n 3, 1) := by decide +kernel
theorem dX7_game_47 : decode cX7_game 47 = .ok (.ifCond .ne 12, 3) := by decide +kernel
theorem dX7_game_50 : decode cX7_game 50 = .ok (.aload_n 0, 1) := by decide +kernel
theorem dX7_game_51 : decode cX7_game 51 = .ok (.getfield 52, 3) := by decide +kernel
theorem dX7_game_54 : decode cX7_game 54 = .ok (.iconst 0, 1) := by decide +kernel
theorem dX7_game_55 : decode cX7_game 55 = .ok (.iaload, 1) := by decide +kernel
theorem dX7_game_56 : decode cX7_game 56 = .ok (.goto 7, 3) := by decide +kernel
theorem dX7_game_59 : decode cX7_game 59 = .ok (.aload_n 0, 1) := by decide +kernel
theorem dX7_game_60 : decode cX7_game 60 = .ok (.getfield 211, 3) := by decide +kernel
theorem dX7_game_63 : decode cX7_game 63 = .ok (.ireturn, 1) := by decide +kernel
theorem dX7_size_0 : decode cX7_size 0 = .ok (.iconst 0, 1) := by decide +kernel
theorem dX7_size_1 : decode cX7_size 1 = .ok (.istore_n 1, 1) := by decide +kernel
theorem dX7_size_2 : decode cX7_size 2 = .ok (.iload_n 0, 1) := by decide +kernel
theorem dX7_size_3 : decode cX7_size 3 = .ok (.istore_n 2, 1) := by decide +kernel
theorem dX7_size_4 : decode cX7_size 4 = .ok (.iload_n 2, 1) := by decide +kernel
theorem dX7_size_5 : decode cX7_size 5 = .ok (.ifCond .le 16, 3) := by decide +kernel
theorem dX7_size_8 : decode cX7_size 8 = .ok (.iload_n 1, 1) := by decide +kernel
theorem dX7_size_9 : decode cX7_size 9 = .ok (.iload_n 2, 1) := by decide +kernel
theorem dX7_size_10 : decode cX7_size 10 = .ok (.iconst 1, 1) := by decide +kernel
theorem dX7_size_11 : decode cX7_size 11 = .ok (.iand, 1) := by decide +kernel
theorem dX7_size_12 : decode cX7_size 12 = .ok (.iadd, 1) := by decide +kernel
theorem dX7_size_13 : decode cX7_size 13 = .ok (.istore_n 1, 1) := by decide +kernel
theorem dX7_size_14 : decode cX7_size 14 = .ok (.iload_n 2, 1) := by decide +kernel
theorem dX7_size_15 : decode cX7_size 15 = .ok (.iconst 1, 1) := by decide +kernel
theorem dX7_size_16 : decode cX7_size 16 = .ok (.ishr, 1) := by decide +kernel
theorem dX7_size_17 : decode cX7_size 17 = .ok (.istore_n 2, 1) := by decide +kernel
theorem dX7_size_18 : decode cX7_size 18 = .ok (.goto (-14), 3) := by decide +kernel
theorem dX7_size_21 : decode cX7_size 21 = .ok (.iload_n 1, 1) := by decide +kernel
theorem dX7_size_22 : decode cX7_size 22 = .ok (.ireturn, 1) := by decide +kernel
theorem dX7_wetBy_0 : decode cX7_wetBy 0 = .ok (.iconst 0, 1) := by decide +kernel
theorem dX7_wetBy_1 : decode cX7_wetBy 1 = .ok (.istore_n 2, 1) := by decide +kernel
theorem dX7_wetBy_2 : decode cX7_wetBy 2 = .ok (.iconst 0, 1) := by decide +kernel
theorem dX7_wetBy_3 : decode cX7_wetBy 3 = .ok (.istore_n 3, 1) := by decide +kernel
theorem dX7_wetBy_4 : decode cX7_wetBy 4 = .ok (.iload_n 3, 1) := by decide +kernel
theorem dX7_wetBy_5 : decode cX7_wetBy 5 = .ok (.aload_n 0, 1) := by decide +kernel
theorem dX7_wetBy_6 : decode cX7_wetBy 6 = .ok (.getfield 78, 3) := by decide +kernel
theorem dX7_wetBy_9 : decode cX7_wetBy 9 = .ok (.if_icmp .ge 61, 3) := by decide +kernel
theorem dX7_wetBy_12 : decode cX7_wetBy 12 = .ok (.iload_n 3, 1) := by decide +kernel
theorem dX7_wetBy_13 : decode cX7_wetBy 13 = .ok (.iload_n 1, 1) := by decide +kernel
theorem dX7_wetBy_14 : decode cX7_wetBy 14 = .ok (.isub, 1) := by decide +kernel
theorem dX7_wetBy_15 : decode cX7_wetBy 15 = .ok (.aload_n 0, 1) := by decide +kernel
theorem dX7_wetBy_16 : decode cX7_wetBy 16 = .ok (.getfield 78, 3) := by decide +kernel
theorem dX7_wetBy_19 : decode cX7_wetBy 19 = .ok (.iadd, 1) := by decide +kernel
theorem dX7_wetBy_20 : decode cX7_wetBy 20 = .ok (.aload_n 0, 1) := by decide +kernel
theorem dX7_wetBy_21 : decode cX7_wetBy 21 = .ok (.getfield 78, 3) := by decide +kernel
theorem dX7_wetBy_24 : decode cX7_wetBy 24 = .ok (.irem, 1) := by decide +kernel
theorem dX7_wetBy_25 : decode cX7_wetBy 25 = .ok (.istore 4, 2) := by decide +kernel
theorem dX7_wetBy_27 : decode cX7_wetBy 27 = .ok (.iload_n 2, 1) := by decide +kernel
theorem dX7_wetBy_28 : decode cX7_wetBy 28 = .ok (.iload 4, 2) := by decide +kernel
theorem dX7_wetBy_30 : decode cX7_wetBy 30 = .ok (.aload_n 0, 1) := by decide +kernel
theorem dX7_wetBy_31 : decode cX7_wetBy 31 = .ok (.getfield 25, 3) := by decide +kernel
theorem dX7_wetBy_34 : decode cX7_wetBy 34 = .ok (.iload_n 1, 1) := by decide +kernel
theorem dX7_wetBy_35 : decode cX7_wetBy 35 = .ok (.iaload, 1) := by decide +kernel
theorem dX7_wetBy_36 : decode cX7_wetBy 36 = .ok (.if_icmp .le 19, 3) := by decide +kernel
theorem dX7_wetBy_39 : decode cX7_wetBy 39 = .ok (.aload_n 0, 1) := by decide +kernel
theorem dX7_wetBy_40 : decode cX7_wetBy 40 = .ok (.getfield 78, 3) := by decide +kernel
theorem dX7_wetBy_43 : decode cX7_wetBy 43 = .ok (.iload 4, 2) := by decide +kernel
theorem dX7_wetBy_45 : decode cX7_wetBy 45 = .ok (.isub, 1) := by decide +kernel
theorem dX7_wetBy_46 : decode cX7_wetBy 46 = .ok (.aload_n 0, 1) := by decide +kernel
theorem dX7_wetBy_47 : decode cX7_wetBy 47 = .ok (.getfield 25, 3) := by decide +kernel
theorem dX7_wetBy_50 : decode cX7_wetBy 50 = .ok (.iload_n 1, 1) := by decide +kernel
theorem dX7_wetBy_51 : decode cX7_wetBy 51 = .ok (.iaload, 1) := by decide +kernel
theorem dX7_wetBy_52 : decode cX7_wetBy 52 = .ok (.if_icmp .gt 9, 3) := by decide +kernel
theorem dX7_wetBy_55 : decode cX7_wetBy 55 = .ok (.iconst 1, 1) := by decide +kernel
theorem dX7_wetBy_56 : decode cX7_wetBy 56 = .ok (.iload_n 3, 1) := by decide +kernel
theorem dX7_wetBy_57 : decode cX7_wetBy 57 = .ok (.ishl, 1) := by decide +kernel
theorem dX7_wetBy_58 : decode cX7_wetBy 58 = .ok (.goto 4, 3) := by decide +kernel
theorem dX7_wetBy_61 : decode cX7_wetBy 61 = .ok (.iconst 0, 1) := by decide +kernel
theorem dX7_wetBy_62 : decode cX7_wetBy 62 = .ok (.ior, 1) := by decide +kernel
theorem dX7_wetBy_63 : decode cX7_wetBy 63 = .ok (.istore_n 2, 1) := by decide +kernel
theorem dX7_wetBy_64 : decode cX7_wetBy 64 = .ok (.iinc 3 1, 3) := by decide +kernel
theorem dX7_wetBy_67 : decode cX7_wetBy 67 = .ok (.goto (-63), 3) := by decide +kernel
theorem dX7_wetBy_70 : decode cX7_wetBy 70 = .ok (.iload_n 2, 1) := by decide +kernel
theorem dX7_wetBy_71 : decode cX7_wetBy 71 = .ok (.ireturn, 1) := by decide +kernel
theorem dX7_spilt_0 : decode cX7_spilt 0 = .ok (.aload_n 0, 1) := by decide +kernel
theorem dX7_spilt_1 : decode cX7_spilt 1 = .ok (.getfield 78, 3) := by decide +kernel
theorem dX7_spilt_4 : decode cX7_spilt 4 = .ok (.ifCond .ne 6, 3) := by decide +kernel
theorem dX7_spilt_7 : decode cX7_spilt 7 = .ok (.bipush (-3), 2) := by decide +kernel
theorem dX7_spilt_9 : decode cX7_spilt 9 = .ok (.ireturn, 1) := by decide +kernel
theorem dX7_spilt_10 : decode cX7_spilt 10 = .ok (.iload_n 1, 1) := by decide +kernel
theorem dX7_spilt_11 : decode cX7_spilt 11 = .ok (.iconst 0, 1) := by decide +kernel
theorem dX7_spilt_12 : decode cX7_spilt 12 = .ok (.iconst 1, 1) := by decide +kernel
theorem dX7_spilt_13 : decode cX7_spilt 13 = .ok (.aload_n 0, 1) := by decide +kernel
theorem dX7_spilt_14 : decode cX7_spilt 14 = .ok (.getfield 78, 3) := by decide +kernel
theorem dX7_spilt_17 : decode cX7_spilt 17 = .ok (.ishl, 1) := by decide +kernel
theorem dX7_spilt_18 : decode cX7_spilt 18 = .ok (.iconst 1, 1) := by decide +kernel
theorem dX7_spilt_19 : decode cX7_spilt 19 = .ok (.isub, 1) := by decide +kernel
theorem dX7_spilt_20 : decode cX7_spilt 20 = .ok (.invokestatic 74, 3) := by decide +kernel
theorem dX7_spilt_23 : decode cX7_spilt 23 = .ok (.ifCond .ne 6, 3) := by decide +kernel
theorem dX7_spilt_26 : decode cX7_spilt 26 = .ok (.bipush (-2), 2) := by decide +kernel
theorem dX7_spilt_28 : decode cX7_spilt 28 = .ok (.ireturn, 1) := by decide +kernel
theorem dX7_spilt_29 : decode cX7_spilt 29 = .ok (.bipush (-9), 2) := by decide +kernel
theorem dX7_spilt_31 : decode cX7_spilt 31 = .ok (.istore_n 2, 1) := by decide +kernel
theorem dX7_spilt_32 : decode cX7_spilt 32 = .ok (.iconst 0, 1) := by decide +kernel
theorem dX7_spilt_33 : decode cX7_spilt 33 = .ok (.istore_n 3, 1) := by decide +kernel
theorem dX7_spilt_34 : decode cX7_spilt 34 = .ok (.iload_n 3, 1) := by decide +kernel
theorem dX7_spilt_35 : decode cX7_spilt 35 = .ok (.iconst 1, 1) := by decide +kernel
theorem dX7_spilt_36 : decode cX7_spilt 36 = .ok (.aload_n 0, 1) := by decide +kernel
theorem dX7_spilt_37 : decode cX7_spilt 37 = .ok (.getfield 78, 3) := by decide +kernel
theorem dX7_spilt_40 : decode cX7_spilt 40 = .ok (.ishl, 1) := by decide +kernel
theorem dX7_spilt_41 : decode cX7_spilt 41 = .ok (.if_icmp .ge 84, 3) := by decide +kernel
theorem dX7_spilt_44 : decode cX7_spilt 44 = .ok (.iconst 0, 1) := by decide +kernel
theorem dX7_spilt_45 : decode cX7_spilt 45 = .ok (.istore 4, 2) := by decide +kernel
theorem dX7_spilt_47 : decode cX7_spilt 47 = .ok (.iconst 0, 1) := by decide +kernel
theorem dX7_spilt_48 : decode cX7_spilt 48 = .ok (.istore 5, 2) := by decide +kernel
theorem dX7_spilt_50 : decode cX7_spilt 50 = .ok (.iload 5, 2) := by decide +kernel
theorem dX7_spilt_52 : decode cX7_spilt 52 = .ok (.aload_n 0, 1) := by decide +kernel
theorem dX7_spilt_53 : decode cX7_spilt 53 = .ok (.getfield 78, 3) := by decide +kernel
theorem dX7_spilt_56 : decode cX7_spilt 56 = .ok (.if_icmp .ge 34, 3) := by decide +kernel
theorem dX7_spilt_59 : decode cX7_spilt 59 = .ok (.iload 4, 2) := by decide +kernel
theorem dX7_spilt_61 : decode cX7_spilt 61 = .ok (.iload_n 3, 1) := by decide +kernel
theorem dX7_spilt_62 : decode cX7_spilt 62 = .ok (.iload 5, 2) := by decide +kernel
theorem dX7_spilt_64 : decode cX7_spilt 64 = .ok (.ishr, 1) := by decide +kernel
theorem dX7_spilt_65 : decode cX7_spilt 65 = .ok (.iconst 1, 1) := by decide +kernel
theorem dX7_spilt_66 : decode cX7_spilt 66 = .ok (.iand, 1) := by decide +kernel
theorem dX7_spilt_67 : decode cX7_spilt 67 = .ok (.iconst 1, 1) := by decide +kernel
theorem dX7_spilt_68 : decode cX7_spilt 68 = .ok (.if_icmp .ne 12, 3) := by decide +kernel
theorem dX7_spilt_71 : decode cX7_spilt 71 = .ok (.aload_n 0, 1) := by decide +kernel
theorem dX7_spilt_72 : decode cX7_spilt 72 = .ok (.iload 5, 2) := by decide +kernel
theorem dX7_spilt_74 : decode cX7_spilt 74 = .ok (.invokevirtual 218, 3) := by decide +kernel
theorem dX7_spilt_77 : decode cX7_spilt 77 = .ok (.goto 4, 3) := by decide +kernel
theorem dX7_spilt_80 : decode cX7_spilt 80 = .ok (.iconst 0, 1) := by decide +kernel
theorem dX7_spilt_81 : decode cX7_spilt 81 = .ok (.ior, 1) := by decide +kernel
theorem dX7_spilt_82 : decode cX7_spilt 82 = .ok (.istore 4, 2) := by decide +kernel
theorem dX7_spilt_84 : decode cX7_spilt 84 = .ok (.iinc 5 1, 3) := by decide +kernel
theorem dX7_spilt_87 : decode cX7_spilt 87 = .ok (.goto (-37), 3) := by decide +kernel
theorem dX7_spilt_90 : decode cX7_spilt 90 = .ok (.iload 4, 2) := by decide +kernel
theorem dX7_spilt_92 : decode cX7_spilt 92 = .ok (.iload_n 1, 1) := by decide +kernel
theorem dX7_spilt_93 : decode cX7_spilt 93 = .ok (.if_icmp .ne 24, 3) := by decide +kernel
theorem dX7_spilt_96 : decode cX7_spilt 96 = .ok (.iload_n 2, 1) := by decide +kernel
theorem dX7_spilt_97 : decode cX7_spilt 97 = .ok (.bipush (-9), 2) := by decide +kernel
theorem dX7_spilt_99 : decode cX7_spilt 99 = .ok (.if_icmp .eq 14, 3) := by decide +kernel
theorem dX7_spilt_102 : decode cX7_spilt 102 = .ok (.iload_n 3, 1) := by decide +kernel
theorem dX7_spilt_103 : decode cX7_spilt 103 = .ok (.invokestatic 221, 3) := by decide +kernel
theorem dX7_spilt_106 : decode cX7_spilt 106 = .ok (.iload_n 2, 1) := by decide +kernel
theorem dX7_spilt_107 : decode cX7_spilt 107 = .ok (.invokestatic 221, 3) := by decide +kernel
theorem dX7_spilt_110 : decode cX7_spilt 110 = .ok (.if_icmp .ge 7, 3) := by decide +kernel
theorem dX7_spilt_113 : decode cX7_spilt 113 = .ok (.iload_n 3, 1) := by decide +kernel
theorem dX7_spilt_114 : decode cX7_spilt 114 = .ok (.goto 4, 3) := by decide +kernel
theorem dX7_spilt_117 : decode cX7_spilt 117 = .ok (.iload_n 2, 1) := by decide +kernel
theorem dX7_spilt_118 : decode cX7_spilt 118 = .ok (.istore_n 2, 1) := by decide +kernel
theorem dX7_spilt_119 : decode cX7_spilt 119 = .ok (.iinc 3 1, 3) := by decide +kernel
theorem dX7_spilt_122 : decode cX7_spilt 122 = .ok (.goto (-88), 3) := by decide +kernel
theorem dX7_spilt_125 : decode cX7_spilt 125 = .ok (.iload_n 2, 1) := by decide +kernel
theorem dX7_spilt_126 : decode cX7_spilt 126 = .ok (.ireturn, 1) := by decide +kernel
theorem dX7_passAbout_0 : decode cX7_passAbout 0 = .ok (.iconst 0, 1) := by decide +kernel
theorem dX7_passAbout_1 : decode cX7_passAbout 1 = .ok (.istore_n 2, 1) := by decide +kernel
theorem dX7_passAbout_2 : decode cX7_passAbout 2 = .ok (.iload_n 2, 1) := by decide +kernel
theorem dX7_passAbout_3 : decode cX7_passAbout 3 = .ok (.aload_n 0, 1) := by decide +kernel
theorem dX7_passAbout_4 : decode cX7_passAbout 4 = .ok (.getfield 78, 3) := by decide +kernel
theorem dX7_passAbout_7 : decode cX7_passAbout 7 = .ok (.if_icmp .ge 16, 3) := by decide +kernel
theorem dX7_passAbout_10 : decode cX7_passAbout 10 = .ok (.aload_n 0, 1) := by decide +kernel
theorem dX7_passAbout_11 : decode cX7_passAbout 11 = .ok (.getfield 59, 3) := by decide +kernel
theorem dX7_passAbout_14 : decode cX7_passAbout 14 = .ok (.iload_n 2, 1) := by decide +kernel
theorem dX7_passAbout_15 : decode cX7_passAbout 15 = .ok (.lconst 0, 1) := by decide +kernel
theorem dX7_passAbout_16 : decode cX7_passAbout 16 = .ok (.lastore, 1) := by decide +kernel
theorem dX7_passAbout_17 : decode cX7_passAbout 17 = .ok (.iinc 2 1, 3) := by decide +kernel
theorem dX7_passAbout_20 : decode cX7_passAbout 20 = .ok (.goto (-18), 3) := by decide +kernel
theorem dX7_passAbout_23 : decode cX7_passAbout 23 = .ok (.iconst 0, 1) := by decide +kernel
theorem dX7_passAbout_24 : decode cX7_passAbout 24 = .ok (.istore_n 2, 1) := by decide +kernel
theorem dX7_passAbout_25 : decode cX7_passAbout 25 = .ok (.iload_n 2, 1) := by decide +kernel
theorem dX7_passAbout_26 : decode cX7_passAbout 26 = .ok (.iconst 2, 1) := by decide +kernel
theorem dX7_passAbout_27 : decode cX7_passAbout 27 = .ok (.aload_n 0, 1) := by decide +kernel
theorem dX7_passAbout_28 : decode cX7_passAbout 28 = .ok (.getfield 78, 3) := by decide +kernel
theorem dX7_passAbout_31 : decode cX7_passAbout 31 = .ok (.imul, 1) := by decide +kernel
theorem dX7_passAbout_32 : decode cX7_passAbout 32 = .ok (.if_icmp .ge 71, 3) := by decide +kernel
theorem dX7_passAbout_35 : decode cX7_passAbout 35 = .ok (.aload_n 0, 1) := by decide +kernel
theorem dX7_passAbout_36 : decode cX7_passAbout 36 = .ok (.iload_n 2, 1) := by decide +kernel
theorem dX7_passAbout_37 : decode cX7_passAbout 37 = .ok (.iconst 2, 1) := by decide +kernel
theorem dX7_passAbout_38 : decode cX7_passAbout 38 = .ok (.idiv, 1) := by decide +kernel
theorem dX7_passAbout_39 : decode cX7_passAbout 39 = .ok (.iload_n 2, 1) := by decide +kernel
theorem dX7_passAbout_40 : decode cX7_passAbout 40 = .ok (.iconst 2, 1) := by decide +kernel
theorem dX7_passAbout_41 : decode cX7_passAbout 41 = .ok (.irem, 1) := by decide +kernel
theorem dX7_passAbout_42 : decode cX7_passAbout 42 = .ok (.invokevirtual 168, 3) := by decide +kernel
theorem dX7_passAbout_45 : decode cX7_passAbout 45 = .ok (.istore_n 3, 1) := by decide +kernel
theorem dX7_passAbout_46 : decode cX7_passAbout 46 = .ok (.iload_n 3, 1) := by decide +kernel
theorem dX7_passAbout_47 : decode cX7_passAbout 47 = .ok (.aload_n 0, 1) := by decide +kernel
theorem dX7_passAbout_48 : decode cX7_passAbout 48 = .ok (.getfield 126, 3) := by decide +kernel
theorem dX7_passAbout_51 : decode cX7_passAbout 51 = .ok (.if_icmp .eq 23, 3) := by decide +kernel
theorem dX7_passAbout_54 : decode cX7_passAbout 54 = .ok (.aload_n 0, 1) := by decide +kernel
theorem dX7_passAbout_55 : decode cX7_passAbout 55 = .ok (.getfield 59, 3) := by decide +kernel
theorem dX7_passAbout_58 : decode cX7_passAbout 58 = .ok (.iload_n 3, 1) := by decide +kernel
theorem dX7_passAbout_59 : decode cX7_passAbout 59 = .ok (.dup2, 1) := by decide +kernel
theorem dX7_passAbout_60 : decode cX7_passAbout 60 = .ok (.laload, 1) := by decide +kernel
theorem dX7_passAbout_61 : decode cX7_passAbout 61 = .ok (.aload_n 0, 1) := by decide +kernel
theorem dX7_passAbout_62 : decode cX7_passAbout 62 = .ok (.getfield 55, 3) := by decide +kernel
theorem dX7_passAbout_65 : decode cX7_passAbout 65 = .ok (.iload_n 2, 1) := by decide +kernel
theorem dX7_passAbout_66 : decode cX7_passAbout 66 = .ok (.iconst 2, 1) := by decide +kernel
theorem dX7_passAbout_67 : decode cX7_passAbout 67 = .ok (.idiv, 1) := by decide +kernel
theorem dX7_passAbout_68 : decode cX7_passAbout 68 = .ok (.laload, 1) := by decide +kernel
theorem dX7_passAbout_69 : decode cX7_passAbout 69 = .ok (.ladd, 1) := by decide +kernel
theorem dX7_passAbout_70 : decode cX7_passAbout 70 = .ok (.lastore, 1) := by decide +kernel
theorem dX7_passAbout_71 : decode cX7_passAbout 71 = .ok (.goto 26, 3) := by decide +kernel
theorem dX7_passAbout_74 : decode cX7_passAbout 74 = .ok (.iload_n 1, 1) := by decide +kernel
theorem dX7_passAbout_75 : decode cX7_passAbout 75 = .ok (.ifCond .eq 22, 3) := by decide +kernel
theorem dX7_passAbout_78 : decode cX7_passAbout 78 = .ok (.aload_n 0, 1) := by decide +kernel
theorem dX7_passAbout_79 : decode cX7_passAbout 79 = .ok (.getfield 59, 3) := by decide +kernel
theorem dX7_passAbout_82 : decode cX7_passAbout 82 = .ok (.iload_n 2, 1) := by decide +kernel
theorem dX7_passAbout_83 : decode cX7_passAbout 83 = .ok (.iconst 2, 1) := by decide +kernel
theorem dX7_passAbout_84 : decode cX7_passAbout 84 = .ok (.idiv, 1) := by decide +kernel
theorem dX7_passAbout_85 : decode cX7_passAbout 85 = .ok (.dup2, 1) := by decide +kernel
theorem dX7_passAbout_86 : decode cX7_passAbout 86 = .ok (.laload, 1) := by decide +kernel
theorem dX7_passAbout_87 : decode cX7_passAbout 87 = .ok (.aload_n 0, 1) := by decide +kernel
theorem dX7_passAbout_88 : decode cX7_passAbout 88 = .ok (.getfield 55, 3) := by decide +kernel
theorem dX7_passAbout_91 : decode cX7_passAbout 91 = .ok (.iload_n 2, 1) := by decide +kernel
theorem dX7_passAbout_92 : decode cX7_passAbout 92 = .ok (.iconst 2, 1) := by decide +kernel
theorem dX7_passAbout_93 : decode cX7_passAbout 93 = .ok (.idiv, 1) := by decide +kernel
theorem dX7_passAbout_94 : decode cX7_passAbout 94 = .ok (.laload, 1) := by decide +kernel
theorem dX7_passAbout_95 : decode cX7_passAbout 95 = .ok (.ladd, 1) := by decide +kernel
theorem dX7_passAbout_96 : decode cX7_passAbout 96 = .ok (.lastore, 1) := by decide +kernel
theorem dX7_passAbout_97 : decode cX7_passAbout 97 = .ok (.iinc 2 1, 3) := by decide +kernel
theorem dX7_passAbout_100 : decode cX7_passAbout 100 = .ok (.goto (-75), 3) := by decide +kernel
theorem dX7_passAbout_103 : decode cX7_passAbout 103 = .ok (.iconst 0, 1) := by decide +kernel
theorem dX7_passAbout_104 : decode cX7_passAbout 104 = .ok (.istore_n 2, 1) := by decide +kernel
theorem dX7_passAbout_105 : decode cX7_passAbout 105 = .ok (.iload_n 2, 1) := by decide +kernel
theorem dX7_passAbout_106 : decode cX7_passAbout 106 = .ok (.aload_n 0, 1) := by decide +kernel
theorem dX7_passAbout_107 : decode cX7_passAbout 107 = .ok (.getfield 78, 3) := by decide +kernel
theorem dX7_passAbout_110 : decode cX7_passAbout 110 = .ok (.if_icmp .ge 21, 3) := by decide +kernel
theorem dX7_passAbout_113 : decode cX7_passAbout 113 = .ok (.aload_n 0, 1) := by decide +kernel
theorem dX7_passAbout_114 : decode cX7_passAbout 114 = .ok (.getfield 55, 3) := by decide +kernel
theorem dX7_passAbout_117 : decode cX7_passAbout 117 = .ok (.iload_n 2, 1) := by decide +kernel
theorem dX7_passAbout_118 : decode cX7_passAbout 118 = .ok (.aload_n 0, 1) := by decide +kernel
theorem dX7_passAbout_119 : decode cX7_passAbout 119 = .ok (.getfield 59, 3) := by decide +kernel
theorem dX7_passAbout_122 : decode cX7_passAbout 122 = .ok (.iload_n 2, 1) := by decide +kernel
theorem dX7_passAbout_123 : decode cX7_passAbout 123 = .ok (.laload, 1) := by decide +kernel
theorem dX7_passAbout_124 : decode cX7_passAbout 124 = .ok (.lastore, 1) := by decide +kernel
theorem dX7_passAbout_125 : decode cX7_passAbout 125 = .ok (.iinc 2 1, 3) := by decide +kernel
theorem dX7_passAbout_128 : decode cX7_passAbout 128 = .ok (.goto (-23), 3) := by decide +kernel
theorem dX7_passAbout_131 : decode cX7_passAbout 131 = .ok (.return_, 1) := by decide +kernel
theorem dX7_beginAbout_0 : decode cX7_beginAbout 0 = .ok (.iconst 0, 1) := by decide +kernel
theorem dX7_beginAbout_1 : decode cX7_beginAbout 1 = .ok (.istore_n 1, 1) := by decide +kernel
theorem dX7_beginAbout_2 : decode cX7_beginAbout 2 = .ok (.iload_n 1, 1) := by decide +kernel
theorem dX7_beginAbout_3 : decode cX7_beginAbout 3 = .ok (.aload_n 0, 1) := by decide +kernel
theorem dX7_beginAbout_4 : decode cX7_beginAbout 4 = .ok (.getfield 78, 3) := by decide +kernel
theorem dX7_beginAbout_7 : decode cX7_beginAbout 7 = .ok (.if_icmp .ge 28, 3) := by decide +kernel
theorem dX7_beginAbout_10 : decode cX7_beginAbout 10 = .ok (.aload_n 0, 1) := by decide +kernel
theorem dX7_beginAbout_11 : decode cX7_beginAbout 11 = .ok (.getfield 55, 3) := by decide +kernel
theorem dX7_beginAbout_14 : decode cX7_beginAbout 14 = .ok (.iload_n 1, 1) := by decide +kernel
theorem dX7_beginAbout_15 : decode cX7_beginAbout 15 = .ok (.iload_n 1, 1) := by decide +kernel
theorem dX7_beginAbout_16 : decode cX7_beginAbout 16 = .ok (.aload_n 0, 1) := by decide +kernel
theorem dX7_beginAbout_17 : decode cX7_beginAbout 17 = .ok (.getfield 120, 3) := by decide +kernel
theorem dX7_beginAbout_20 : decode cX7_beginAbout 20 = .ok (.if_icmp .ne 7, 3) := by decide +kernel
theorem dX7_beginAbout_23 : decode cX7_beginAbout 23 = .ok (.lconst 1, 1) := by decide +kernel
theorem dX7_beginAbout_24 : decode cX7_beginAbout 24 = .ok (.goto 4, 3) := by decide +kernel
theorem dX7_beginAbout_27 : decode cX7_beginAbout 27 = .ok (.lconst 0, 1) := by decide +kernel
theorem dX7_beginAbout_28 : decode cX7_beginAbout 28 = .ok (.lastore, 1) := by decide +kernel
theorem dX7_beginAbout_29 : decode cX7_beginAbout 29 = .ok (.iinc 1 1, 3) := by decide +kernel
theorem dX7_beginAbout_32 : decode cX7_beginAbout 32 = .ok (.goto (-30), 3) := by decide +kernel
theorem dX7_beginAbout_35 : decode cX7_beginAbout 35 = .ok (.return_, 1) := by decide +kernel
theorem dX7_home_0 : decode cX7_home 0 = .ok (.iload_n 1, 1) := by decide +kernel
theorem dX7_home_1 : decode cX7_home 1 = .ok (.iconst 0, 1) := by decide +kernel
theorem dX7_home_2 : decode cX7_home 2 = .ok (.bipush 20, 2) := by decide +kernel
theorem dX7_home_4 : decode cX7_home 4 = .ok (.invokestatic 74, 3) := by decide +kernel
theorem dX7_home_7 : decode cX7_home 7 = .ok (.ifCond .eq 10, 3) := by decide +kernel
theorem dX7_home_10 : decode cX7_home 10 = .ok (.aload_n 0, 1) := by decide +kernel
theorem dX7_home_11 : decode cX7_home 11 = .ok (.getfield 78, 3) := by decide +kernel
theorem dX7_home_14 : decode cX7_home 14 = .ok (.ifCond .ne 7, 3) := by decide +kernel
theorem dX7_home_17 : decode cX7_home 17 = .ok (.ldc2_w 72, 3) := by decide +kernel
theorem dX7_home_20 : decode cX7_home 20 = .ok (.lreturn, 1) := by decide +kernel
theorem dX7_home_21 : decode cX7_home 21 = .ok (.aload_n 0, 1) := by decide +kernel
theorem dX7_home_22 : decode cX7_home 22 = .ok (.invokevirtual 224, 3) := by decide +kernel
theorem dX7_home_25 : decode cX7_home 25 = .ok (.iconst 0, 1) := by decide +kernel
theorem dX7_home_26 : decode cX7_home 26 = .ok (.istore_n 2, 1) := by decide +kernel
theorem dX7_home_27 : decode cX7_home 27 = .ok (.iload_n 2, 1) := by decide +kernel
theorem dX7_home_28 : decode cX7_home 28 = .ok (.iload_n 1, 1) := by decide +kernel
theorem dX7_home_29 : decode cX7_home 29 = .ok (.if_icmp .ge 14, 3) := by decide +kernel
theorem dX7_home_32 : decode cX7_home 32 = .ok (.aload_n 0, 1) := by decide +kernel
theorem dX7_home_33 : decode cX7_home 33 = .ok (.iconst 0, 1) := by decide +kernel
theorem dX7_home_34 : decode cX7_home 34 = .ok (.invokevirtual 227, 3) := by decide +kernel
theorem dX7_home_37 : decode cX7_home 37 = .ok (.iinc 2 1, 3) := by decide +kernel
theorem dX7_home_40 : decode cX7_home 40 = .ok (.goto (-13), 3) := by decide +kernel
theorem dX7_home_43 : decode cX7_home 43 = .ok (.aload_n 0, 1) := by decide +kernel
theorem dX7_home_44 : decode cX7_home 44 = .ok (.getfield 55, 3) := by decide +kernel
theorem dX7_home_47 : decode cX7_home 47 = .ok (.aload_n 0, 1) := by decide +kernel
theorem dX7_home_48 : decode cX7_home 48 = .ok (.getfield 120, 3) := by decide +kernel
theorem dX7_home_51 : decode cX7_home 51 = .ok (.laload, 1) := by decide +kernel
theorem dX7_home_52 : decode cX7_home 52 = .ok (.lreturn, 1) := by decide +kernel
theorem dX7_reading_0 : decode cX7_reading 0 = .ok (.aload_n 0, 1) := by decide +kernel
theorem dX7_reading_1 : decode cX7_reading 1 = .ok (.iload_n 1, 1) := by decide +kernel
theorem dX7_reading_2 : decode cX7_reading 2 = .ok (.invokevirtual 153, 3) := by decide +kernel
theorem dX7_reading_5 : decode cX7_reading 5 = .ok (.ifCond .ne 5, 3) := by decide +kernel
theorem dX7_reading_8 : decode cX7_reading 8 = .ok (.iconst (-1), 1) := by decide +kernel
theorem dX7_reading_9 : decode cX7_reading 9 = .ok (.ireturn, 1) := by decide +kernel
theorem dX7_reading_10 : decode cX7_reading 10 = .ok (.iload_n 2, 1) := by decide +kernel
theorem dX7_reading_11 : decode cX7_reading 11 = .ok (.iconst 0, 1) := by decide +kernel
theorem dX7_reading_12 : decode cX7_reading 12 = .ok (.bipush 19, 2) := by decide +kernel
theorem dX7_reading_14 : decode cX7_reading 14 = .ok (.invokestatic 74, 3) := by decide +kernel
theorem dX7_reading_17 : decode cX7_reading 17 = .ok (.ifCond .ne 6, 3) := by decide +kernel
theorem dX7_reading_20 : decode cX7_reading 20 = .ok (.bipush (-2), 2) := by decide +kernel
theorem dX7_reading_22 : decode cX7_reading 22 = .ok (.ireturn, 1) := by decide +kernel
theorem dX7_reading_23 : decode cX7_reading 23 = .ok (.aload_n 0, 1) := by decide +kernel
theorem dX7_reading_24 : decode cX7_reading 24 = .ok (.getfield 132, 3) := by decide +kernel
theorem dX7_reading_27 : decode cX7_reading 27 = .ok (.bipush 8, 2) := by decide +kernel
theorem dX7_reading_29 : decode cX7_reading 29 = .ok (.if_icmp .ne 6, 3) := by decide +kernel
theorem dX7_reading_32 : decode cX7_reading 32 = .ok (.bipush (-4), 2) := by decide +kernel
theorem dX7_reading_34 : decode cX7_reading 34 = .ok (.ireturn, 1) := by decide +kernel
theorem dX7_reading_35 : decode cX7_reading 35 = .ok (.aload_n 0, 1) := by decide +kernel
theorem dX7_reading_36 : decode cX7_reading 36 = .ok (.getfield 62, 3) := by decide +kernel
theorem dX7_reading_39 : decode cX7_reading 39 = .ok (.aload_n 0, 1) := by decide +kernel
theorem dX7_reading_40 : decode cX7_reading 40 = .ok (.getfield 132, 3) := by decide +kernel
theorem dX7_reading_43 : decode cX7_reading 43 = .ok (.iload_n 1, 1) := by decide +kernel
theorem dX7_reading_44 : decode cX7_reading 44 = .ok (.iastore, 1) := by decide +kernel
theorem dX7_reading_45 : decode cX7_reading 45 = .ok (.aload_n 0, 1) := by decide +kernel
theorem dX7_reading_46 : decode cX7_reading 46 = .ok (.getfield 65, 3) := by decide +kernel
theorem dX7_reading_49 : decode cX7_reading 49 = .ok (.aload_n 0, 1) := by decide +kernel
theorem dX7_reading_50 : decode cX7_reading 50 = .ok (.getfield 132, 3) := by decide +kernel
theorem dX7_reading_53 : decode cX7_reading 53 = .ok (.iload_n 2, 1) := by decide +kernel
theorem dX7_reading_54 : decode cX7_reading 54 = .ok (.iastore, 1) := by decide +kernel
theorem dX7_reading_55 : decode cX7_reading 55 = .ok (.aload_n 0, 1) := by decide +kernel
theorem dX7_reading_56 : decode cX7_reading 56 = .ok (.dup, 1) := by decide +kernel
theorem dX7_reading_57 : decode cX7_reading 57 = .ok (.getfield 132, 3) := by decide +kernel
theorem dX7_reading_60 : decode cX7_reading 60 = .ok (.iconst 1, 1) := by decide +kernel
theorem dX7_reading_61 : decode cX7_reading 61 = .ok (.iadd, 1) := by decide +kernel
theorem dX7_reading_62 : decode cX7_reading 62 = .ok (.putfield 132, 3) := by decide +kernel
theorem dX7_reading_65 : decode cX7_reading 65 = .ok (.aload_n 0, 1) := by decide +kernel
theorem dX7_reading_66 : decode cX7_reading 66 = .ok (.getfield 132, 3) := by decide +kernel
theorem dX7_reading_69 : decode cX7_reading 69 = .ok (.iconst 1, 1) := by decide +kernel
theorem dX7_reading_70 : decode cX7_reading 70 = .ok (.isub, 1) := by decide +kernel
theorem dX7_reading_71 : decode cX7_reading 71 = .ok (.ireturn, 1) := by decide +kernel
theorem dX7_back_0 : decode cX7_back 0 = .ok (.iload_n 1, 1) := by decide +kernel
theorem dX7_back_1 : decode cX7_back 1 = .ok (.iconst 0, 1) := by decide +kernel
theorem dX7_back_2 : decode cX7_back 2 = .ok (.aload_n 0, 1) := by decide +kernel
theorem dX7_back_3 : decode cX7_back 3 = .ok (.getfield 132, 3) := by decide +kernel
theorem dX7_back_6 : decode cX7_back 6 = .ok (.invokestatic 74, 3) := by decide +kernel
theorem dX7_back_9 : decode cX7_back 9 = .ok (.ifCond .ne 6, 3) := by decide +kernel
theorem dX7_back_12 : decode cX7_back 12 = .ok (.bipush (-2), 2) := by decide +kernel
theorem dX7_back_14 : decode cX7_back 14 = .ok (.ireturn, 1) := by decide +kernel
theorem dX7_back_15 : decode cX7_back 15 = .ok (.aload_n 0, 1) := by decide +kernel
theorem dX7_back_16 : decode cX7_back 16 = .ok (.dup, 1) := by decide +kernel
theorem dX7_back_17 : decode cX7_back 17 = .ok (.getfield 132, 3) := by decide +kernel
theorem dX7_back_20 : decode cX7_back 20 = .ok (.iload_n 1, 1) := by decide +kernel
theorem dX7_back_21 : decode cX7_back 21 = .ok (.isub, 1) := by decide +kernel
theorem dX7_back_22 : decode cX7_back 22 = .ok (.putfield 132, 3) := by decide +kernel
theorem dX7_back_25 : decode cX7_back 25 = .ok (.aload_n 0, 1) := by decide +kernel
theorem dX7_back_26 : decode cX7_back 26 = .ok (.getfield 132, 3) := by decide +kernel
theorem dX7_back_29 : decode cX7_back 29 = .ok (.ireturn, 1) := by decide +kernel
theorem dX7_areSo_0 : decode cX7_areSo 0 = .ok (.iconst 0, 1) := by decide +kernel
theorem dX7_areSo_1 : decode cX7_areSo 1 = .ok (.istore_n 1, 1) := by decide +kernel
theorem dX7_areSo_2 : decode cX7_areSo 2 = .ok (.iload_n 1, 1) := by decide +kernel
theorem dX7_areSo_3 : decode cX7_areSo 3 = .ok (.aload_n 0, 1) := by decide +kernel
theorem dX7_areSo_4 : decode cX7_areSo 4 = .ok (.getfield 132, 3) := by decide +kernel
theorem dX7_areSo_7 : decode cX7_areSo 7 = .ok (.if_icmp .ge 30, 3) := by decide +kernel
theorem dX7_areSo_10 : decode cX7_areSo 10 = .ok (.aload_n 0, 1) := by decide +kernel
theorem dX7_areSo_11 : decode cX7_areSo 11 = .ok (.aload_n 0, 1) := by decide +kernel
theorem dX7_areSo_12 : decode cX7_areSo 12 = .ok (.getfield 62, 3) := by decide +kernel
theorem dX7_areSo_15 : decode cX7_areSo 15 = .ok (.iload_n 1, 1) := by decide +kernel
theorem dX7_areSo_16 : decode cX7_areSo 16 = .ok (.iaload, 1) := by decide +kernel
theorem dX7_areSo_17 : decode cX7_areSo 17 = .ok (.invokevirtual 156, 3) := by decide +kernel
theorem dX7_areSo_20 : decode cX7_areSo 20 = .ok (.aload_n 0, 1) := by decide +kernel
theorem dX7_areSo_21 : decode cX7_areSo 21 = .ok (.getfield 65, 3) := by decide +kernel
theorem dX7_areSo_24 : decode cX7_areSo 24 = .ok (.iload_n 1, 1) := by decide +kernel
theorem dX7_areSo_25 : decode cX7_areSo 25 = .ok (.iaload, 1) := by decide +kernel
theorem dX7_areSo_26 : decode cX7_areSo 26 = .ok (.if_icmp .eq 5, 3) := by decide +kernel
theorem dX7_areSo_29 : decode cX7_areSo 29 = .ok (.iconst 0, 1) := by decide +kernel
theorem dX7_areSo_30 : decode cX7_areSo 30 = .ok (.ireturn, 1) := by decide +kernel
theorem dX7_areSo_31 : decode cX7_areSo 31 = .ok (.iinc 1 1, 3) := by decide +kernel
theorem dX7_areSo_34 : decode cX7_areSo 34 = .ok (.goto (-32), 3) := by decide +kernel
theorem dX7_areSo_37 : decode cX7_areSo 37 = .ok (.iconst 1, 1) := by decide +kernel
theorem dX7_areSo_38 : decode cX7_areSo 38 = .ok (.ireturn, 1) := by decide +kernel
theorem dX7_mouths_0 : decode cX7_mouths 0 = .ok (.aload_n 0, 1) := by decide +kernel
theorem dX7_mouths_1 : decode cX7_mouths 1 = .ok (.iload_n 1, 1) := by decide +kernel
theorem dX7_mouths_2 : decode cX7_mouths 2 = .ok (.invokevirtual 153, 3) := by decide +kernel
theorem dX7_mouths_5 : decode cX7_mouths 5 = .ok (.ifCond .ne 5, 3) := by decide +kernel
theorem dX7_mouths_8 : decode cX7_mouths 8 = .ok (.iconst (-1), 1) := by decide +kernel
theorem dX7_mouths_9 : decode cX7_mouths 9 = .ok (.ireturn, 1) := by decide +kernel
theorem dX7_mouths_10 : decode cX7_mouths 10 = .ok (.aload_n 0, 1) := by decide +kernel
theorem dX7_mouths_11 : decode cX7_mouths 11 = .ok (.getfield 22, 3) := by decide +kernel
theorem dX7_mouths_14 : decode cX7_mouths 14 = .ok (.iload_n 1, 1) := by decide +kernel
theorem dX7_mouths_15 : decode cX7_mouths 15 = .ok (.iaload, 1) := by decide +kernel
theorem dX7_mouths_16 : decode cX7_mouths 16 = .ok (.istore_n 2, 1) := by decide +kernel
theorem dX7_mouths_17 : decode cX7_mouths 17 = .ok (.iconst 0, 1) := by decide +kernel
theorem dX7_mouths_18 : decode cX7_mouths 18 = .ok (.istore_n 3, 1) := by decide +kernel
theorem dX7_mouths_19 : decode cX7_mouths 19 = .ok (.iconst 0, 1) := by decide +kernel
theorem dX7_mouths_20 : decode cX7_mouths 20 = .ok (.istore 4, 2) := by decide +kernel
theorem dX7_mouths_22 : decode cX7_mouths 22 = .ok (.iload 4, 2) := by decide +kernel
theorem dX7_mouths_24 : decode cX7_mouths 24 = .ok (.bipush 9, 2) := by decide +kernel
theorem dX7_mouths_26 : decode cX7_mouths 26 = .ok (.if_icmp .gt 35, 3) := by decide +kernel
theorem dX7_mouths_29 : decode cX7_mouths 29 = .ok (.aload_n 0, 1) := by decide +kernel
theorem dX7_mouths_30 : decode cX7_mouths 30 = .ok (.getfield 22, 3) := by decide +kernel
theorem dX7_mouths_33 : decode cX7_mouths 33 = .ok (.iload_n 1, 1) := by decide +kernel
theorem dX7_mouths_34 : decode cX7_mouths 34 = .ok (.iload 4, 2) := by decide +kernel
theorem dX7_mouths_36 : decode cX7_mouths 36 = .ok (.iastore, 1) := by decide +kernel
theorem dX7_mouths_37 : decode cX7_mouths 37 = .ok (.iload_n 3, 1) := by decide +kernel
theorem dX7_mouths_38 : decode cX7_mouths 38 = .ok (.aload_n 0, 1) := by decide +kernel
theorem dX7_mouths_39 : decode cX7_mouths 39 = .ok (.invokevirtual 231, 3) := by decide +kernel
theorem dX7_mouths_42 : decode cX7_mouths 42 = .ok (.ifCond .eq 10, 3) := by decide +kernel
theorem dX7_mouths_45 : decode cX7_mouths 45 = .ok (.iconst 1, 1) := by decide +kernel
theorem dX7_mouths_46 : decode cX7_mouths 46 = .ok (.iload 4, 2) := by decide +kernel
theorem dX7_mouths_48 : decode cX7_mouths 48 = .ok (.ishl, 1) := by decide +kernel
theorem dX7_mouths_49 : decode cX7_mouths 49 = .ok (.goto 4, 3) := by decide +kernel
theorem dX7_mouths_52 : decode cX7_mouths 52 = .ok (.iconst 0, 1) := by decide +kernel
theorem dX7_mouths_53 : decode cX7_mouths 53 = .ok (.ior, 1) := by decide +kernel
theorem dX7_mouths_54 : decode cX7_mouths 54 = .ok (.istore_n 3, 1) := by decide +kernel
theorem dX7_mouths_55 : decode cX7_mouths 55 = .ok (.iinc 4 1, 3) := by decide +kernel
theorem dX7_mouths_58 : decode cX7_mouths 58 = .ok (.goto (-36), 3) := by decide +kernel
theorem dX7_mouths_61 : decode cX7_mouths 61 = .ok (.aload_n 0, 1) := by decide +kernel
theorem dX7_mouths_62 : decode cX7_mouths 62 = .ok (.getfield 22, 3) := by decide +kernel
theorem dX7_mouths_65 : decode cX7_mouths 65 = .ok (.iload_n 1, 1) := by decide +kernel
theorem dX7_mouths_66 : decode cX7_mouths 66 = .ok (.iload_n 2, 1) := by decide +kernel
theorem dX7_mouths_67 : decode cX7_mouths 67 = .ok (.iastore, 1) := by decide +kernel
theorem dX7_mouths_68 : decode cX7_mouths 68 = .ok (.iload_n 3, 1) := by decide +kernel
theorem dX7_mouths_69 : decode cX7_mouths 69 = .ok (.ireturn, 1) := by decide +kernel
theorem dX7_kinds_0 : decode cX7_kinds 0 = .ok (.aload_n 0, 1) := by decide +kernel
theorem dX7_kinds_1 : decode cX7_kinds 1 = .ok (.iload_n 1, 1) := by decide +kernel
theorem dX7_kinds_2 : decode cX7_kinds 2 = .ok (.invokevirtual 153, 3) := by decide +kernel
theorem dX7_kinds_5 : decode cX7_kinds 5 = .ok (.ifCond .ne 5, 3) := by decide +kernel
theorem dX7_kinds_8 : decode cX7_kinds 8 = .ok (.iconst (-1), 1) := by decide +kernel
theorem dX7_kinds_9 : decode cX7_kinds 9 = .ok (.ireturn, 1) := by decide +kernel
theorem dX7_kinds_10 : decode cX7_kinds 10 = .ok (.aload_n 0, 1) := by decide +kernel
theorem dX7_kinds_11 : decode cX7_kinds 11 = .ok (.getfield 19, 3) := by decide +kernel
theorem dX7_kinds_14 : decode cX7_kinds 14 = .ok (.iload_n 1, 1) := by decide +kernel
theorem dX7_kinds_15 : decode cX7_kinds 15 = .ok (.iaload, 1) := by decide +kernel
theorem dX7_kinds_16 : decode cX7_kinds 16 = .ok (.istore_n 2, 1) := by decide +kernel
theorem dX7_kinds_17 : decode cX7_kinds 17 = .ok (.iconst 0, 1) := by decide +kernel
theorem dX7_kinds_18 : decode cX7_kinds 18 = .ok (.istore_n 3, 1) := by decide +kernel
theorem dX7_kinds_19 : decode cX7_kinds 19 = .ok (.iconst 0, 1) := by decide +kernel
theorem dX7_kinds_20 : decode cX7_kinds 20 = .ok (.istore 4, 2) := by decide +kernel
theorem dX7_kinds_22 : decode cX7_kinds 22 = .ok (.iload 4, 2) := by decide +kernel
theorem dX7_kinds_24 : decode cX7_kinds 24 = .ok (.iconst 3, 1) := by decide +kernel
theorem dX7_kinds_25 : decode cX7_kinds 25 = .ok (.if_icmp .ge 35, 3) := by decide +kernel
theorem dX7_kinds_28 : decode cX7_kinds 28 = .ok (.aload_n 0, 1) := by decide +kernel
theorem dX7_kinds_29 : decode cX7_kinds 29 = .ok (.getfield 19, 3) := by decide +kernel
theorem dX7_kinds_32 : decode cX7_kinds 32 = .ok (.iload_n 1, 1) := by decide +kernel
theorem dX7_kinds_33 : decode cX7_kinds 33 = .ok (.iload 4, 2) := by decide +kernel
theorem dX7_kinds_35 : decode cX7_kinds 35 = .ok (.iastore, 1) := by decide +kernel
theorem dX7_kinds_36 : decode cX7_kinds 36 = .ok (.iload_n 3, 1) := by decide +kernel
theorem dX7_kinds_37 : decode cX7_kinds 37 = .ok (.aload_n 0, 1) := by decide +kernel
theorem dX7_kinds_38 : decode cX7_kinds 38 = .ok (.invokevirtual 231, 3) := by decide +kernel
theorem dX7_kinds_41 : decode cX7_kinds 41 = .ok (.ifCond .eq 10, 3) := by decide +kernel
theorem dX7_kinds_44 : decode cX7_kinds 44 = .ok (.iconst 1, 1) := by decide +kernel
theorem dX7_kinds_45 : decode cX7_kinds 45 = .ok (.iload 4, 2) := by decide +kernel
theorem dX7_kinds_47 : decode cX7_kinds 47 = .ok (.ishl, 1) := by decide +kernel
theorem dX7_kinds_48 : decode cX7_kinds 48 = .ok (.goto 4, 3) := by decide +kernel
theorem dX7_kinds_51 : decode cX7_kinds 51 = .ok (.iconst 0, 1) := by decide +kernel
theorem dX7_kinds_52 : decode cX7_kinds 52 = .ok (.ior, 1) := by decide +kernel
theorem dX7_kinds_53 : decode cX7_kinds 53 = .ok (.istore_n 3, 1) := by decide +kernel
theorem dX7_kinds_54 : decode cX7_kinds 54 = .ok (.iinc 4 1, 3) := by decide +kernel
theorem dX7_kinds_57 : decode cX7_kinds 57 = .ok (.goto (-35), 3) := by decide +kernel
theorem dX7_kinds_60 : decode cX7_kinds 60 = .ok (.aload_n 0, 1) := by decide +kernel
theorem dX7_kinds_61 : decode cX7_kinds 61 = .ok (.getfield 19, 3) := by decide +kernel
theorem dX7_kinds_64 : decode cX7_kinds 64 = .ok (.iload_n 1, 1) := by decide +kernel
theorem dX7_kinds_65 : decode cX7_kinds 65 = .ok (.iload_n 2, 1) := by decide +kernel
theorem dX7_kinds_66 : decode cX7_kinds 66 = .ok (.iastore, 1) := by decide +kernel
theorem dX7_kinds_67 : decode cX7_kinds 67 = .ok (.iload_n 3, 1) := by decide +kernel
theorem dX7_kinds_68 : decode cX7_kinds 68 = .ok (.ireturn, 1) := by decide +kernel
theorem dX7_soups_0 : decode cX7_soups 0 = .ok (.aload_n 0, 1) := by decide +kernel
theorem dX7_soups_1 : decode cX7_soups 1 = .ok (.getfield 78, 3) := by decide +kernel
theorem dX7_soups_4 : decode cX7_soups 4 = .ok (.ifCond .ne 6, 3) := by decide +kernel
theorem dX7_soups_7 : decode cX7_soups 7 = .ok (.bipush (-3), 2) := by decide +kernel
theorem dX7_soups_9 : decode cX7_soups 9 = .ok (.ireturn, 1) := by decide +kernel
theorem dX7_soups_10 : decode cX7_soups 10 = .ok (.aload_n 0, 1) := by decide +kernel
theorem dX7_soups_11 : decode cX7_soups 11 = .ok (.getfield 111, 3) := by decide +kernel
theorem dX7_soups_14 : decode cX7_soups 14 = .ok (.istore_n 1, 1) := by decide +kernel
theorem dX7_soups_15 : decode cX7_soups 15 = .ok (.iconst 0, 1) := by decide +kernel
theorem dX7_soups_16 : decode cX7_soups 16 = .ok (.istore_n 2, 1) := by decide +kernel
theorem dX7_soups_17 : decode cX7_soups 17 = .ok (.iconst 0, 1) := by decide +kernel
theorem dX7_soups_18 : decode cX7_soups 18 = .ok (.istore_n 3, 1) := by decide +kernel
theorem dX7_soups_19 : decode cX7_soups 19 = .ok (.iload_n 3, 1) := by decide +kernel
theorem dX7_soups_20 : decode cX7_soups 20 = .ok (.iconst 3, 1) := by decide +kernel
theorem dX7_soups_21 : decode cX7_soups 21 = .ok (.if_icmp .gt 31, 3) := by decide +kernel
theorem dX7_soups_24 : decode cX7_soups 24 = .ok (.aload_n 0, 1) := by decide +kernel
theorem dX7_soups_25 : decode cX7_soups 25 = .ok (.iload_n 3, 1) := by decide +kernel
theorem dX7_soups_26 : decode cX7_soups 26 = .ok (.putfield 111, 3) := by decide +kernel
theorem dX7_soups_29 : decode cX7_soups 29 = .ok (.iload_n 2, 1) := by decide +kernel
theorem dX7_soups_30 : decode cX7_soups 30 = .ok (.aload_n 0, 1) := by decide +kernel
theorem dX7_soups_31 : decode cX7_soups 31 = .ok (.invokevirtual 231, 3) := by decide +kernel
theorem dX7_soups_34 : decode cX7_soups 34 = .ok (.ifCond .eq 9, 3) := by decide +kernel
theorem dX7_soups_37 : decode cX7_soups 37 = .ok (.iconst 1, 1) := by decide +kernel
theorem dX7_soups_38 : decode cX7_soups 38 = .ok (.iload_n 3, 1) := by decide +kernel
theorem dX7_soups_39 : decode cX7_soups 39 = .ok (.ishl, 1) := by decide +kernel
theorem dX7_soups_40 : decode cX7_soups 40 = .ok (.goto 4, 3) := by decide +kernel
theorem dX7_soups_43 : decode cX7_soups 43 = .ok (.iconst 0, 1) := by decide +kernel
theorem dX7_soups_44 : decode cX7_soups 44 = .ok (.ior, 1) := by decide +kernel
theorem dX7_soups_45 : decode cX7_soups 45 = .ok (.istore_n 2, 1) := by decide +kernel
theorem dX7_soups_46 : decode cX7_soups 46 = .ok (.iinc 3 1, 3) := by decide +kernel
theorem dX7_soups_49 : decode cX7_soups 49 = .ok (.goto (-30), 3) := by decide +kernel
theorem dX7_soups_52 : decode cX7_soups 52 = .ok (.aload_n 0, 1) := by decide +kernel
theorem dX7_soups_53 : decode cX7_soups 53 = .ok (.iload_n 1, 1) := by decide +kernel
theorem dX7_soups_54 : decode cX7_soups 54 = .ok (.putfield 111, 3) := by decide +kernel
theorem dX7_soups_57 : decode cX7_soups 57 = .ok (.iload_n 2, 1) := by decide +kernel
theorem dX7_soups_58 : decode cX7_soups 58 = .ok (.ireturn, 1) := by decide +kernel
theorem dX7_inLeastTerms_0 : decode cX7_inLeastTerms 0 = .ok (.lload_n 0, 1) := by decide +kernel
theorem dX7_inLeastTerms_1 : decode cX7_inLeastTerms 1 = .ok (.lstore 5, 2) := by decide +kernel
theorem dX7_inLeastTerms_3 : decode cX7_inLeastTerms 3 = .ok (.lload_n 2, 1) := by decide +kernel
theorem dX7_inLeastTerms_4 : decode cX7_inLeastTerms 4 = .ok (.lstore 7, 2) := by decide +kernel
theorem dX7_inLeastTerms_6 : decode cX7_inLeastTerms 6 = .ok (.lload 7, 2) := by decide +kernel
theorem dX7_inLeastTerms_8 : decode cX7_inLeastTerms 8 = .ok (.lconst 0, 1) := by decide +kernel
theorem dX7_inLeastTerms_9 : decode cX7_inLeastTerms 9 = .ok (.lcmp, 1) := by decide +kernel
theorem dX7_inLeastTerms_10 : decode cX7_inLeastTerms 10 = .ok (.ifCond .eq 21, 3) := by decide +kernel
theorem dX7_inLeastTerms_13 : decode cX7_inLeastTerms 13 = .ok (.lload 5, 2) := by decide +kernel
theorem dX7_inLeastTerms_15 : decode cX7_inLeastTerms 15 = .ok (.lload 7, 2) := by decide +kernel
theorem dX7_inLeastTerms_17 : decode cX7_inLeastTerms 17 = .ok (.lrem, 1) := by decide +kernel
theorem dX7_inLeastTerms_18 : decode cX7_inLeastTerms 18 = .ok (.lstore 9, 2) := by decide +kernel
theorem dX7_inLeastTerms_20 : decode cX7_inLeastTerms 20 = .ok (.lload 7, 2) := by decide +kernel
theorem dX7_inLeastTerms_22 : decode cX7_inLeastTerms 22 = .ok (.lstore 5, 2) := by decide +kernel
theorem dX7_inLeastTerms_24 : decode cX7_inLeastTerms 24 = .ok (.lload 9, 2) := by decide +kernel
theorem dX7_inLeastTerms_26 : decode cX7_inLeastTerms 26 = .ok (.lstore 7, 2) := by decide +kernel
theorem dX7_inLeastTerms_28 : decode cX7_inLeastTerms 28 = .ok (.goto (-22), 3) := by decide +kernel
theorem dX7_inLeastTerms_31 : decode cX7_inLeastTerms 31 = .ok (.iload 4, 2) := by decide +kernel
theorem dX7_inLeastTerms_33 : decode cX7_inLeastTerms 33 = .ok (.ifCond .ne 10, 3) := by decide +kernel
theorem dX7_inLeastTerms_36 : decode cX7_inLeastTerms 36 = .ok (.lload_n 0, 1) := by decide +kernel
theorem dX7_inLeastTerms_37 : decode cX7_inLeastTerms 37 = .ok (.lload 5, 2) := by decide +kernel
theorem dX7_inLeastTerms_39 : decode cX7_inLeastTerms 39 = .ok (.ldiv, 1) := by decide +kernel
theorem dX7_inLeastTerms_40 : decode cX7_inLeastTerms 40 = .ok (.goto 7, 3) := by decide +kernel
theorem dX7_inLeastTerms_43 : decode cX7_inLeastTerms 43 = .ok (.lload_n 2, 1) := by decide +kernel
theorem dX7_inLeastTerms_44 : decode cX7_inLeastTerms 44 = .ok (.lload 5, 2) := by decide +kernel
theorem dX7_inLeastTerms_46 : decode cX7_inLeastTerms 46 = .ok (.ldiv, 1) := by decide +kernel
theorem dX7_inLeastTerms_47 : decode cX7_inLeastTerms 47 = .ok (.lreturn, 1) := by decide +kernel
theorem dX7_odds_0 : decode cX7_odds 0 = .ok (.aload_n 0, 1) := by decide +kernel
theorem dX7_odds_1 : decode cX7_odds 1 = .ok (.iload_n 1, 1) := by decide +kernel
theorem dX7_odds_2 : decode cX7_odds 2 = .ok (.invokevirtual 159, 3) := by decide +kernel
theorem dX7_odds_5 : decode cX7_odds 5 = .ok (.ifCond .eq 30, 3) := by decide +kernel
theorem dX7_odds_8 : decode cX7_odds 8 = .ok (.iload_n 2, 1) := by decide +kernel
theorem dX7_odds_9 : decode cX7_odds 9 = .ok (.invokestatic 162, 3) := by decide +kernel
theorem dX7_odds_12 : decode cX7_odds 12 = .ok (.ifCond .eq 23, 3) := by decide +kernel
theorem dX7_odds_15 : decode cX7_odds 15 = .ok (.iload_n 3, 1) := by decide +kernel
theorem dX7_odds_16 : decode cX7_odds 16 = .ok (.iconst 0, 1) := by decide +kernel
theorem dX7_odds_17 : decode cX7_odds 17 = .ok (.bipush 8, 2) := by decide +kernel
theorem dX7_odds_19 : decode cX7_odds 19 = .ok (.invokestatic 74, 3) := by decide +kernel
theorem dX7_odds_22 : decode cX7_odds 22 = .ok (.ifCond .eq 13, 3) := by decide +kernel
theorem dX7_odds_25 : decode cX7_odds 25 = .ok (.iload 4, 2) := by decide +kernel
theorem dX7_odds_27 : decode cX7_odds 27 = .ok (.iconst 0, 1) := by decide +kernel
theorem dX7_odds_28 : decode cX7_odds 28 = .ok (.iconst 1, 1) := by decide +kernel
theorem dX7_odds_29 : decode cX7_odds 29 = .ok (.invokestatic 74, 3) := by decide +kernel
theorem dX7_odds_32 : decode cX7_odds 32 = .ok (.ifCond .ne 7, 3) := by decide +kernel
theorem dX7_odds_35 : decode cX7_odds 35 = .ok (.ldc2_w 72, 3) := by decide +kernel
theorem dX7_odds_38 : decode cX7_odds 38 = .ok (.lreturn, 1) := by decide +kernel
theorem dX7_odds_39 : decode cX7_odds 39 = .ok (.aload_n 0, 1) := by decide +kernel
theorem dX7_odds_40 : decode cX7_odds 40 = .ok (.invokevirtual 224, 3) := by decide +kernel
theorem dX7_odds_43 : decode cX7_odds 43 = .ok (.iconst 0, 1) := by decide +kernel
theorem dX7_odds_44 : decode cX7_odds 44 = .ok (.istore 5, 2) := by decide +kernel
theorem dX7_odds_46 : decode cX7_odds 46 = .ok (.iload 5, 2) := by decide +kernel
theorem dX7_odds_48 : decode cX7_odds 48 = .ok (.iload_n 3, 1) := by decide +kernel
theorem dX7_odds_49 : decode cX7_odds 49 = .ok (.if_icmp .ge 14, 3) := by decide +kernel
theorem dX7_odds_52 : decode cX7_odds 52 = .ok (.aload_n 0, 1) := by decide +kernel
theorem dX7_odds_53 : decode cX7_odds 53 = .ok (.iconst 1, 1) := by decide +kernel
theorem dX7_odds_54 : decode cX7_odds 54 = .ok (.invokevirtual 227, 3) := by decide +kernel
theorem dX7_odds_57 : decode cX7_odds 57 = .ok (.iinc 5 1, 3) := by decide +kernel
theorem dX7_odds_60 : decode cX7_odds 60 = .ok (.goto (-14), 3) := by decide +kernel
theorem dX7_odds_63 : decode cX7_odds 63 = .ok (.lconst 0, 1) := by decide +kernel
theorem dX7_odds_64 : decode cX7_odds 64 = .ok (.lstore 5, 2) := by decide +kernel
theorem dX7_odds_66 : decode cX7_odds 66 = .ok (.iconst 0, 1) := by decide +kernel
theorem dX7_odds_67 : decode cX7_odds 67 = .ok (.istore 7, 2) := by decide +kernel
theorem dX7_odds_69 : decode cX7_odds 69 = .ok (.iload 7, 2) := by decide +kernel
theorem dX7_odds_71 : decode cX7_odds 71 = .ok (.aload_n 0, 1) := by decide +kernel
theorem dX7_odds_72 : decode cX7_odds 72 = .ok (.getfield 78, 3) := by decide +kernel
theorem dX7_odds_75 : decode cX7_odds 75 = .ok (.if_icmp .ge 54, 3) := by decide +kernel
theorem dX7_odds_78 : decode cX7_odds 78 = .ok (.lload 5, 2) := by decide +kernel
theorem dX7_odds_80 : decode cX7_odds 80 = .ok (.iload 7, 2) := by decide +kernel
theorem dX7_odds_82 : decode cX7_odds 82 = .ok (.aload_n 0, 1) := by decide +kernel
theorem dX7_odds_83 : decode cX7_odds 83 = .ok (.getfield 126, 3) := by decide +kernel
theorem dX7_odds_86 : decode cX7_odds 86 = .ok (.if_icmp .eq 33, 3) := by decide +kernel
theorem dX7_odds_89 : decode cX7_odds 89 = .ok (.aload_n 0, 1) := by decide +kernel
theorem dX7_odds_90 : decode cX7_odds 90 = .ok (.aload_n 0, 1) := by decide +kernel
theorem dX7_odds_91 : decode cX7_odds 91 = .ok (.getfield 28, 3) := by decide +kernel
theorem dX7_odds_94 : decode cX7_odds 94 = .ok (.iload_n 1, 1) := by decide +kernel
theorem dX7_odds_95 : decode cX7_odds 95 = .ok (.iaload, 1) := by decide +kernel
theorem dX7_odds_96 : decode cX7_odds 96 = .ok (.iload 7, 2) := by decide +kernel
theorem dX7_odds_98 : decode cX7_odds 98 = .ok (.aload_n 0, 1) := by decide +kernel
theorem dX7_odds_99 : decode cX7_odds 99 = .ok (.getfield 126, 3) := by decide +kernel
theorem dX7_odds_102 : decode cX7_odds 102 = .ok (.invokevirtual 149, 3) := by decide +kernel
theorem dX7_odds_105 : decode cX7_odds 105 = .ok (.iload_n 2, 1) := by decide +kernel
theorem dX7_odds_106 : decode cX7_odds 106 = .ok (.if_icmp .ne 13, 3) := by decide +kernel
theorem dX7_odds_109 : decode cX7_odds 109 = .ok (.aload_n 0, 1) := by decide +kernel
theorem dX7_odds_110 : decode cX7_odds 110 = .ok (.getfield 55, 3) := by decide +kernel
theorem dX7_odds_113 : decode cX7_odds 113 = .ok (.iload 7, 2) := by decide +kernel
theorem dX7_odds_115 : decode cX7_odds 115 = .ok (.laload, 1) := by decide +kernel
theorem dX7_odds_116 : decode cX7_odds 116 = .ok (.goto 4, 3) := by decide +kernel
theorem dX7_odds_119 : decode cX7_odds 119 = .ok (.lconst 0, 1) := by decide +kernel
theorem dX7_odds_120 : decode cX7_odds 120 = .ok (.ladd, 1) := by decide +kernel
theorem dX7_odds_121 : decode cX7_odds 121 = .ok (.lstore 5, 2) := by decide +kernel
theorem dX7_odds_123 : decode cX7_odds 123 = .ok (.iinc 7 1, 3) := by decide +kernel
theorem dX7_odds_126 : decode cX7_odds 126 = .ok (.goto (-57), 3) := by decide +kernel
theorem dX7_odds_129 : decode cX7_odds 129 = .ok (.lload 5, 2) := by decide +kernel
theorem dX7_odds_131 : decode cX7_odds 131 = .ok (.lconst 1, 1) := by decide +kernel
theorem dX7_odds_132 : decode cX7_odds 132 = .ok (.iload_n 3, 1) := by decide +kernel
theorem dX7_odds_133 : decode cX7_odds 133 = .ok (.lshl, 1) := by decide +kernel
theorem dX7_odds_134 : decode cX7_odds 134 = .ok (.iload 4, 2) := by decide +kernel
theorem dX7_odds_136 : decode cX7_odds 136 = .ok (.invokestatic 235, 3) := by decide +kernel
theorem dX7_odds_139 : decode cX7_odds 139 = .ok (.lreturn, 1) := by decide +kernel
theorem dX7_sheet_0 : decode cX7_sheet 0 = .ok (.aload_n 0, 1) := by decide +kernel
theorem dX7_sheet_1 : decode cX7_sheet 1 = .ok (.iconst 0, 1) := by decide +kernel
theorem dX7_sheet_2 : decode cX7_sheet 2 = .ok (.putfield 68, 3) := by decide +kernel
theorem dX7_sheet_5 : decode cX7_sheet 5 = .ok (.iload_n 1, 1) := by decide +kernel
theorem dX7_sheet_6 : decode cX7_sheet 6 = .ok (.invokestatic 87, 3) := by decide +kernel
theorem dX7_sheet_9 : decode cX7_sheet 9 = .ok (.ifCond .ne 5, 3) := by decide +kernel
theorem dX7_sheet_12 : decode cX7_sheet 12 = .ok (.iconst (-1), 1) := by decide +kernel
theorem dX7_sheet_13 : decode cX7_sheet 13 = .ok (.ireturn, 1) := by decide +kernel
theorem dX7_sheet_14 : decode cX7_sheet 14 = .ok (.iload_n 2, 1) := by decide +kernel
theorem dX7_sheet_15 : decode cX7_sheet 15 = .ok (.invokestatic 91, 3) := by decide +kernel
theorem dX7_sheet_18 : decode cX7_sheet 18 = .ok (.ifCond .eq 9, 3) := by decide +kernel
theorem dX7_sheet_21 : decode cX7_sheet 21 = .ok (.iload_n 3, 1) := by decide +kernel
theorem dX7_sheet_22 : decode cX7_sheet 22 = .ok (.bipush 60, 2) := by decide +kernel
theorem dX7_sheet_24 : decode cX7_sheet 24 = .ok (.if_icmp .le 6, 3) := by decide +kernel
theorem dX7_sheet_27 : decode cX7_sheet 27 = .ok (.bipush (-2), 2) := by decide +kernel
theorem dX7_sheet_29 : decode cX7_sheet 29 = .ok (.ireturn, 1) := by decide +kernel
theorem dX7_sheet_30 : decode cX7_sheet 30 = .ok (.iload_n 3, 1) := by decide +kernel
theorem dX7_sheet_31 : decode cX7_sheet 31 = .ok (.ifCond .ge 9, 3) := by decide +kernel
theorem dX7_sheet_34 : decode cX7_sheet 34 = .ok (.aload_n 0, 1) := by decide +kernel
theorem dX7_sheet_35 : decode cX7_sheet 35 = .ok (.iconst 4, 1) := by decide +kernel
theorem dX7_sheet_36 : decode cX7_sheet 36 = .ok (.invokevirtual 98, 3) := by decide +kernel
theorem dX7_sheet_39 : decode cX7_sheet 39 = .ok (.ireturn, 1) := by decide +kernel
theorem dX7_sheet_40 : decode cX7_sheet 40 = .ok (.aload_n 0, 1) := by decide +kernel
theorem dX7_sheet_41 : decode cX7_sheet 41 = .ok (.getfield 9, 3) := by decide +kernel
theorem dX7_sheet_44 : decode cX7_sheet 44 = .ok (.iload_n 1, 1) := by decide +kernel
theorem dX7_sheet_45 : decode cX7_sheet 45 = .ok (.iload_n 2, 1) := by decide +kernel
theorem dX7_sheet_46 : decode cX7_sheet 46 = .ok (.iastore, 1) := by decide +kernel
theorem dX7_sheet_47 : decode cX7_sheet 47 = .ok (.aload_n 0, 1) := by decide +kernel
theorem dX7_sheet_48 : decode cX7_sheet 48 = .ok (.getfield 13, 3) := by decide +kernel
theorem dX7_sheet_51 : decode cX7_sheet 51 = .ok (.iload_n 1, 1) := by decide +kernel
theorem dX7_sheet_52 : decode cX7_sheet 52 = .ok (.iload_n 3, 1) := by decide +kernel
theorem dX7_sheet_53 : decode cX7_sheet 53 = .ok (.iastore, 1) := by decide +kernel
theorem dX7_sheet_54 : decode cX7_sheet 54 = .ok (.iconst 0, 1) := by decide +kernel
theorem dX7_sheet_55 : decode cX7_sheet 55 = .ok (.istore 4, 2) := by decide +kernel
theorem dX7_sheet_57 : decode cX7_sheet 57 = .ok (.iload 4, 2) := by decide +kernel
theorem dX7_sheet_59 : decode cX7_sheet 59 = .ok (.bipush 60, 2) := by decide +kernel
theorem dX7_sheet_61 : decode cX7_sheet 61 = .ok (.if_icmp .ge 22, 3) := by decide +kernel
theorem dX7_sheet_64 : decode cX7_sheet 64 = .ok (.aload_n 0, 1) := by decide +kernel
theorem dX7_sheet_65 : decode cX7_sheet 65 = .ok (.getfield 16, 3) := by decide +kernel
theorem dX7_sheet_68 : decode cX7_sheet 68 = .ok (.bipush 60, 2) := by decide +kernel
theorem dX7_sheet_70 : decode cX7_sheet 70 = .ok (.iload_n 1, 1) := by decide +kernel
theorem dX7_sheet_71 : decode cX7_sheet 71 = .ok (.imul, 1) := by decide +kernel
theorem dX7_sheet_72 : decode cX7_sheet 72 = .ok (.iload 4, 2) := by decide +kernel
theorem dX7_sheet_74 : decode cX7_sheet 74 = .ok (.iadd, 1) := by decide +kernel
theorem dX7_sheet_75 : decode cX7_sheet 75 = .ok (.iconst 0, 1) := by decide +kernel
theorem dX7_sheet_76 : decode cX7_sheet 76 = .ok (.iastore, 1) := by decide +kernel
theorem dX7_sheet_77 : decode cX7_sheet 77 = .ok (.iinc 4 1, 3) := by decide +kernel
theorem dX7_sheet_80 : decode cX7_sheet 80 = .ok (.goto (-23), 3) := by decide +kernel
theorem dX7_sheet_83 : decode cX7_sheet 83 = .ok (.iconst 1, 1) := by decide +kernel
theorem dX7_sheet_84 : decode cX7_sheet 84 = .ok (.ireturn, 1) := by decide +kernel
theorem dX7_lose_0 : decode cX7_lose 0 = .ok (.iload_n 1, 1) := by decide +kernel
theorem dX7_lose_1 : decode cX7_lose 1 = .ok (.invokestatic 87, 3) := by decide +kernel
theorem dX7_lose_4 : decode cX7_lose 4 = .ok (.ifCond .ne 5, 3) := by decide +kernel
theorem dX7_lose_7 : decode cX7_lose 7 = .ok (.iconst (-1), 1) := by decide +kernel
theorem dX7_lose_8 : decode cX7_lose 8 = .ok (.ireturn, 1) := by decide +kernel
theorem dX7_lose_9 : decode cX7_lose 9 = .ok (.aload_n 0, 1) := by decide +kernel
theorem dX7_lose_10 : decode cX7_lose 10 = .ok (.getfield 9, 3) := by decide +kernel
theorem dX7_lose_13 : decode cX7_lose 13 = .ok (.iload_n 1, 1) := by decide +kernel
theorem dX7_lose_14 : decode cX7_lose 14 = .ok (.iaload, 1) := by decide +kernel
theorem dX7_lose_15 : decode cX7_lose 15 = .ok (.bipush (-9), 2) := by decide +kernel
theorem dX7_lose_17 : decode cX7_lose 17 = .ok (.if_icmp .ne 7, 3) := by decide +kernel
theorem dX7_lose_20 : decode cX7_lose 20 = .ok (.iconst 0, 1) := by decide +kernel
theorem dX7_lose_21 : decode cX7_lose 21 = .ok (.goto 4, 3) := by decide +kernel
theorem dX7_lose_24 : decode cX7_lose 24 = .ok (.iconst 1, 1) := by decide +kernel
theorem dX7_lose_25 : decode cX7_lose 25 = .ok (.istore_n 2, 1) := by decide +kernel
theorem dX7_lose_26 : decode cX7_lose 26 = .ok (.aload_n 0, 1) := by decide +kernel
theorem dX7_lose_27 : decode cX7_lose 27 = .ok (.getfield 9, 3) := by decide +kernel
theorem dX7_lose_30 : decode cX7_lose 30 = .ok (.iload_n 1, 1) := by decide +kernel
theorem dX7_lose_31 : decode cX7_lose 31 = .ok (.bipush (-9), 2) := by decide +kernel
theorem dX7_lose_33 : decode cX7_lose 33 = .ok (.iastore, 1) := by decide +kernel
theorem dX7_lose_34 : decode cX7_lose 34 = .ok (.iload_n 2, 1) := by decide +kernel
theorem dX7_lose_35 : decode cX7_lose 35 = .ok (.ireturn, 1) := by decide +kernel
theorem dX7_put_0 : decode cX7_put 0 = .ok (.aload_n 0, 1) := by decide +kernel
theorem dX7_put_1 : decode cX7_put 1 = .ok (.iconst 0, 1) := by decide +kernel
theorem dX7_put_2 : decode cX7_put 2 = .ok (.putfield 68, 3) := by decide +kernel
theorem dX7_put_5 : decode cX7_put 5 = .ok (.iload_n 1, 1) := by decide +kernel
theorem dX7_put_6 : decode cX7_put 6 = .ok (.invokestatic 87, 3) := by decide +kernel
theorem dX7_put_9 : decode cX7_put 9 = .ok (.ifCond .ne 5, 3) := by decide +kernel
theorem dX7_put_12 : decode cX7_put 12 = .ok (.iconst (-1), 1) := by decide +kernel
theorem dX7_put_13 : decode cX7_put 13 = .ok (.ireturn, 1) := by decide +kernel
theorem dX7_put_14 : decode cX7_put 14 = .ok (.aload_n 0, 1) := by decide +kernel
theorem dX7_put_15 : decode cX7_put 15 = .ok (.getfield 9, 3) := by decide +kernel
theorem dX7_put_18 : decode cX7_put 18 = .ok (.iload_n 1, 1) := by decide +kernel
theorem dX7_put_19 : decode cX7_put 19 = .ok (.iaload, 1) := by decide +kernel
theorem dX7_put_20 : decode cX7_put 20 = .ok (.bipush (-9), 2) := by decide +kernel
theorem dX7_put_22 : decode cX7_put 22 = .ok (.if_icmp .ne 9, 3) := by decide +kernel
theorem dX7_put_25 : decode cX7_put 25 = .ok (.aload_n 0, 1) := by decide +kernel
theorem dX7_put_26 : decode cX7_put 26 = .ok (.iconst 1, 1) := by decide +kernel
theorem dX7_put_27 : decode cX7_put 27 = .ok (.invokevirtual 98, 3) := by decide +kernel
theorem dX7_put_30 : decode cX7_put 30 = .ok (.ireturn, 1) := by decide +kernel
theorem dX7_put_31 : decode cX7_put 31 = .ok (.iload_n 2, 1) := by decide +kernel
theorem dX7_put_32 : decode cX7_put 32 = .ok (.iconst 0, 1) := by decide +kernel
theorem dX7_put_33 : decode cX7_put 33 = .ok (.aload_n 0, 1) := by decide +kernel
theorem dX7_put_34 : decode cX7_put 34 = .ok (.getfield 13, 3) := by decide +kernel
theorem dX7_put_37 : decode cX7_put 37 = .ok (.iload_n 1, 1) := by decide +kernel
theorem dX7_put_38 : decode cX7_put 38 = .ok (.iaload, 1) := by decide +kernel
theorem dX7_put_39 : decode cX7_put 39 = .ok (.iconst 1, 1) := by decide +kernel
theorem dX7_put_40 : decode cX7_put 40 = .ok (.isub, 1) := by decide +kernel
theorem dX7_put_41 : decode cX7_put 41 = .ok (.invokestatic 74, 3) := by decide +kernel
theorem dX7_put_44 : decode cX7_put 44 = .ok (.ifCond .ne 9, 3) := by decide +kernel
theorem dX7_put_47 : decode cX7_put 47 = .ok (.aload_n 0, 1) := by decide +kernel
theorem dX7_put_48 : decode cX7_put 48 = .ok (.iconst 3, 1) := by decide +kernel
theorem dX7_put_49 : decode cX7_put 49 = .ok (.invokevirtual 98, 3) := by decide +kernel
theorem dX7_put_52 : decode cX7_put 52 = .ok (.ireturn, 1) := by decide +kernel
theorem dX7_put_53 : decode cX7_put 53 = .ok (.aload_n 0, 1) := by decide +kernel
theorem dX7_put_54 : decode cX7_put 54 = .ok (.getfield 16, 3) := by decide +kernel
theorem dX7_put_57 : decode cX7_put 57 = .ok (.bipush 60, 2) := by decide +kernel
theorem dX7_put_59 : decode cX7_put 59 = .ok (.iload_n 1, 1) := by decide +kernel
theorem dX7_put_60 : decode cX7_put 60 = .ok (.imul, 1) := by decide +kernel
theorem dX7_put_61 : decode cX7_put 61 = .ok (.iload_n 2, 1) := by decide +kernel
theorem dX7_put_62 : decode cX7_put 62 = .ok (.iadd, 1) := by decide +kernel
theorem dX7_put_63 : decode cX7_put 63 = .ok (.aload_n 0, 1) := by decide +kernel
theorem dX7_put_64 : decode cX7_put 64 = .ok (.getfield 9, 3) := by decide +kernel
theorem dX7_put_67 : decode cX7_put 67 = .ok (.iload_n 1, 1) := by decide +kernel
theorem dX7_put_68 : decode cX7_put 68 = .ok (.iaload, 1) := by decide +kernel
theorem dX7_put_69 : decode cX7_put 69 = .ok (.ifCond .ne 8, 3) := by decide +kernel
theorem dX7_put_72 : decode cX7_put 72 = .ok (.iload_n 3, 1) := by decide +kernel
theorem dX7_put_73 : decode cX7_put 73 = .ok (.i2b, 1) := by decide +kernel
theorem dX7_put_74 : decode cX7_put 74 = .ok (.goto 19, 3) := by decide +kernel
theorem dX7_put_77 : decode cX7_put 77 = .ok (.aload_n 0, 1) := by decide +kernel
theorem dX7_put_78 : decode cX7_put 78 = .ok (.getfield 9, 3) := by decide +kernel
theorem dX7_put_81 : decode cX7_put 81 = .ok (.iload_n 1, 1) := by decide +kernel
theorem dX7_put_82 : decode cX7_put 82 = .ok (.iaload, 1) := by decide +kernel
theorem dX7_put_83 : decode cX7_put 83 = .ok (.iconst 1, 1) := by decide +kernel
theorem dX7_put_84 : decode cX7_put 84 = .ok (.if_icmp .ne 8, 3) := by decide +kernel
theorem dX7_put_87 : decode cX7_put 87 = .ok (.iload_n 3, 1) := by decide +kernel
theorem dX7_put_88 : decode cX7_put 88 = .ok (.i2s, 1) := by decide +kernel
theorem dX7_put_89 : decode cX7_put 89 = .ok (.goto 4, 3) := by decide +kernel
theorem dX7_put_92 : decode cX7_put 92 = .ok (.iload_n 3, 1) := by decide +kernel
theorem dX7_put_93 : decode cX7_put 93 = .ok (.iastore, 1) := by decide +kernel
theorem dX7_put_94 : decode cX7_put 94 = .ok (.iconst 1, 1) := by decide +kernel
theorem dX7_put_95 : decode cX7_put 95 = .ok (.ireturn, 1) := by decide +kernel
theorem dX7_cell_0 : decode cX7_cell 0 = .ok (.aload_n 0, 1) := by decide +kernel
theorem dX7_cell_1 : decode cX7_cell 1 = .ok (.iconst 0, 1) := by decide +kernel
theorem dX7_cell_2 : decode cX7_cell 2 = .ok (.putfield 68, 3) := by decide +kernel
theorem dX7_cell_5 : decode cX7_cell 5 = .ok (.iload_n 1, 1) := by decide +kernel
theorem dX7_cell_6 : decode cX7_cell 6 = .ok (.invokestatic 87, 3) := by decide +kernel
theorem dX7_cell_9 : decode cX7_cell 9 = .ok (.ifCond .eq 10, 3) := by decide +kernel
theorem dX7_cell_12 : decode cX7_cell 12 = .ok (.iload_n 3, 1) := by decide +kernel
theorem dX7_cell_13 : decode cX7_cell 13 = .ok (.invokestatic 91, 3) := by decide +kernel
theorem dX7_cell_16 : decode cX7_cell 16 = .ok (.ifCond .ne 7, 3) := by decide +kernel
theorem dX7_cell_19 : decode cX7_cell 19 = .ok (.ldc2_w 72, 3) := by decide +kernel
theorem dX7_cell_22 : decode cX7_cell 22 = .ok (.lreturn, 1) := by decide +kernel
theorem dX7_cell_23 : decode cX7_cell 23 = .ok (.aload_n 0, 1) := by decide +kernel
theorem dX7_cell_24 : decode cX7_cell 24 = .ok (.getfield 9, 3) := by decide +kernel
theorem dX7_cell_27 : decode cX7_cell 27 = .ok (.iload_n 1, 1) := by decide +kernel
theorem dX7_cell_28 : decode cX7_cell 28 = .ok (.iaload, 1) := by decide +kernel
theorem dX7_cell_29 : decode cX7_cell 29 = .ok (.bipush (-9), 2) := by decide +kernel
theorem dX7_cell_31 : decode cX7_cell 31 = .ok (.if_icmp .eq 19, 3) := by decide +kernel
theorem dX7_cell_34 : decode cX7_cell 34 = .ok (.aload_n 0, 1) := by decide +kernel
theorem dX7_cell_35 : decode cX7_cell 35 = .ok (.getfield 9, 3) := by decide +kernel
theorem dX7_cell_38 : decode cX7_cell 38 = .ok (.iload_n 1, 1) := by decide +kernel
theorem dX7_cell_39 : decode cX7_cell 39 = .ok (.iaload, 1) := by decide +kernel
theorem dX7_cell_40 : decode cX7_cell 40 = .ok (.iload_n 3, 1) := by decide +kernel
theorem dX7_cell_41 : decode cX7_cell 41 = .ok (.if_icmp .eq 9, 3) := by decide +kernel
theorem dX7_cell_44 : decode cX7_cell 44 = .ok (.aload_n 0, 1) := by decide +kernel
theorem dX7_cell_45 : decode cX7_cell 45 = .ok (.iconst 2, 1) := by decide +kernel
theorem dX7_cell_46 : decode cX7_cell 46 = .ok (.invokevirtual 239, 3) := by decide +kernel
theorem dX7_cell_49 : decode cX7_cell 49 = .ok (.lreturn, 1) := by decide +kernel
theorem dX7_cell_50 : decode cX7_cell 50 = .ok (.aload_n 0, 1) := by decide +kernel
theorem dX7_cell_51 : decode cX7_cell 51 = .ok (.getfield 9, 3) := by decide +kernel
theorem dX7_cell_54 : decode cX7_cell 54 = .ok (.iload_n 1, 1) := by decide +kernel
theorem dX7_cell_55 : decode cX7_cell 55 = .ok (.iaload, 1) := by decide +kernel
theorem dX7_cell_56 : decode cX7_cell 56 = .ok (.bipush (-9), 2) := by decide +kernel
theorem dX7_cell_58 : decode cX7_cell 58 = .ok (.if_icmp .ne 9, 3) := by decide +kernel
theorem dX7_cell_61 : decode cX7_cell 61 = .ok (.aload_n 0, 1) := by decide +kernel
theorem dX7_cell_62 : decode cX7_cell 62 = .ok (.iconst 1, 1) := by decide +kernel
theorem dX7_cell_63 : decode cX7_cell 63 = .ok (.invokevirtual 239, 3) := by decide +kernel
theorem dX7_cell_66 : decode cX7_cell 66 = .ok (.lreturn, 1) := by decide +kernel
theorem dX7_cell_67 : decode cX7_cell 67 = .ok (.iload_n 2, 1) := by decide +kernel
theorem dX7_cell_68 : decode cX7_cell 68 = .ok (.iconst 0, 1) := by decide +kernel
theorem dX7_cell_69 : decode cX7_cell 69 = .ok (.aload_n 0, 1) := by decide +kernel
theorem dX7_cell_70 : decode cX7_cell 70 = .ok (.getfield 13, 3) := by decide +kernel
theorem dX7_cell_73 : decode cX7_cell 73 = .ok (.iload_n 1, 1) := by decide +kernel
theorem dX7_cell_74 : decode cX7_cell 74 = .ok (.iaload, 1) := by decide +kernel
theorem dX7_cell_75 : decode cX7_cell 75 = .ok (.iconst 1, 1) := by decide +kernel
theorem dX7_cell_76 : decode cX7_cell 76 = .ok (.isub, 1) := by decide +kernel
theorem dX7_cell_77 : decode cX7_cell 77 = .ok (.invokestatic 74, 3) := by decide +kernel
theorem dX7_cell_80 : decode cX7_cell 80 = .ok (.ifCond .ne 9, 3) := by decide +kernel
theorem dX7_cell_83 : decode cX7_cell 83 = .ok (.aload_n 0, 1) := by decide +kernel
theorem dX7_cell_84 : decode cX7_cell 84 = .ok (.iconst 3, 1) := by decide +kernel
theorem dX7_cell_85 : decode cX7_cell 85 = .ok (.invokevirtual 239, 3) := by decide +kernel
theorem dX7_cell_88 : decode cX7_cell 88 = .ok (.lreturn, 1) := by decide +kernel
theorem dX7_cell_89 : decode cX7_cell 89 = .ok (.aload_n 0, 1) := by decide +kernel
theorem dX7_cell_90 : decode cX7_cell 90 = .ok (.getfield 16, 3) := by decide +kernel
theorem dX7_cell_93 : decode cX7_cell 93 = .ok (.bipush 60, 2) := by decide +kernel
theorem dX7_cell_95 : decode cX7_cell 95 = .ok (.iload_n 1, 1) := by decide +kernel
theorem dX7_cell_96 : decode cX7_cell 96 = .ok (.imul, 1) := by decide +kernel
theorem dX7_cell_97 : decode cX7_cell 97 = .ok (.iload_n 2, 1) := by decide +kernel
theorem dX7_cell_98 : decode cX7_cell 98 = .ok (.iadd, 1) := by decide +kernel
theorem dX7_cell_99 : decode cX7_cell 99 = .ok (.iaload, 1) := by decide +kernel
theorem dX7_cell_100 : decode cX7_cell 100 = .ok (.i2l, 1) := by decide +kernel
theorem dX7_cell_101 : decode cX7_cell 101 = .ok (.lreturn, 1) := by decide +kernel
theorem dX7_copy_0 : decode cX7_copy 0 = .ok (.aload_n 0, 1) := by decide +kernel
theorem dX7_copy_1 : decode cX7_copy 1 = .ok (.iconst 0, 1) := by decide +kernel
theorem dX7_copy_2 : decode cX7_copy 2 = .ok (.putfield 68, 3) := by decide +kernel
theorem dX7_copy_5 : decode cX7_copy 5 = .ok (.iload_n 1, 1) := by decide +kernel
theorem dX7_copy_6 : decode cX7_copy 6 = .ok (.invokestatic 87, 3) := by decide +kernel
theorem dX7_copy_9 : decode cX7_copy 9 = .ok (.ifCond .eq 10, 3) := by decide +kernel
theorem dX7_copy_12 : decode cX7_copy 12 = .ok (.iload_n 3, 1) := by decide +kernel
theorem dX7_copy_13 : decode cX7_copy 13 = .ok (.invokestatic 87, 3) := by decide +kernel
theorem dX7_copy_16 : decode cX7_copy 16 = .ok (.ifCond .ne 5, 3) := by decide +kernel
theorem dX7_copy_19 : decode cX7_copy 19 = .ok (.iconst (-1), 1) := by decide +kernel
theorem dX7_copy_20 : decode cX7_copy 20 = .ok (.ireturn, 1) := by decide +kernel
theorem dX7_copy_21 : decode cX7_copy 21 = .ok (.aload_n 0, 1) := by decide +kernel
theorem dX7_copy_22 : decode cX7_copy 22 = .ok (.getfield 9, 3) := by decide +kernel
theorem dX7_copy_25 : decode cX7_copy 25 = .ok (.iload_n 1, 1) := by decide +kernel
theorem dX7_copy_26 : decode cX7_copy 26 = .ok (.iaload, 1) := by decide +kernel
theorem dX7_copy_27 : decode cX7_copy 27 = .ok (.bipush (-9), 2) := by decide +kernel
theorem dX7_copy_29 : decode cX7_copy 29 = .ok (.if_icmp .eq 14, 3) := by decide +kernel
theorem dX7_copy_32 : decode cX7_copy 32 = .ok (.aload_n 0, 1) := by decide +kernel
theorem dX7_copy_33 : decode cX7_copy 33 = .ok (.getfield 9, 3) := by decide +kernel
theorem dX7_copy_36 : decode cX7_copy 36 = .ok (.iload_n 3, 1) := by decide +kernel
theorem dX7_copy_37 : decode cX7_copy 37 = .ok (.iaload, 1) := by decide +kernel
theorem dX7_copy_38 : decode cX7_copy 38 = .ok (.bipush (-9), 2) := by decide +kernel
theorem dX7_copy_40 : decode cX7_copy 40 = .ok (.if_icmp .ne 9, 3) := by decide +kernel
theorem dX7_copy_43 : decode cX7_copy 43 = .ok (.aload_n 0, 1) := by decide +kernel
theorem dX7_copy_44 : decode cX7_copy 44 = .ok (.iconst 1, 1) := by decide +kernel
theorem dX7_copy_45 : decode cX7_copy 45 = .ok (.invokevirtual 98, 3) := by decide +kernel
theorem dX7_copy_48 : decode cX7_copy 48 = .ok (.ireturn, 1) := by decide +kernel
theorem dX7_copy_49 : decode cX7_copy 49 = .ok (.aload_n 0, 1) := by decide +kernel
theorem dX7_copy_50 : decode cX7_copy 50 = .ok (.getfield 9, 3) := by decide +kernel
theorem dX7_copy_53 : decode cX7_copy 53 = .ok (.iload_n 1, 1) := by decide +kernel
theorem dX7_copy_54 : decode cX7_copy 54 = .ok (.iaload, 1) := by decide +kernel
theorem dX7_copy_55 : decode cX7_copy 55 = .ok (.aload_n 0, 1) := by decide +kernel
theorem dX7_copy_56 : decode cX7_copy 56 = .ok (.getfield 9, 3) := by decide +kernel
theorem dX7_copy_59 : decode cX7_copy 59 = .ok (.iload_n 3, 1) := by decide +kernel
theorem dX7_copy_60 : decode cX7_copy 60 = .ok (.iaload, 1) := by decide +kernel
theorem dX7_copy_61 : decode cX7_copy 61 = .ok (.if_icmp .eq 9, 3) := by decide +kernel
theorem dX7_copy_64 : decode cX7_copy 64 = .ok (.aload_n 0, 1) := by decide +kernel
theorem dX7_copy_65 : decode cX7_copy 65 = .ok (.iconst 2, 1) := by decide +kernel
theorem dX7_copy_66 : decode cX7_copy 66 = .ok (.invokevirtual 98, 3) := by decide +kernel
theorem dX7_copy_69 : decode cX7_copy 69 = .ok (.ireturn, 1) := by decide +kernel
theorem dX7_copy_70 : decode cX7_copy 70 = .ok (.iload_n 2, 1) := by decide +kernel
theorem dX7_copy_71 : decode cX7_copy 71 = .ok (.ifCond .lt 38, 3) := by decide +kernel
theorem dX7_copy_74 : decode cX7_copy 74 = .ok (.iload 4, 2) := by decide +kernel
theorem dX7_copy_76 : decode cX7_copy 76 = .ok (.ifCond .lt 33, 3) := by decide +kernel
theorem dX7_copy_79 : decode cX7_copy 79 = .ok (.iload 5, 2) := by decide +kernel
theorem dX7_copy_81 : decode cX7_copy 81 = .ok (.ifCond .lt 28, 3) := by decide +kernel
theorem dX7_copy_84 : decode cX7_copy 84 = .ok (.iload_n 2, 1) := by decide +kernel
theorem dX7_copy_85 : decode cX7_copy 85 = .ok (.aload_n 0, 1) := by decide +kernel
theorem dX7_copy_86 : decode cX7_copy 86 = .ok (.getfield 13, 3) := by decide +kernel
theorem dX7_copy_89 : decode cX7_copy 89 = .ok (.iload_n 1, 1) := by decide +kernel
theorem dX7_copy_90 : decode cX7_copy 90 = .ok (.iaload, 1) := by decide +kernel
theorem dX7_copy_91 : decode cX7_copy 91 = .ok (.if_icmp .gt 18, 3) := by decide +kernel
theorem dX7_copy_94 : decode cX7_copy 94 = .ok (.iload 4, 2) := by decide +kernel
theorem dX7_copy_96 : decode cX7_copy 96 = .ok (.aload_n 0, 1) := by decide +kernel
theorem dX7_copy_97 : decode cX7_copy 97 = .ok (.getfield 13, 3) := by decide +kernel
theorem dX7_copy_100 : decode cX7_copy 100 = .ok (.iload_n 3, 1) := by decide +kernel
theorem dX7_copy_101 : decode cX7_copy 101 = .ok (.iaload, 1) := by decide +kernel
theorem dX7_copy_102 : decode cX7_copy 102 = .ok (.if_icmp .gt 7, 3) := by decide +kernel
theorem dX7_copy_105 : decode cX7_copy 105 = .ok (.iconst 1, 1) := by decide +kernel
theorem dX7_copy_106 : decode cX7_copy 106 = .ok (.goto 4, 3) := by decide +kernel
theorem dX7_copy_109 : decode cX7_copy 109 = .ok (.iconst 0, 1) := by decide +kernel
theorem dX7_copy_110 : decode cX7_copy 110 = .ok (.istore 6, 2) := by decide +kernel
theorem dX7_copy_112 : decode cX7_copy 112 = .ok (.iload 6, 2) := by decide +kernel
theorem dX7_copy_114 : decode cX7_copy 114 = .ok (.ifCond .eq 30, 3) := by decide +kernel
theorem dX7_copy_117 : decode cX7_copy 117 = .ok (.iload 5, 2) := by decide +kernel
theorem dX7_copy_119 : decode cX7_copy 119 = .ok (.aload_n 0, 1) := by decide +kernel
theorem dX7_copy_120 : decode cX7_copy 120 = .ok (.getfield 13, 3) := by decide +kernel
theorem dX7_copy_123 : decode cX7_copy 123 = .ok (.iload_n 1, 1) := by decide +kernel
theorem dX7_copy_124 : decode cX7_copy 124 = .ok (.iaload, 1) := by decide +kernel
theorem dX7_copy_125 : decode cX7_copy 125 = .ok (.iload_n 2, 1) := by decide +kernel
theorem dX7_copy_126 : decode cX7_copy 126 = .ok (.isub, 1) := by decide +kernel
theorem dX7_copy_127 : decode cX7_copy 127 = .ok (.if_icmp .gt 17, 3) := by decide +kernel
theorem dX7_copy_130 : decode cX7_copy 130 = .ok (.iload 5, 2) := by decide +kernel
theorem dX7_copy_132 : decode cX7_copy 132 = .ok (.aload_n 0, 1) := by decide +kernel
theorem dX7_copy_133 : decode cX7_copy 133 = .ok (.getfield 13, 3) := by decide +kernel
theorem dX7_copy_136 : decode cX7_copy 136 = .ok (.iload_n 3, 1) := by decide +kernel
theorem dX7_copy_137 : decode cX7_copy 137 = .ok (.iaload, 1) := by decide +kernel
theorem dX7_copy_138 : decode cX7_copy 138 = .ok (.iload 4, 2) := by decide +kernel
theorem dX7_copy_140 : decode cX7_copy 140 = .ok (.isub, 1) := by decide +kernel
theorem dX7_copy_141 : decode cX7_copy 141 = .ok (.if_icmp .le 9, 3) := by decide +kernel
theorem dX7_copy_144 : decode cX7_copy 144 = .ok (.aload_n 0, 1) := by decide +kernel
theorem dX7_copy_145 : decode cX7_copy 145 = .ok (.iconst 3, 1) := by decide +kernel
theorem dX7_copy_146 : decode cX7_copy 146 = .ok (.invokevirtual 98, 3) := by decide +kernel
theorem dX7_copy_149 : decode cX7_copy 149 = .ok (.ireturn, 1) := by decide +kernel
theorem dX7_copy_150 : decode cX7_copy 150 = .ok (.iload_n 2, 1) := by decide +kernel
theorem dX7_copy_151 : decode cX7_copy 151 = .ok (.iload 4, 2) := by decide +kernel
theorem dX7_copy_153 : decode cX7_copy 153 = .ok (.if_icmp .ge 7, 3) := by decide +kernel
theorem dX7_copy_156 : decode cX7_copy 156 = .ok (.iconst 1, 1) := by decide +kernel
theorem dX7_copy_157 : decode cX7_copy 157 = .ok (.goto 4, 3) := by decide +kernel
theorem dX7_copy_160 : decode cX7_copy 160 = .ok (.iconst 0, 1) := by decide +kernel
theorem dX7_copy_161 : decode cX7_copy 161 = .ok (.istore 7, 2) := by decide +kernel
theorem dX7_copy_163 : decode cX7_copy 163 = .ok (.iconst 0, 1) := by decide +kernel
theorem dX7_copy_164 : decode cX7_copy 164 = .ok (.istore 8, 2) := by decide +kernel
theorem dX7_copy_166 : decode cX7_copy 166 = .ok (.iload 8, 2) := by decide +kernel
theorem dX7_copy_168 : decode cX7_copy 168 = .ok (.iload 5, 2) := by decide +kernel
theorem dX7_copy_170 : decode cX7_copy 170 = .ok (.if_icmp .ge 57, 3) := by decide +kernel
theorem dX7_copy_173 : decode cX7_copy 173 = .ok (.iload 7, 2) := by decide +kernel
theorem dX7_copy_175 : decode cX7_copy 175 = .ok (.ifCond .eq 13, 3) := by decide +kernel
theorem dX7_copy_178 : decode cX7_copy 178 = .ok (.iload 5, 2) := by decide +kernel
theorem dX7_copy_180 : decode cX7_copy 180 = .ok (.iconst 1, 1) := by decide +kernel
theorem dX7_copy_181 : decode cX7_copy 181 = .ok (.isub, 1) := by decide +kernel
theorem dX7_copy_182 : decode cX7_copy 182 = .ok (.iload 8, 2) := by decide +kernel
theorem dX7_copy_184 : decode cX7_copy 184 = .ok (.isub, 1) := by decide +kernel
theorem dX7_copy_185 : decode cX7_copy 185 = .ok (.goto 5, 3) := by decide +kernel
theorem dX7_copy_188 : decode cX7_copy 188 = .ok (.iload 8, 2) := by decide +kernel
theorem dX7_copy_190 : decode cX7_copy 190 = .ok (.istore 9, 2) := by decide +kernel
theorem dX7_copy_192 : decode cX7_copy 192 = .ok (.aload_n 0, 1) := by decide +kernel
theorem dX7_copy_193 : decode cX7_copy 193 = .ok (.getfield 16, 3) := by decide +kernel
theorem dX7_copy_196 : decode cX7_copy 196 = .ok (.bipush 60, 2) := by decide +kernel
theorem dX7_copy_198 : decode cX7_copy 198 = .ok (.iload_n 3, 1) := by decide +kernel
theorem dX7_copy_199 : decode cX7_copy 199 = .ok (.imul, 1) := by decide +kernel
theorem dX7_copy_200 : decode cX7_copy 200 = .ok (.iload 4, 2) := by decide +kernel
theorem dX7_copy_202 : decode cX7_copy 202 = .ok (.iadd, 1) := by decide +kernel
theorem dX7_copy_203 : decode cX7_copy 203 = .ok (.iload 9, 2) := by decide +kernel
theorem dX7_copy_205 : decode cX7_copy 205 = .ok (.iadd, 1) := by decide +kernel
theorem dX7_copy_206 : decode cX7_copy 206 = .ok (.aload_n 0, 1) := by decide +kernel
theorem dX7_copy_207 : decode cX7_copy 207 = .ok (.getfield 16, 3) := by decide +kernel
theorem dX7_copy_210 : decode cX7_copy 210 = .ok (.bipush 60, 2) := by decide +kernel
theorem dX7_copy_212 : decode cX7_copy 212 = .ok (.iload_n 1, 1) := by decide +kernel
theorem dX7_copy_213 : decode cX7_copy 213 = .ok (.imul, 1) := by decide +kernel
theorem dX7_copy_214 : decode cX7_copy 214 = .ok (.iload_n 2, 1) := by decide +kernel
theorem dX7_copy_215 : decode cX7_copy 215 = .ok (.iadd, 1) := by decide +kernel
theorem dX7_copy_216 : decode cX7_copy 216 = .ok (.iload 9, 2) := by decide +kernel
theorem dX7_copy_218 : decode cX7_copy 218 = .ok (.iadd, 1) := by decide +kernel
theorem dX7_copy_219 : decode cX7_copy 219 = .ok (.iaload, 1) := by decide +kernel
theorem dX7_copy_220 : decode cX7_copy 220 = .ok (.iastore, 1) := by decide +kernel
theorem dX7_copy_221 : decode cX7_copy 221 = .ok (.iinc 8 1, 3) := by decide +kernel
theorem dX7_copy_224 : decode cX7_copy 224 = .ok (.goto (-58), 3) := by decide +kernel
theorem dX7_copy_227 : decode cX7_copy 227 = .ok (.iload 5, 2) := by decide +kernel
theorem dX7_copy_229 : decode cX7_copy 229 = .ok (.ireturn, 1) := by decide +kernel
theorem dX7_begins_0 : decode cX7_begins 0 = .ok (.aload_n 0, 1) := by decide +kernel
theorem dX7_begins_1 : decode cX7_begins 1 = .ok (.bipush 31, 2) := by decide +kernel
theorem dX7_begins_3 : decode cX7_begins 3 = .ok (.aload_n 0, 1) := by decide +kernel
theorem dX7_begins_4 : decode cX7_begins 4 = .ok (.getfield 243, 3) := by decide +kernel
theorem dX7_begins_7 : decode cX7_begins 7 = .ok (.imul, 1) := by decide +kernel
theorem dX7_begins_8 : decode cX7_begins 8 = .ok (.iload_n 1, 1) := by decide +kernel
theorem dX7_begins_9 : decode cX7_begins 9 = .ok (.iadd, 1) := by decide +kernel
theorem dX7_begins_10 : decode cX7_begins 10 = .ok (.putfield 243, 3) := by decide +kernel
theorem dX7_begins_13 : decode cX7_begins 13 = .ok (.return_, 1) := by decide +kernel
theorem dX7_tell_0 : decode cX7_tell 0 = .ok (.aload_n 0, 1) := by decide +kernel
theorem dX7_tell_1 : decode cX7_tell 1 = .ok (.iload_n 1, 1) := by decide +kernel
theorem dX7_tell_2 : decode cX7_tell 2 = .ok (.invokevirtual 153, 3) := by decide +kernel
theorem dX7_tell_5 : decode cX7_tell 5 = .ok (.ifCond .ne 5, 3) := by decide +kernel
theorem dX7_tell_8 : decode cX7_tell 8 = .ok (.iconst (-1), 1) := by decide +kernel
theorem dX7_tell_9 : decode cX7_tell 9 = .ok (.ireturn, 1) := by decide +kernel
theorem dX7_tell_10 : decode cX7_tell 10 = .ok (.aload_n 0, 1) := by decide +kernel
theorem dX7_tell_11 : decode cX7_tell 11 = .ok (.getfield 22, 3) := by decide +kernel
theorem dX7_tell_14 : decode cX7_tell 14 = .ok (.iload_n 1, 1) := by decide +kernel
theorem dX7_tell_15 : decode cX7_tell 15 = .ok (.iaload, 1) := by decide +kernel
theorem dX7_tell_16 : decode cX7_tell 16 = .ok (.istore_n 2, 1) := by decide +kernel
theorem dX7_tell_17 : decode cX7_tell 17 = .ok (.aload_n 0, 1) := by decide +kernel
theorem dX7_tell_18 : decode cX7_tell 18 = .ok (.getfield 19, 3) := by decide +kernel
theorem dX7_tell_21 : decode cX7_tell 21 = .ok (.iload_n 1, 1) := by decide +kernel
theorem dX7_tell_22 : decode cX7_tell 22 = .ok (.iaload, 1) := by decide +kernel
theorem dX7_tell_23 : decode cX7_tell 23 = .ok (.lookupswitch 67 #[(1, 25), (2, 40)], 25) := by decide +kernel
theorem dX7_tell_48 : decode cX7_tell 48 = .ok (.aload_n 0, 1) := by decide +kernel
theorem dX7_tell_49 : decode cX7_tell 49 = .ok (.iconst 2, 1) := by decide +kernel
theorem dX7_tell_50 : decode cX7_tell 50 = .ok (.invokevirtual 246, 3) := by decide +kernel
theorem dX7_tell_53 : decode cX7_tell 53 = .ok (.aload_n 0, 1) := by decide +kernel
theorem dX7_tell_54 : decode cX7_tell 54 = .ok (.iconst 1, 1) := by decide +kernel
theorem dX7_tell_55 : decode cX7_tell 55 = .ok (.invokevirtual 246, 3) := by decide +kernel
theorem dX7_tell_58 : decode cX7_tell 58 = .ok (.iload_n 2, 1) := by decide +kernel
theorem dX7_tell_59 : decode cX7_tell 59 = .ok (.bipush 100, 2) := by decide +kernel
theorem dX7_tell_61 : decode cX7_tell 61 = .ok (.iadd, 1) := by decide +kernel
theorem dX7_tell_62 : decode cX7_tell 62 = .ok (.ireturn, 1) := by decide +kernel
theorem dX7_tell_63 : decode cX7_tell 63 = .ok (.aload_n 0, 1) := by decide +kernel
theorem dX7_tell_64 : decode cX7_tell 64 = .ok (.iconst 3, 1) := by decide +kernel
theorem dX7_tell_65 : decode cX7_tell 65 = .ok (.invokevirtual 246, 3) := by decide +kernel
theorem dX7_tell_68 : decode cX7_tell 68 = .ok (.aload_n 0, 1) := by decide +kernel
theorem dX7_tell_69 : decode cX7_tell 69 = .ok (.iconst 2, 1) := by decide +kernel
theorem dX7_tell_70 : decode cX7_tell 70 = .ok (.invokevirtual 246, 3) := by decide +kernel
theorem dX7_tell_73 : decode cX7_tell 73 = .ok (.aload_n 0, 1) := by decide +kernel
theorem dX7_tell_74 : decode cX7_tell 74 = .ok (.iconst 1, 1) := by decide +kernel
theorem dX7_tell_75 : decode cX7_tell 75 = .ok (.invokevirtual 246, 3) := by decide +kernel
theorem dX7_tell_78 : decode cX7_tell 78 = .ok (.aload_n 0, 1) := by decide +kernel
theorem dX7_tell_79 : decode cX7_tell 79 = .ok (.iconst 1, 1) := by decide +kernel
theorem dX7_tell_80 : decode cX7_tell 80 = .ok (.invokevirtual 246, 3) := by decide +kernel
theorem dX7_tell_83 : decode cX7_tell 83 = .ok (.iconst 2, 1) := by decide +kernel
theorem dX7_tell_84 : decode cX7_tell 84 = .ok (.iload_n 2, 1) := by decide +kernel
theorem dX7_tell_85 : decode cX7_tell 85 = .ok (.imul, 1) := by decide +kernel
theorem dX7_tell_86 : decode cX7_tell 86 = .ok (.bipush 100, 2) := by decide +kernel
theorem dX7_tell_88 : decode cX7_tell 88 = .ok (.iadd, 1) := by decide +kernel
theorem dX7_tell_89 : decode cX7_tell 89 = .ok (.ireturn, 1) := by decide +kernel
theorem dX7_tell_90 : decode cX7_tell 90 = .ok (.aload_n 0, 1) := by decide +kernel
theorem dX7_tell_91 : decode cX7_tell 91 = .ok (.iconst 1, 1) := by decide +kernel
theorem dX7_tell_92 : decode cX7_tell 92 = .ok (.invokevirtual 246, 3) := by decide +kernel
theorem dX7_tell_95 : decode cX7_tell 95 = .ok (.iload_n 2, 1) := by decide +kernel
theorem dX7_tell_96 : decode cX7_tell 96 = .ok (.ireturn, 1) := by decide +kernel
theorem dX7_toast_0 : decode cX7_toast 0 = .ok (.aload_n 0, 1) := by decide +kernel
theorem dX7_toast_1 : decode cX7_toast 1 = .ok (.iload_n 1, 1) := by decide +kernel
theorem dX7_toast_2 : decode cX7_toast 2 = .ok (.invokevirtual 153, 3) := by decide +kernel
theorem dX7_toast_5 : decode cX7_toast 5 = .ok (.ifCond .ne 5, 3) := by decide +kernel
theorem dX7_toast_8 : decode cX7_toast 8 = .ok (.iconst (-1), 1) := by decide +kernel
theorem dX7_toast_9 : decode cX7_toast 9 = .ok (.ireturn, 1) := by decide +kernel
theorem dX7_toast_10 : decode cX7_toast 10 = .ok (.aload_n 0, 1) := by decide +kernel
theorem dX7_toast_11 : decode cX7_toast 11 = .ok (.aload_n 0, 1) := by decide +kernel
theorem dX7_toast_12 : decode cX7_toast 12 = .ok (.getfield 19, 3) := by decide +kernel
theorem dX7_toast_15 : decode cX7_toast 15 = .ok (.iload_n 1, 1) := by decide +kernel
theorem dX7_toast_16 : decode cX7_toast 16 = .ok (.iaload, 1) := by decide +kernel
theorem dX7_toast_17 : decode cX7_toast 17 = .ok (.iconst 2, 1) := by decide +kernel
theorem dX7_toast_18 : decode cX7_toast 18 = .ok (.if_icmp .ne 7, 3) := by decide +kernel
theorem dX7_toast_21 : decode cX7_toast 21 = .ok (.iconst 5, 1) := by decide +kernel
theorem dX7_toast_22 : decode cX7_toast 22 = .ok (.goto 4, 3) := by decide +kernel
theorem dX7_toast_25 : decode cX7_toast 25 = .ok (.iconst 4, 1) := by decide +kernel
theorem dX7_toast_26 : decode cX7_toast 26 = .ok (.invokevirtual 246, 3) := by decide +kernel
theorem dX7_toast_29 : decode cX7_toast 29 = .ok (.aload_n 0, 1) := by decide +kernel
theorem dX7_toast_30 : decode cX7_toast 30 = .ok (.getfield 19, 3) := by decide +kernel
theorem dX7_toast_33 : decode cX7_toast 33 = .ok (.iload_n 1, 1) := by decide +kernel
theorem dX7_toast_34 : decode cX7_toast 34 = .ok (.iaload, 1) := by decide +kernel
theorem dX7_toast_35 : decode cX7_toast 35 = .ok (.iconst 2, 1) := by decide +kernel
theorem dX7_toast_36 : decode cX7_toast 36 = .ok (.if_icmp .ne 8, 3) := by decide +kernel
theorem dX7_toast_39 : decode cX7_toast 39 = .ok (.bipush 20, 2) := by decide +kernel
theorem dX7_toast_41 : decode cX7_toast 41 = .ok (.goto 4, 3) := by decide +kernel
theorem dX7_toast_44 : decode cX7_toast 44 = .ok (.iload_n 1, 1) := by decide +kernel
theorem dX7_toast_45 : decode cX7_toast 45 = .ok (.ireturn, 1) := by decide +kernel
theorem dX7_as_0 : decode cX7_as 0 = .ok (.aload_n 0, 1) := by decide +kernel
theorem dX7_as_1 : decode cX7_as 1 = .ok (.iconst 0, 1) := by decide +kernel
theorem dX7_as_2 : decode cX7_as 2 = .ok (.putfield 68, 3) := by decide +kernel
theorem dX7_as_5 : decode cX7_as 5 = .ok (.aload_n 0, 1) := by decide +kernel
theorem dX7_as_6 : decode cX7_as 6 = .ok (.iload_n 1, 1) := by decide +kernel
theorem dX7_as_7 : decode cX7_as 7 = .ok (.invokevirtual 153, 3) := by decide +kernel
theorem dX7_as_10 : decode cX7_as 10 = .ok (.ifCond .ne 5, 3) := by decide +kernel
theorem dX7_as_13 : decode cX7_as 13 = .ok (.iconst (-1), 1) := by decide +kernel
theorem dX7_as_14 : decode cX7_as 14 = .ok (.ireturn, 1) := by decide +kernel
theorem dX7_as_15 : decode cX7_as 15 = .ok (.iload_n 2, 1) := by decide +kernel
theorem dX7_as_16 : decode cX7_as 16 = .ok (.iconst 0, 1) := by decide +kernel
theorem dX7_as_17 : decode cX7_as 17 = .ok (.iconst 2, 1) := by decide +kernel
theorem dX7_as_18 : decode cX7_as 18 = .ok (.invokestatic 74, 3) := by decide +kernel
theorem dX7_as_21 : decode cX7_as 21 = .ok (.ifCond .ne 6, 3) := by decide +kernel
theorem dX7_as_24 : decode cX7_as 24 = .ok (.bipush (-2), 2) := by decide +kernel
theorem dX7_as_26 : decode cX7_as 26 = .ok (.ireturn, 1) := by decide +kernel
theorem dX7_as_27 : decode cX7_as 27 = .ok (.aload_n 0, 1) := by decide +kernel
theorem dX7_as_28 : decode cX7_as 28 = .ok (.getfield 19, 3) := by decide +kernel
theorem dX7_as_31 : decode cX7_as 31 = .ok (.iload_n 1, 1) := by decide +kernel
theorem dX7_as_32 : decode cX7_as 32 = .ok (.iaload, 1) := by decide +kernel
theorem dX7_as_33 : decode cX7_as 33 = .ok (.iload_n 2, 1) := by decide +kernel
theorem dX7_as_34 : decode cX7_as 34 = .ok (.if_icmp .lt 7, 3) := by decide +kernel
theorem dX7_as_37 : decode cX7_as 37 = .ok (.iconst 1, 1) := by decide +kernel
theorem dX7_as_38 : decode cX7_as 38 = .ok (.goto 8, 3) := by decide +kernel
theorem dX7_as_41 : decode cX7_as 41 = .ok (.aload_n 0, 1) := by decide +kernel
theorem dX7_as_42 : decode cX7_as 42 = .ok (.iconst 2, 1) := by decide +kernel
theorem dX7_as_43 : decode cX7_as 43 = .ok (.invokevirtual 98, 3) := by decide +kernel
theorem dX7_as_46 : decode cX7_as 46 = .ok (.ireturn, 1) := by decide +kernel
theorem dX7_trace_0 : decode cX7_trace 0 = .ok (.aload_n 0, 1) := by decide +kernel
theorem dX7_trace_1 : decode cX7_trace 1 = .ok (.getfield 243, 3) := by decide +kernel
theorem dX7_trace_4 : decode cX7_trace 4 = .ok (.ireturn, 1) := by decide +kernel
theorem dX7_fault_0 : decode cX7_fault 0 = .ok (.aload_n 0, 1) := by decide +kernel
theorem dX7_fault_1 : decode cX7_fault 1 = .ok (.getfield 68, 3) := by decide +kernel
theorem dX7_fault_4 : decode cX7_fault 4 = .ok (.ireturn, 1) := by decide +kernel
theorem dX7_many_0 : decode cX7_many 0 = .ok (.iload_n 1, 1) := by decide +kernel
theorem dX7_many_1 : decode cX7_many 1 = .ok (.tableswitch 69 0 5 #[39, 44, 49, 54, 59, 64], 39) := by decide +kernel
theorem dX7_many_40 : decode cX7_many 40 = .ok (.aload_n 0, 1) := by decide +kernel
theorem dX7_many_41 : decode cX7_many 41 = .ok (.getfield 78, 3) := by decide +kernel
theorem dX7_many_44 : decode cX7_many 44 = .ok (.ireturn, 1) := by decide +kernel
theorem dX7_many_45 : decode cX7_many 45 = .ok (.aload_n 0, 1) := by decide +kernel
theorem dX7_many_46 : decode cX7_many 46 = .ok (.getfield 81, 3) := by decide +kernel
theorem dX7_many_49 : decode cX7_many 49 = .ok (.ireturn, 1) := by decide +kernel
theorem dX7_many_50 : decode cX7_many 50 = .ok (.aload_n 0, 1) := by decide +kernel
theorem dX7_many_51 : decode cX7_many 51 = .ok (.getfield 111, 3) := by decide +kernel
theorem dX7_many_54 : decode cX7_many 54 = .ok (.ireturn, 1) := by decide +kernel
theorem dX7_many_55 : decode cX7_many 55 = .ok (.aload_n 0, 1) := by decide +kernel
theorem dX7_many_56 : decode cX7_many 56 = .ok (.getfield 120, 3) := by decide +kernel
theorem dX7_many_59 : decode cX7_many 59 = .ok (.ireturn, 1) := by decide +kernel
theorem dX7_many_60 : decode cX7_many 60 = .ok (.aload_n 0, 1) := by decide +kernel
theorem dX7_many_61 : decode cX7_many 61 = .ok (.getfield 126, 3) := by decide +kernel
theorem dX7_many_64 : decode cX7_many 64 = .ok (.ireturn, 1) := by decide +kernel
theorem dX7_many_65 : decode cX7_many 65 = .ok (.aload_n 0, 1) := by decide +kernel
theorem dX7_many_66 : decode cX7_many 66 = .ok (.getfield 132, 3) := by decide +kernel
theorem dX7_many_69 : decode cX7_many 69 = .ok (.ireturn, 1) := by decide +kernel
theorem dX7_many_70 : decode cX7_many 70 = .ok (.bipush (-2), 2) := by decide +kernel
theorem dX7_many_72 : decode cX7_many 72 = .ok (.ireturn, 1) := by decide +kernel
end
section
theorem dL_law_0 : decode cL_law 0 = .ok (.new 7, 3) := by decide +kernel
theorem dL_law_3 : decode cL_law 3 = .ok (.dup, 1) := by decide +kernel
theorem dL_law_4 : decode cL_law 4 = .ok (.invokespecial 9, 3) := by decide +kernel
theorem dL_law_7 : decode cL_law 7 = .ok (.astore_n 1, 1) := by decide +kernel
theorem dL_law_8 : decode cL_law 8 = .ok (.new 10, 3) := by decide +kernel
theorem dL_law_11 : decode cL_law 11 = .ok (.dup, 1) := by decide +kernel
theorem dL_law_12 : decode cL_law 12 = .ok (.invokespecial 12, 3) := by decide +kernel
theorem dL_law_15 : decode cL_law 15 = .ok (.astore_n 2, 1) := by decide +kernel
theorem dL_law_16 : decode cL_law 16 = .ok (.iconst 0, 1) := by decide +kernel
theorem dL_law_17 : decode cL_law 17 = .ok (.istore_n 3, 1) := by decide +kernel
theorem dL_law_18 : decode cL_law 18 = .ok (.iload_n 3, 1) := by decide +kernel
theorem dL_law_19 : decode cL_law 19 = .ok (.aload_n 0, 1) := by decide +kernel
theorem dL_law_20 : decode cL_law 20 = .ok (.arraylength, 1) := by decide +kernel
theorem dL_law_21 : decode cL_law 21 = .ok (.bipush 6, 2) := by decide +kernel
theorem dL_law_23 : decode cL_law 23 = .ok (.isub, 1) := by decide +kernel
theorem dL_law_24 : decode cL_law 24 = .ok (.if_icmp .gt 1204, 3) := by decide +kernel
theorem dL_law_27 : decode cL_law 27 = .ok (.aload_n 0, 1) := by decide +kernel
theorem dL_law_28 : decode cL_law 28 = .ok (.iload_n 3, 1) := by decide +kernel
theorem dL_law_29 : decode cL_law 29 = .ok (.iaload, 1) := by decide +kernel
theorem dL_law_30 : decode cL_law 30 = .ok (.bipush 63, 2) := by decide +kernel
theorem dL_law_32 : decode cL_law 32 = .ok (.iand, 1) := by decide +kernel
theorem dL_law_33 : decode cL_law 33 = .ok (.tableswitch 1189 0 32 #[147, 200, 233, 266, 289, 312, 345, 368, 401, 434, 457, 520, 563, 586, 629, 652, 676, 709, 732, 755, 778, 791, 845, 888, 911, 954, 998, 1061, 1084, 1107, 1140, 1153, 1166], 147) := by decide +kernel
theorem dL_law_180 : decode cL_law 180 = .ok (.aload_n 1, 1) := by decide +kernel
theorem dL_law_181 : decode cL_law 181 = .ok (.aload_n 0, 1) := by decide +kernel
theorem dL_law_182 : decode cL_law 182 = .ok (.iload_n 3, 1) := by decide +kernel
theorem dL_law_183 : decode cL_law 183 = .ok (.iconst 1, 1) := by decide +kernel
theorem dL_law_184 : decode cL_law 184 = .ok (.iadd, 1) := by decide +kernel
theorem dL_law_185 : decode cL_law 185 = .ok (.iaload, 1) := by decide +kernel
theorem dL_law_186 : decode cL_law 186 = .ok (.aload_n 0, 1) := by decide +kernel
theorem dL_law_187 : decode cL_law 187 = .ok (.iload_n 3, 1) := by decide +kernel
theorem dL_law_188 : decode cL_law 188 = .ok (.iconst 2, 1) := by decide +kernel
theorem dL_law_189 : decode cL_law 189 = .ok (.iadd, 1) := by decide +kernel
theorem dL_law_190 : decode cL_law 190 = .ok (.iaload, 1) := by decide +kernel
theorem dL_law_191 : decode cL_law 191 = .ok (.aload_n 0, 1) := by decide +kernel
theorem dL_law_192 : decode cL_law 192 = .ok (.iload_n 3, 1) := by decide +kernel
theorem dL_law_193 : decode cL_law 193 = .ok (.iconst 3, 1) := by decide +kernel
theorem dL_law_194 : decode cL_law 194 = .ok (.iadd, 1) := by decide +kernel
theorem dL_law_195 : decode cL_law 195 = .ok (.iaload, 1) := by decide +kernel
theorem dL_law_196 : decode cL_law 196 = .ok (.aload_n 0, 1) := by decide +kernel
theorem dL_law_197 : decode cL_law 197 = .ok (.iload_n 3, 1) := by decide +kernel
theorem dL_law_198 : decode cL_law 198 = .ok (.iconst 4, 1) := by decide +kernel
theorem dL_law_199 : decode cL_law 199 = .ok (.iadd, 1) := by decide +kernel
theorem dL_law_200 : decode cL_law 200 = .ok (.iaload, 1) := by decide +kernel
theorem dL_law_201 : decode cL_law 201 = .ok (.invokevirtual 13, 3) := by decide +kernel
theorem dL_law_204 : decode cL_law 204 = .ok (.aload_n 2, 1) := by decide +kernel
theorem dL_law_205 : decode cL_law 205 = .ok (.aload_n 0, 1) := by decide +kernel
theorem dL_law_206 : decode cL_law 206 = .ok (.iload_n 3, 1) := by decide +kernel
theorem dL_law_207 : decode cL_law 207 = .ok (.iconst 1, 1) := by decide +kernel
theorem dL_law_208 : decode cL_law 208 = .ok (.iadd, 1) := by decide +kernel
theorem dL_law_209 : decode cL_law 209 = .ok (.iaload, 1) := by decide +kernel
theorem dL_law_210 : decode cL_law 210 = .ok (.aload_n 0, 1) := by decide +kernel
theorem dL_law_211 : decode cL_law 211 = .ok (.iload_n 3, 1) := by decide +kernel
theorem dL_law_212 : decode cL_law 212 = .ok (.iconst 2, 1) := by decide +kernel
theorem dL_law_213 : decode cL_law 213 = .ok (.iadd, 1) := by decide +kernel
theorem dL_law_214 : decode cL_law 214 = .ok (.iaload, 1) := by decide +kernel
theorem dL_law_215 : decode cL_law 215 = .ok (.aload_n 0, 1) := by decide +kernel
theorem dL_law_216 : decode cL_law 216 = .ok (.iload_n 3, 1) := by decide +kernel
theorem dL_law_217 : decode cL_law 217 = .ok (.iconst 3, 1) := by decide +kernel
theorem dL_law_218 : decode cL_law 218 = .ok (.iadd, 1) := by decide +kernel
theorem dL_law_219 : decode cL_law 219 = .ok (.iaload, 1) := by decide +kernel
theorem dL_law_220 : decode cL_law 220 = .ok (.aload_n 0, 1) := by decide +kernel
theorem dL_law_221 : decode cL_law 221 = .ok (.iload_n 3, 1) := by decide +kernel
theorem dL_law_222 : decode cL_law 222 = .ok (.iconst 4, 1) := by decide +kernel
theorem dL_law_223 : decode cL_law 223 = .ok (.iadd, 1) := by decide +kernel
theorem dL_law_224 : decode cL_law 224 = .ok (.iaload, 1) := by decide +kernel
theorem dL_law_225 : decode cL_law 225 = .ok (.invokevirtual 17, 3) := by decide +kernel
theorem dL_law_228 : decode cL_law 228 = .ok (.if_icmp .eq 994, 3) := by decide +kernel
theorem dL_law_231 : decode cL_law 231 = .ok (.iconst 0, 1) := by decide +kernel
theorem dL_law_232 : decode cL_law 232 = .ok (.ireturn, 1) := by decide +kernel
theorem dL_law_233 : decode cL_law 233 = .ok (.aload_n 1, 1) := by decide +kernel
theorem dL_law_234 : decode cL_law 234 = .ok (.aload_n 0, 1) := by decide +kernel
theorem dL_law_235 : decode cL_law 235 = .ok (.iload_n 3, 1) := by decide +kernel
theorem dL_law_236 : decode cL_law 236 = .ok (.iconst 1, 1) := by decide +kernel
theorem dL_law_237 : decode cL_law 237 = .ok (.iadd, 1) := by decide +kernel
theorem dL_law_238 : decode cL_law 238 = .ok (.iaload, 1) := by decide +kernel
theorem dL_law_239 : decode cL_law 239 = .ok (.aload_n 0, 1) := by decide +kernel
theorem dL_law_240 : decode cL_law 240 = .ok (.iload_n 3, 1) := by decide +kernel
theorem dL_law_241 : decode cL_law 241 = .ok (.iconst 2, 1) := by decide +kernel
theorem dL_law_242 : decode cL_law 242 = .ok (.iadd, 1) := by decide +kernel
theorem dL_law_243 : decode cL_law 243 = .ok (.iaload, 1) := by decide +kernel
theorem dL_law_244 : decode cL_law 244 = .ok (.invokevirtual 18, 3) := by decide +kernel
theorem dL_law_247 : decode cL_law 247 = .ok (.aload_n 2, 1) := by decide +kernel
theorem dL_law_248 : decode cL_law 248 = .ok (.aload_n 0, 1) := by decide +kernel
theorem dL_law_249 : decode cL_law 249 = .ok (.iload_n 3, 1) := by decide +kernel
theorem dL_law_250 : decode cL_law 250 = .ok (.iconst 1, 1) := by decide +kernel
theorem dL_law_251 : decode cL_law 251 = .ok (.iadd, 1) := by decide +kernel
theorem dL_law_252 : decode cL_law 252 = .ok (.iaload, 1) := by decide +kernel
theorem dL_law_253 : decode cL_law 253 = .ok (.aload_n 0, 1) := by decide +kernel
theorem dL_law_254 : decode cL_law 254 = .ok (.iload_n 3, 1) := by decide +kernel
theorem dL_law_255 : decode cL_law 255 = .ok (.iconst 2, 1) := by decide +kernel
theorem dL_law_256 : decode cL_law 256 = .ok (.iadd, 1) := by decide +kernel
theorem dL_law_257 : decode cL_law 257 = .ok (.iaload, 1) := by decide +kernel
theorem dL_law_258 : decode cL_law 258 = .ok (.invokevirtual 22, 3) := by decide +kernel
theorem dL_law_261 : decode cL_law 261 = .ok (.if_icmp .eq 961, 3) := by decide +kernel
theorem dL_law_264 : decode cL_law 264 = .ok (.iconst 0, 1) := by decide +kernel
theorem dL_law_265 : decode cL_law 265 = .ok (.ireturn, 1) := by decide +kernel
theorem dL_law_266 : decode cL_law 266 = .ok (.aload_n 1, 1) := by decide +kernel
theorem dL_law_267 : decode cL_law 267 = .ok (.aload_n 0, 1) := by decide +kernel
theorem dL_law_268 : decode cL_law 268 = .ok (.iload_n 3, 1) := by decide +kernel
theorem dL_law_269 : decode cL_law 269 = .ok (.iconst 1, 1) := by decide +kernel
theorem dL_law_270 : decode cL_law 270 = .ok (.iadd, 1) := by decide +kernel
theorem dL_law_271 : decode cL_law 271 = .ok (.iaload, 1) := by decide +kernel
theorem dL_law_272 : decode cL_law 272 = .ok (.aload_n 0, 1) := by decide +kernel
theorem dL_law_273 : decode cL_law 273 = .ok (.iload_n 3, 1) := by decide +kernel
theorem dL_law_274 : decode cL_law 274 = .ok (.iconst 2, 1) := by decide +kernel
theorem dL_law_275 : decode cL_law 275 = .ok (.iadd, 1) := by decide +kernel
theorem dL_law_276 : decode cL_law 276 = .ok (.iaload, 1) := by decide +kernel
theorem dL_law_277 : decode cL_law 277 = .ok (.invokevirtual 23, 3) := by decide +kernel
theorem dL_law_280 : decode cL_law 280 = .ok (.aload_n 2, 1) := by decide +kernel
theorem dL_law_281 : decode cL_law 281 = .ok (.aload_n 0, 1) := by decide +kernel
theorem dL_law_282 : decode cL_law 282 = .ok (.iload_n 3, 1) := by decide +kernel
theorem dL_law_283 : decode cL_law 283 = .ok (.iconst 1, 1) := by decide +kernel
theorem dL_law_284 : decode cL_law 284 = .ok (.iadd, 1) := by decide +kernel
theorem dL_law_285 : decode cL_law 285 = .ok (.iaload, 1) := by decide +kernel
theorem dL_law_286 : decode cL_law 286 = .ok (.aload_n 0, 1) := by decide +kernel
theorem dL_law_287 : decode cL_law 287 = .ok (.iload_n 3, 1) := by decide +kernel
theorem dL_law_288 : decode cL_law 288 = .ok (.iconst 2, 1) := by decide +kernel
theorem dL_law_289 : decode cL_law 289 = .ok (.iadd, 1) := by decide +kernel
theorem dL_law_290 : decode cL_law 290 = .ok (.iaload, 1) := by decide +kernel
theorem dL_law_291 : decode cL_law 291 = .ok (.invokevirtual 26, 3) := by decide +kernel
theorem dL_law_294 : decode cL_law 294 = .ok (.if_icmp .eq 928, 3) := by decide +kernel
theorem dL_law_297 : decode cL_law 297 = .ok (.iconst 0, 1) := by decide +kernel
theorem dL_law_298 : decode cL_law 298 = .ok (.ireturn, 1) := by decide +kernel
theorem dL_law_299 : decode cL_law 299 = .ok (.aload_n 1, 1) := by decide +kernel
theorem dL_law_300 : decode cL_law 300 = .ok (.aload_n 0, 1) := by decide +kernel
theorem dL_law_301 : decode cL_law 301 = .ok (.iload_n 3, 1) := by decide +kernel
theorem dL_law_302 : decode cL_law 302 = .ok (.iconst 1, 1) := by decide +kernel
theorem dL_law_303 : decode cL_law 303 = .ok (.iadd, 1) := by decide +kernel
theorem dL_law_304 : decode cL_law 304 = .ok (.iaload, 1) := by decide +kernel
theorem dL_law_305 : decode cL_law 305 = .ok (.invokevirtual 27, 3) := by decide +kernel
theorem dL_law_308 : decode cL_law 308 = .ok (.aload_n 2, 1) := by decide +kernel
theorem dL_law_309 : decode cL_law 309 = .ok (.aload_n 0, 1) := by decide +kernel
theorem dL_law_310 : decode cL_law 310 = .ok (.iload_n 3, 1) := by decide +kernel
theorem dL_law_311 : decode cL_law 311 = .ok (.iconst 1, 1) := by decide +kernel
theorem dL_law_312 : decode cL_law 312 = .ok (.iadd, 1) := by decide +kernel
theorem dL_law_313 : decode cL_law 313 = .ok (.iaload, 1) := by decide +kernel
theorem dL_law_314 : decode cL_law 314 = .ok (.invokevirtual 31, 3) := by decide +kernel
theorem dL_law_317 : decode cL_law 317 = .ok (.if_icmp .eq 905, 3) := by decide +kernel
theorem dL_law_320 : decode cL_law 320 = .ok (.iconst 0, 1) := by decide +kernel
theorem dL_law_321 : decode cL_law 321 = .ok (.ireturn, 1) := by decide +kernel
theorem dL_law_322 : decode cL_law 322 = .ok (.aload_n 1, 1) := by decide +kernel
theorem dL_law_323 : decode cL_law 323 = .ok (.aload_n 0, 1) := by decide +kernel
theorem dL_law_324 : decode cL_law 324 = .ok (.iload_n 3, 1) := by decide +kernel
theorem dL_law_325 : decode cL_law 325 = .ok (.iconst 1, 1) := by decide +kernel
theorem dL_law_326 : decode cL_law 326 = .ok (.iadd, 1) := by decide +kernel
theorem dL_law_327 : decode cL_law 327 = .ok (.iaload, 1) := by decide +kernel
theorem dL_law_328 : decode cL_law 328 = .ok (.invokevirtual 32, 3) := by decide +kernel
theorem dL_law_331 : decode cL_law 331 = .ok (.aload_n 2, 1) := by decide +kernel
theorem dL_law_332 : decode cL_law 332 = .ok (.aload_n 0, 1) := by decide +kernel
theorem dL_law_333 : decode cL_law 333 = .ok (.iload_n 3, 1) := by decide +kernel
theorem dL_law_334 : decode cL_law 334 = .ok (.iconst 1, 1) := by decide +kernel
theorem dL_law_335 : decode cL_law 335 = .ok (.iadd, 1) := by decide +kernel
theorem dL_law_336 : decode cL_law 336 = .ok (.iaload, 1) := by decide +kernel
theorem dL_law_337 : decode cL_law 337 = .ok (.invokevirtual 35, 3) := by decide +kernel
theorem dL_law_340 : decode cL_law 340 = .ok (.if_icmp .eq 882, 3) := by decide +kernel
theorem dL_law_343 : decode cL_law 343 = .ok (.iconst 0, 1) := by decide +kernel
theorem dL_law_344 : decode cL_law 344 = .ok (.ireturn, 1) := by decide +kernel
theorem dL_law_345 : decode cL_law 345 = .ok (.aload_n 1, 1) := by decide +kernel
theorem dL_law_346 : decode cL_law 346 = .ok (.aload_n 0, 1) := by decide +kernel
theorem dL_law_347 : decode cL_law 347 = .ok (.iload_n 3, 1) := by decide +kernel
theorem dL_law_348 : decode cL_law 348 = .ok (.iconst 1, 1) := by decide +kernel
theorem dL_law_349 : decode cL_law 349 = .ok (.iadd, 1) := by decide +kernel
theorem dL_law_350 : decode cL_law 350 = .ok (.iaload, 1) := by decide +kernel
theorem dL_law_351 : decode cL_law 351 = .ok (.aload_n 0, 1) := by decide +kernel
theorem dL_law_352 : decode cL_law 352 = .ok (.iload_n 3, 1) := by decide +kernel
theorem dL_law_353 : decode cL_law 353 = .ok (.iconst 2, 1) := by decide +kernel
theorem dL_law_354 : decode cL_law 354 = .ok (.iadd, 1) := by decide +kernel
theorem dL_law_355 : decode cL_law 355 = .ok (.iaload, 1) := by decide +kernel
theorem dL_law_356 : decode cL_law 356 = .ok (.invokevirtual 36, 3) := by decide +kernel
theorem dL_law_359 : decode cL_law 359 = .ok (.aload_n 2, 1) := by decide +kernel
theorem dL_law_360 : decode cL_law 360 = .ok (.aload_n 0, 1) := by decide +kernel
theorem dL_law_361 : decode cL_law 361 = .ok (.iload_n 3, 1) := by decide +kernel
theorem dL_law_362 : decode cL_law 362 = .ok (.iconst 1, 1) := by decide +kernel
theorem dL_law_363 : decode cL_law 363 = .ok (.iadd, 1) := by decide +kernel
theorem dL_law_364 : decode cL_law 364 = .ok (.iaload, 1) := by decide +kernel
theorem dL_law_365 : decode cL_law 365 = .ok (.aload_n 0, 1) := by decide +kernel
theorem dL_law_366 : decode cL_law 366 = .ok (.iload_n 3, 1) := by decide +kernel
theorem dL_law_367 : decode cL_law 367 = .ok (.iconst 2, 1) := by decide +kernel
theorem dL_law_368 : decode cL_law 368 = .ok (.iadd, 1) := by decide +kernel
theorem dL_law_369 : decode cL_law 369 = .ok (.iaload, 1) := by decide +kernel
theorem dL_law_370 : decode cL_law 370 = .ok (.invokevirtual 39, 3) := by decide +kernel
theorem dL_law_373 : decode cL_law 373 = .ok (.if_icmp .eq 849, 3) := by decide +kernel
theorem dL_law_376 : decode cL_law 376 = .ok (.iconst 0, 1) := by decide +kernel
theorem dL_law_377 : decode cL_law 377 = .ok (.ireturn, 1) := by decide +kernel
theorem dL_law_378 : decode cL_law 378 = .ok (.aload_n 1, 1) := by decide +kernel
theorem dL_law_379 : decode cL_law 379 = .ok (.aload_n 0, 1) := by decide +kernel
theorem dL_law_380 : decode cL_law 380 = .ok (.iload_n 3, 1) := by decide +kernel
theorem dL_law_381 : decode cL_law 381 = .ok (.iconst 1, 1) := by decide +kernel
theorem dL_law_382 : decode cL_law 382 = .ok (.iadd, 1) := by decide +kernel
theorem dL_law_383 : decode cL_law 383 = .ok (.iaload, 1) := by decide +kernel
theorem dL_law_384 : decode cL_law 384 = .ok (.invokevirtual 40, 3) := by decide +kernel
theorem dL_law_387 : decode cL_law 387 = .ok (.aload_n 2, 1) := by decide +kernel
theorem dL_law_388 : decode cL_law 388 = .ok (.aload_n 0, 1) := by decide +kernel
theorem dL_law_389 : decode cL_law 389 = .ok (.iload_n 3, 1) := by decide +kernel
theorem dL_law_390 : decode cL_law 390 = .ok (.iconst 1, 1) := by decide +kernel
theorem dL_law_391 : decode cL_law 391 = .ok (.iadd, 1) := by decide +kernel
theorem dL_law_392 : decode cL_law 392 = .ok (.iaload, 1) := by decide +kernel
theorem dL_law_393 : decode cL_law 393 = .ok (.invokevirtual 43, 3) := by decide +kernel
theorem dL_law_396 : decode cL_law 396 = .ok (.if_icmp .eq 826, 3) := by decide +kernel
theorem dL_law_399 : decode cL_law 399 = .ok (.iconst 0, 1) := by decide +kernel
theorem dL_law_400 : decode cL_law 400 = .ok (.ireturn, 1) := by decide +kernel
theorem dL_law_401 : decode cL_law 401 = .ok (.aload_n 1, 1) := by decide +kernel
theorem dL_law_402 : decode cL_law 402 = .ok (.aload_n 0, 1) := by decide +kernel
theorem dL_law_403 : decode cL_law 403 = .ok (.iload_n 3, 1) := by decide +kernel
theorem dL_law_404 : decode cL_law 404 = .ok (.iconst 1, 1) := by decide +kernel
theorem dL_law_405 : decode cL_law 405 = .ok (.iadd, 1) := by decide +kernel
theorem dL_law_406 : decode cL_law 406 = .ok (.iaload, 1) := by decide +kernel
theorem dL_law_407 : decode cL_law 407 = .ok (.aload_n 0, 1) := by decide +kernel
theorem dL_law_408 : decode cL_law 408 = .ok (.iload_n 3, 1) := by decide +kernel
theorem dL_law_409 : decode cL_law 409 = .ok (.iconst 2, 1) := by decide +kernel
theorem dL_law_410 : decode cL_law 410 = .ok (.iadd, 1) := by decide +kernel
theorem dL_law_411 : decode cL_law 411 = .ok (.iaload, 1) := by decide +kernel
theorem dL_law_412 : decode cL_law 412 = .ok (.invokevirtual 44, 3) := by decide +kernel
theorem dL_law_415 : decode cL_law 415 = .ok (.aload_n 2, 1) := by decide +kernel
theorem dL_law_416 : decode cL_law 416 = .ok (.aload_n 0, 1) := by decide +kernel
theorem dL_law_417 : decode cL_law 417 = .ok (.iload_n 3, 1) := by decide +kernel
theorem dL_law_418 : decode cL_law 418 = .ok (.iconst 1, 1) := by decide +kernel
theorem dL_law_419 : decode cL_law 419 = .ok (.iadd, 1) := by decide +kernel
theorem dL_law_420 : decode cL_law 420 = .ok (.iaload, 1) := by decide +kernel
theorem dL_law_421 : decode cL_law 421 = .ok (.aload_n 0, 1) := by decide +kernel
theorem dL_law_422 : decode cL_law 422 = .ok (.iload_n 3, 1) := by decide +kernel
theorem dL_law_423 : decode cL_law 423 = .ok (.iconst 2, 1) := by decide +kernel
theorem dL_law_424 : decode cL_law 424 = .ok (.iadd, 1) := by decide +kernel
theorem dL_law_425 : decode cL_law 425 = .ok (.iaload, 1) := by decide +kernel
theorem dL_law_426 : decode cL_law 426 = .ok (.invokevirtual 47, 3) := by decide +kernel
theorem dL_law_429 : decode cL_law 429 = .ok (.if_icmp .eq 793, 3) := by decide +kernel
theorem dL_law_432 : decode cL_law 432 = .ok (.iconst 0, 1) := by decide +kernel
theorem dL_law_433 : decode cL_law 433 = .ok (.ireturn, 1) := by decide +kernel
theorem dL_law_434 : decode cL_law 434 = .ok (.aload_n 1, 1) := by decide +kernel
theorem dL_law_435 : decode cL_law 435 = .ok (.aload_n 0, 1) := by decide +kernel
theorem dL_law_436 : decode cL_law 436 = .ok (.iload_n 3, 1) := by decide +kernel
theorem dL_law_437 : decode cL_law 437 = .ok (.iconst 1, 1) := by decide +kernel
theorem dL_law_438 : decode cL_law 438 = .ok (.iadd, 1) := by decide +kernel
theorem dL_law_439 : decode cL_law 439 = .ok (.iaload, 1) := by decide +kernel
theorem dL_law_440 : decode cL_law 440 = .ok (.aload_n 0, 1) := by decide +kernel
theorem dL_law_441 : decode cL_law 441 = .ok (.iload_n 3, 1) := by decide +kernel
theorem dL_law_442 : decode cL_law 442 = .ok (.iconst 2, 1) := by decide +kernel
theorem dL_law_443 : decode cL_law 443 = .ok (.iadd, 1) := by decide +kernel
theorem dL_law_444 : decode cL_law 444 = .ok (.iaload, 1) := by decide +kernel
theorem dL_law_445 : decode cL_law 445 = .ok (.invokevirtual 48, 3) := by decide +kernel
theorem dL_law_448 : decode cL_law 448 = .ok (.aload_n 2, 1) := by decide +kernel
theorem dL_law_449 : decode cL_law 449 = .ok (.aload_n 0, 1) := by decide +kernel
theorem dL_law_450 : decode cL_law 450 = .ok (.iload_n 3, 1) := by decide +kernel
theorem dL_law_451 : decode cL_law 451 = .ok (.iconst 1, 1) := by decide +kernel
theorem dL_law_452 : decode cL_law 452 = .ok (.iadd, 1) := by decide +kernel
theorem dL_law_453 : decode cL_law 453 = .ok (.iaload, 1) := by decide +kernel
theorem dL_law_454 : decode cL_law 454 = .ok (.aload_n 0, 1) := by decide +kernel
theorem dL_law_455 : decode cL_law 455 = .ok (.iload_n 3, 1) := by decide +kernel
theorem dL_law_456 : decode cL_law 456 = .ok (.iconst 2, 1) := by decide +kernel
theorem dL_law_457 : decode cL_law 457 = .ok (.iadd, 1) := by decide +kernel
theorem dL_law_458 : decode cL_law 458 = .ok (.iaload, 1) := by decide +kernel
theorem dL_law_459 : decode cL_law 459 = .ok (.invokevirtual 51, 3) := by decide +kernel
theorem dL_law_462 : decode cL_law 462 = .ok (.if_icmp .eq 760, 3) := by decide +kernel
theorem dL_law_465 : decode cL_law 465 = .ok (.iconst 0, 1) := by decide +kernel
theorem dL_law_466 : decode cL_law 466 = .ok (.ireturn, 1) := by decide +kernel
theorem dL_law_467 : decode cL_law 467 = .ok (.aload_n 1, 1) := by decide +kernel
theorem dL_law_468 : decode cL_law 468 = .ok (.aload_n 0, 1) := by decide +kernel
theorem dL_law_469 : decode cL_law 469 = .ok (.iload_n 3, 1) := by decide +kernel
theorem dL_law_470 : decode cL_law 470 = .ok (.iconst 1, 1) := by decide +kernel
theorem dL_law_471 : decode cL_law 471 = .ok (.iadd, 1) := by decide +kernel
theorem dL_law_472 : decode cL_law 472 = .ok (.iaload, 1) := by decide +kernel
theorem dL_law_473 : decode cL_law 473 = .ok (.invokevirtual 52, 3) := by decide +kernel
theorem dL_law_476 : decode cL_law 476 = .ok (.aload_n 2, 1) := by decide +kernel
theorem dL_law_477 : decode cL_law 477 = .ok (.aload_n 0, 1) := by decide +kernel
theorem dL_law_478 : decode cL_law 478 = .ok (.iload_n 3, 1) := by decide +kernel
theorem dL_law_479 : decode cL_law 479 = .ok (.iconst 1, 1) := by decide +kernel
theorem dL_law_480 : decode cL_law 480 = .ok (.iadd, 1) := by decide +kernel
theorem dL_law_481 : decode cL_law 481 = .ok (.iaload, 1) := by decide +kernel
theorem dL_law_482 : decode cL_law 482 = .ok (.invokevirtual 55, 3) := by decide +kernel
theorem dL_law_485 : decode cL_law 485 = .ok (.if_icmp .eq 737, 3) := by decide +kernel
theorem dL_law_488 : decode cL_law 488 = .ok (.iconst 0, 1) := by decide +kernel
theorem dL_law_489 : decode cL_law 489 = .ok (.ireturn, 1) := by decide +kernel
theorem dL_law_490 : decode cL_law 490 = .ok (.aload_n 1, 1) := by decide +kernel
theorem dL_law_491 : decode cL_law 491 = .ok (.aload_n 0, 1) := by decide +kernel
theorem dL_law_492 : decode cL_law 492 = .ok (.iload_n 3, 1) := by decide +kernel
theorem dL_law_493 : decode cL_law 493 = .ok (.iconst 1, 1) := by decide +kernel
theorem dL_law_494 : decode cL_law 494 = .ok (.iadd, 1) := by decide +kernel
theorem dL_law_495 : decode cL_law 495 = .ok (.iaload, 1) := by decide +kernel
theorem dL_law_496 : decode cL_law 496 = .ok (.aload_n 0, 1) := by decide +kernel
theorem dL_law_497 : decode cL_law 497 = .ok (.iload_n 3, 1) := by decide +kernel
theorem dL_law_498 : decode cL_law 498 = .ok (.iconst 2, 1) := by decide +kernel
theorem dL_law_499 : decode cL_law 499 = .ok (.iadd, 1) := by decide +kernel
theorem dL_law_500 : decode cL_law 500 = .ok (.iaload, 1) := by decide +kernel
theorem dL_law_501 : decode cL_law 501 = .ok (.aload_n 0, 1) := by decide +kernel
theorem dL_law_502 : decode cL_law 502 = .ok (.iload_n 3, 1) := by decide +kernel
theorem dL_law_503 : decode cL_law 503 = .ok (.iconst 3, 1) := by decide +kernel
theorem dL_law_504 : decode cL_law 504 = .ok (.iadd, 1) := by decide +kernel
theorem dL_law_505 : decode cL_law 505 = .ok (.iaload, 1) := by decide +kernel
theorem dL_law_506 : decode cL_law 506 = .ok (.aload_n 0, 1) := by decide +kernel
theorem dL_law_507 : decode cL_law 507 = .ok (.iload_n 3, 1) := by decide +kernel
theorem dL_law_508 : decode cL_law 508 = .ok (.iconst 4, 1) := by decide +kernel
theorem dL_law_509 : decode cL_law 509 = .ok (.iadd, 1) := by decide +kernel
theorem dL_law_510 : decode cL_law 510 = .ok (.iaload, 1) := by decide +kernel
theorem dL_law_511 : decode cL_law 511 = .ok (.aload_n 0, 1) := by decide +kernel
theorem dL_law_512 : decode cL_law 512 = .ok (.iload_n 3, 1) := by decide +kernel
theorem dL_law_513 : decode cL_law 513 = .ok (.iconst 5, 1) := by decide +kernel
theorem dL_law_514 : decode cL_law 514 = .ok (.iadd, 1) := by decide +kernel
theorem dL_law_515 : decode cL_law 515 = .ok (.iaload, 1) := by decide +kernel
theorem dL_law_516 : decode cL_law 516 = .ok (.invokevirtual 56, 3) := by decide +kernel
theorem dL_law_519 : decode cL_law 519 = .ok (.aload_n 2, 1) := by decide +kernel
theorem dL_law_520 : decode cL_law 520 = .ok (.aload_n 0, 1) := by decide +kernel
theorem dL_law_521 : decode cL_law 521 = .ok (.iload_n 3, 1) := by decide +kernel
theorem dL_law_522 : decode cL_law 522 = .ok (.iconst 1, 1) := by decide +kernel
theorem dL_law_523 : decode cL_law 523 = .ok (.iadd, 1) := by decide +kernel
theorem dL_law_524 : decode cL_law 524 = .ok (.iaload, 1) := by decide +kernel
theorem dL_law_525 : decode cL_law 525 = .ok (.aload_n 0, 1) := by decide +kernel
theorem dL_law_526 : decode cL_law 526 = .ok (.iload_n 3, 1) := by decide +kernel
theorem dL_law_527 : decode cL_law 527 = .ok (.iconst 2, 1) := by decide +kernel
theorem dL_law_528 : decode cL_law 528 = .ok (.iadd, 1) := by decide +kernel
theorem dL_law_529 : decode cL_law 529 = .ok (.iaload, 1) := by decide +kernel
theorem dL_law_530 : decode cL_law 530 = .ok (.aload_n 0, 1) := by decide +kernel
theorem dL_law_531 : decode cL_law 531 = .ok (.iload_n 3, 1) := by decide +kernel
theorem dL_law_532 : decode cL_law 532 = .ok (.iconst 3, 1) := by decide +kernel
theorem dL_law_533 : decode cL_law 533 = .ok (.iadd, 1) := by decide +kernel
theorem dL_law_534 : decode cL_law 534 = .ok (.iaload, 1) := by decide +kernel
theorem dL_law_535 : decode cL_law 535 = .ok (.aload_n 0, 1) := by decide +kernel
theorem dL_law_536 : decode cL_law 536 = .ok (.iload_n 3, 1) := by decide +kernel
theorem dL_law_537 : decode cL_law 537 = .ok (.iconst 4, 1) := by decide +kernel
theorem dL_law_538 : decode cL_law 538 = .ok (.iadd, 1) := by decide +kernel
theorem dL_law_539 : decode cL_law 539 = .ok (.iaload, 1) := by decide +kernel
theorem dL_law_540 : decode cL_law 540 = .ok (.aload_n 0, 1) := by decide +kernel
theorem dL_law_541 : decode cL_law 541 = .ok (.iload_n 3, 1) := by decide +kernel
theorem dL_law_542 : decode cL_law 542 = .ok (.iconst 5, 1) := by decide +kernel
theorem dL_law_543 : decode cL_law 543 = .ok (.iadd, 1) := by decide +kernel
theorem dL_law_544 : decode cL_law 544 = .ok (.iaload, 1) := by decide +kernel
theorem dL_law_545 : decode cL_law 545 = .ok (.invokevirtual 60, 3) := by decide +kernel
theorem dL_law_548 : decode cL_law 548 = .ok (.if_icmp .eq 674, 3) := by decide +kernel
theorem dL_law_551 : decode cL_law 551 = .ok (.iconst 0, 1) := by decide +kernel
theorem dL_law_552 : decode cL_law 552 = .ok (.ireturn, 1) := by decide +kernel
theorem dL_law_553 : decode cL_law 553 = .ok (.aload_n 1, 1) := by decide +kernel
theorem dL_law_554 : decode cL_law 554 = .ok (.aload_n 0, 1) := by decide +kernel
theorem dL_law_555 : decode cL_law 555 = .ok (.iload_n 3, 1) := by decide +kernel
theorem dL_law_556 : decode cL_law 556 = .ok (.iconst 1, 1) := by decide +kernel
theorem dL_law_557 : decode cL_law 557 = .ok (.iadd, 1) := by decide +kernel
theorem dL_law_558 : decode cL_law 558 = .ok (.iaload, 1) := by decide +kernel
theorem dL_law_559 : decode cL_law 559 = .ok (.aload_n 0, 1) := by decide +kernel
theorem dL_law_560 : decode cL_law 560 = .ok (.iload_n 3, 1) := by decide +kernel
theorem dL_law_561 : decode cL_law 561 = .ok (.iconst 2, 1) := by decide +kernel
theorem dL_law_562 : decode cL_law 562 = .ok (.iadd, 1) := by decide +kernel
theorem dL_law_563 : decode cL_law 563 = .ok (.iaload, 1) := by decide +kernel
theorem dL_law_564 : decode cL_law 564 = .ok (.aload_n 0, 1) := by decide +kernel
theorem dL_law_565 : decode cL_law 565 = .ok (.iload_n 3, 1) := by decide +kernel
theorem dL_law_566 : decode cL_law 566 = .ok (.iconst 3, 1) := by decide +kernel
theorem dL_law_567 : decode cL_law 567 = .ok (.iadd, 1) := by decide +kernel
theorem dL_law_568 : decode cL_law 568 = .ok (.iaload, 1) := by decide +kernel
theorem dL_law_569 : decode cL_law 569 = .ok (.invokevirtual 61, 3) := by decide +kernel
theorem dL_law_572 : decode cL_law 572 = .ok (.aload_n 2, 1) := by decide +kernel
theorem dL_law_573 : decode cL_law 573 = .ok (.aload_n 0, 1) := by decide +kernel
theorem dL_law_574 : decode cL_law 574 = .ok (.iload_n 3, 1) := by decide +kernel
theorem dL_law_575 : decode cL_law 575 = .ok (.iconst 1, 1) := by decide +kernel
theorem dL_law_576 : decode cL_law 576 = .ok (.iadd, 1) := by decide +kernel
theorem dL_law_577 : decode cL_law 577 = .ok (.iaload, 1) := by decide +kernel
theorem dL_law_578 : decode cL_law 578 = .ok (.aload_n 0, 1) := by decide +kernel
theorem dL_law_579 : decode cL_law 579 = .ok (.iload_n 3, 1) := by decide +kernel
theorem dL_law_580 : decode cL_law 580 = .ok (.iconst 2, 1) := by decide +kernel
theorem dL_law_581 : decode cL_law 581 = .ok (.iadd, 1) := by decide +kernel
theorem dL_law_582 : decode cL_law 582 = .ok (.iaload, 1) := by decide +kernel
theorem dL_law_583 : decode cL_law 583 = .ok (.aload_n 0, 1) := by decide +kernel
theorem dL_law_584 : decode cL_law 584 = .ok (.iload_n 3, 1) := by decide +kernel
theorem dL_law_585 : decode cL_law 585 = .ok (.iconst 3, 1) := by decide +kernel
theorem dL_law_586 : decode cL_law 586 = .ok (.iadd, 1) := by decide +kernel
theorem dL_law_587 : decode cL_law 587 = .ok (.iaload, 1) := by decide +kernel
theorem dL_law_588 : decode cL_law 588 = .ok (.invokevirtual 65, 3) := by decide +kernel
theorem dL_law_591 : decode cL_law 591 = .ok (.if_icmp .eq 631, 3) := by decide +kernel
theorem dL_law_594 : decode cL_law 594 = .ok (.iconst 0, 1) := by decide +kernel
theorem dL_law_595 : decode cL_law 595 = .ok (.ireturn, 1) := by decide +kernel
theorem dL_law_596 : decode cL_law 596 = .ok (.aload_n 1, 1) := by decide +kernel
theorem dL_law_597 : decode cL_law 597 = .ok (.aload_n 0, 1) := by decide +kernel
theorem dL_law_598 : decode cL_law 598 = .ok (.iload_n 3, 1) := by decide +kernel
theorem dL_law_599 : decode cL_law 599 = .ok (.iconst 1, 1) := by decide +kernel
theorem dL_law_600 : decode cL_law 600 = .ok (.iadd, 1) := by decide +kernel
theorem dL_law_601 : decode cL_law 601 = .ok (.iaload, 1) := by decide +kernel
theorem dL_law_602 : decode cL_law 602 = .ok (.invokevirtual 66, 3) := by decide +kernel
theorem dL_law_605 : decode cL_law 605 = .ok (.aload_n 2, 1) := by decide +kernel
theorem dL_law_606 : decode cL_law 606 = .ok (.aload_n 0, 1) := by decide +kernel
theorem dL_law_607 : decode cL_law 607 = .ok (.iload_n 3, 1) := by decide +kernel
theorem dL_law_608 : decode cL_law 608 = .ok (.iconst 1, 1) := by decide +kernel
theorem dL_law_609 : decode cL_law 609 = .ok (.iadd, 1) := by decide +kernel
theorem dL_law_610 : decode cL_law 610 = .ok (.iaload, 1) := by decide +kernel
theorem dL_law_611 : decode cL_law 611 = .ok (.invokevirtual 69, 3) := by decide +kernel
theorem dL_law_614 : decode cL_law 614 = .ok (.if_icmp .eq 608, 3) := by decide +kernel
theorem dL_law_617 : decode cL_law 617 = .ok (.iconst 0, 1) := by decide +kernel
theorem dL_law_618 : decode cL_law 618 = .ok (.ireturn, 1) := by decide +kernel
theorem dL_law_619 : decode cL_law 619 = .ok (.aload_n 1, 1) := by decide +kernel
theorem dL_law_620 : decode cL_law 620 = .ok (.aload_n 0, 1) := by decide +kernel
theorem dL_law_621 : decode cL_law 621 = .ok (.iload_n 3, 1) := by decide +kernel
theorem dL_law_622 : decode cL_law 622 = .ok (.iconst 1, 1) := by decide +kernel
theorem dL_law_623 : decode cL_law 623 = .ok (.iadd, 1) := by decide +kernel
theorem dL_law_624 : decode cL_law 624 = .ok (.iaload, 1) := by decide +kernel
theorem dL_law_625 : decode cL_law 625 = .ok (.aload_n 0, 1) := by decide +kernel
theorem dL_law_626 : decode cL_law 626 = .ok (.iload_n 3, 1) := by decide +kernel
theorem dL_law_627 : decode cL_law 627 = .ok (.iconst 2, 1) := by decide +kernel
theorem dL_law_628 : decode cL_law 628 = .ok (.iadd, 1) := by decide +kernel
theorem dL_law_629 : decode cL_law 629 = .ok (.iaload, 1) := by decide +kernel
theorem dL_law_630 : decode cL_law 630 = .ok (.aload_n 0, 1) := by decide +kernel
theorem dL_law_631 : decode cL_law 631 = .ok (.iload_n 3, 1) := by decide +kernel
theorem dL_law_632 : decode cL_law 632 = .ok (.iconst 3, 1) := by decide +kernel
theorem dL_law_633 : decode cL_law 633 = .ok (.iadd, 1) := by decide +kernel
theorem dL_law_634 : decode cL_law 634 = .ok (.iaload, 1) := by decide +kernel
theorem dL_law_635 : decode cL_law 635 = .ok (.invokevirtual 70, 3) := by decide +kernel
theorem dL_law_638 : decode cL_law 638 = .ok (.aload_n 2, 1) := by decide +kernel
theorem dL_law_639 : decode cL_law 639 = .ok (.aload_n 0, 1) := by decide +kernel
theorem dL_law_640 : decode cL_law 640 = .ok (.iload_n 3, 1) := by decide +kernel
theorem dL_law_641 : decode cL_law 641 = .ok (.iconst 1, 1) := by decide +kernel
theorem dL_law_642 : decode cL_law 642 = .ok (.iadd, 1) := by decide +kernel
theorem dL_law_643 : decode cL_law 643 = .ok (.iaload, 1) := by decide +kernel
theorem dL_law_644 : decode cL_law 644 = .ok (.aload_n 0, 1) := by decide +kernel
theorem dL_law_645 : decode cL_law 645 = .ok (.iload_n 3, 1) := by decide +kernel
theorem dL_law_646 : decode cL_law 646 = .ok (.iconst 2, 1) := by decide +kernel
theorem dL_law_647 : decode cL_law 647 = .ok (.iadd, 1) := by decide +kernel
theorem dL_law_648 : decode cL_law 648 = .ok (.iaload, 1) := by decide +kernel
theorem dL_law_649 : decode cL_law 649 = .ok (.aload_n 0, 1) := by decide +kernel
theorem dL_law_650 : decode cL_law 650 = .ok (.iload_n 3, 1) := by decide +kernel
theorem dL_law_651 : decode cL_law 651 = .ok (.iconst 3, 1) := by decide +kernel
theorem dL_law_652 : decode cL_law 652 = .ok (.iadd, 1) := by decide +kernel
theorem dL_law_653 : decode cL_law 653 = .ok (.iaload, 1) := by decide +kernel
theorem dL_law_654 : decode cL_law 654 = .ok (.invokevirtual 73, 3) := by decide +kernel
theorem dL_law_657 : decode cL_law 657 = .ok (.if_icmp .eq 565, 3) := by decide +kernel
theorem dL_law_660 : decode cL_law 660 = .ok (.iconst 0, 1) := by decide +kernel
theorem dL_law_661 : decode cL_law 661 = .ok (.ireturn, 1) := by decide +kernel
theorem dL_law_662 : decode cL_law 662 = .ok (.aload_n 1, 1) := by decide +kernel
theorem dL_law_663 : decode cL_law 663 = .ok (.aload_n 0, 1) := by decide +kernel
theorem dL_law_664 : decode cL_law 664 = .ok (.iload_n 3, 1) := by decide +kernel
theorem dL_law_665 : decode cL_law 665 = .ok (.iconst 1, 1) := by decide +kernel
theorem dL_law_666 : decode cL_law 666 = .ok (.iadd, 1) := by decide +kernel
theorem dL_law_667 : decode cL_law 667 = .ok (.iaload, 1) := by decide +kernel
theorem dL_law_668 : decode cL_law 668 = .ok (.invokevirtual 74, 3) := by decide +kernel
theorem dL_law_671 : decode cL_law 671 = .ok (.aload_n 2, 1) := by decide +kernel
theorem dL_law_672 : decode cL_law 672 = .ok (.aload_n 0, 1) := by decide +kernel
theorem dL_law_673 : decode cL_law 673 = .ok (.iload_n 3, 1) := by decide +kernel
theorem dL_law_674 : decode cL_law 674 = .ok (.iconst 1, 1) := by decide +kernel
theorem dL_law_675 : decode cL_law 675 = .ok (.iadd, 1) := by decide +kernel
theorem dL_law_676 : decode cL_law 676 = .ok (.iaload, 1) := by decide +kernel
theorem dL_law_677 : decode cL_law 677 = .ok (.invokevirtual 77, 3) := by decide +kernel
theorem dL_law_680 : decode cL_law 680 = .ok (.if_icmp .eq 542, 3) := by decide +kernel
theorem dL_law_683 : decode cL_law 683 = .ok (.iconst 0, 1) := by decide +kernel
theorem dL_law_684 : decode cL_law 684 = .ok (.ireturn, 1) := by decide +kernel
theorem dL_law_685 : decode cL_law 685 = .ok (.aload_n 1, 1) := by decide +kernel
theorem dL_law_686 : decode cL_law 686 = .ok (.aload_n 0, 1) := by decide +kernel
theorem dL_law_687 : decode cL_law 687 = .ok (.iload_n 3, 1) := by decide +kernel
theorem dL_law_688 : decode cL_law 688 = .ok (.iconst 1, 1) := by decide +kernel
theorem dL_law_689 : decode cL_law 689 = .ok (.iadd, 1) := by decide +kernel
theorem dL_law_690 : decode cL_law 690 = .ok (.iaload, 1) := by decide +kernel
theorem dL_law_691 : decode cL_law 691 = .ok (.invokevirtual 78, 3) := by decide +kernel
theorem dL_law_694 : decode cL_law 694 = .ok (.aload_n 2, 1) := by decide +kernel
theorem dL_law_695 : decode cL_law 695 = .ok (.aload_n 0, 1) := by decide +kernel
theorem dL_law_696 : decode cL_law 696 = .ok (.iload_n 3, 1) := by decide +kernel
theorem dL_law_697 : decode cL_law 697 = .ok (.iconst 1, 1) := by decide +kernel
theorem dL_law_698 : decode cL_law 698 = .ok (.iadd, 1) := by decide +kernel
theorem dL_law_699 : decode cL_law 699 = .ok (.iaload, 1) := by decide +kernel
theorem dL_law_700 : decode cL_law 700 = .ok (.invokevirtual 82, 3) := by decide +kernel
theorem dL_law_703 : decode cL_law 703 = .ok (.lcmp, 1) := by decide +kernel
theorem dL_law_704 : decode cL_law 704 = .ok (.ifCond .eq 518, 3) := by decide +kernel
theorem dL_law_707 : decode cL_law 707 = .ok (.iconst 0, 1) := by decide +kernel
theorem dL_law_708 : decode cL_law 708 = .ok (.ireturn, 1) := by decide +kernel
theorem dL_law_709 : decode cL_law 709 = .ok (.aload_n 1, 1) := by decide +kernel
theorem dL_law_710 : decode cL_law 710 = .ok (.aload_n 0, 1) := by decide +kernel
theorem dL_law_711 : decode cL_law 711 = .ok (.iload_n 3, 1) := by decide +kernel
theorem dL_law_712 : decode cL_law 712 = .ok (.iconst 1, 1) := by decide +kernel
theorem dL_law_713 : decode cL_law 713 = .ok (.iadd, 1) := by decide +kernel
theorem dL_law_714 : decode cL_law 714 = .ok (.iaload, 1) := by decide +kernel
theorem dL_law_715 : decode cL_law 715 = .ok (.aload_n 0, 1) := by decide +kernel
theorem dL_law_716 : decode cL_law 716 = .ok (.iload_n 3, 1) := by decide +kernel
theorem dL_law_717 : decode cL_law 717 = .ok (.iconst 2, 1) := by decide +kernel
theorem dL_law_718 : decode cL_law 718 = .ok (.iadd, 1) := by decide +kernel
theorem dL_law_719 : decode cL_law 719 = .ok (.iaload, 1) := by decide +kernel
theorem dL_law_720 : decode cL_law 720 = .ok (.invokevirtual 83, 3) := by decide +kernel
theorem dL_law_723 : decode cL_law 723 = .ok (.aload_n 2, 1) := by decide +kernel
theorem dL_law_724 : decode cL_law 724 = .ok (.aload_n 0, 1) := by decide +kernel
theorem dL_law_725 : decode cL_law 725 = .ok (.iload_n 3, 1) := by decide +kernel
theorem dL_law_726 : decode cL_law 726 = .ok (.iconst 1, 1) := by decide +kernel
theorem dL_law_727 : decode cL_law 727 = .ok (.iadd, 1) := by decide +kernel
theorem dL_law_728 : decode cL_law 728 = .ok (.iaload, 1) := by decide +kernel
theorem dL_law_729 : decode cL_law 729 = .ok (.aload_n 0, 1) := by decide +kernel
theorem dL_law_730 : decode cL_law 730 = .ok (.iload_n 3, 1) := by decide +kernel
theorem dL_law_731 : decode cL_law 731 = .ok (.iconst 2, 1) := by decide +kernel
theorem dL_law_732 : decode cL_law 732 = .ok (.iadd, 1) := by decide +kernel
theorem dL_law_733 : decode cL_law 733 = .ok (.iaload, 1) := by decide +kernel
theorem dL_law_734 : decode cL_law 734 = .ok (.invokevirtual 86, 3) := by decide +kernel
theorem dL_law_737 : decode cL_law 737 = .ok (.if_icmp .eq 485, 3) := by decide +kernel
theorem dL_law_740 : decode cL_law 740 = .ok (.iconst 0, 1) := by decide +kernel
theorem dL_law_741 : decode cL_law 741 = .ok (.ireturn, 1) := by decide +kernel
theorem dL_law_742 : decode cL_law 742 = .ok (.aload_n 1, 1) := by decide +kernel
theorem dL_law_743 : decode cL_law 743 = .ok (.aload_n 0, 1) := by decide +kernel
theorem dL_law_744 : decode cL_law 744 = .ok (.iload_n 3, 1) := by decide +kernel
theorem dL_law_745 : decode cL_law 745 = .ok (.iconst 1, 1) := by decide +kernel
theorem dL_law_746 : decode cL_law 746 = .ok (.iadd, 1) := by decide +kernel
theorem dL_law_747 : decode cL_law 747 = .ok (.iaload, 1) := by decide +kernel
theorem dL_law_748 : decode cL_law 748 = .ok (.invokevirtual 87, 3) := by decide +kernel
theorem dL_law_751 : decode cL_law 751 = .ok (.aload_n 2, 1) := by decide +kernel
theorem dL_law_752 : decode cL_law 752 = .ok (.aload_n 0, 1) := by decide +kernel
theorem dL_law_753 : decode cL_law 753 = .ok (.iload_n 3, 1) := by decide +kernel
theorem dL_law_754 : decode cL_law 754 = .ok (.iconst 1, 1) := by decide +kernel
theorem dL_law_755 : decode cL_law 755 = .ok (.iadd, 1) := by decide +kernel
theorem dL_law_756 : decode cL_law 756 = .ok (.iaload, 1) := by decide +kernel
theorem dL_law_757 : decode cL_law 757 = .ok (.invokevirtual 90, 3) := by decide +kernel
theorem dL_law_760 : decode cL_law 760 = .ok (.if_icmp .eq 462, 3) := by decide +kernel
theorem dL_law_763 : decode cL_law 763 = .ok (.iconst 0, 1) := by decide +kernel
theorem dL_law_764 : decode cL_law 764 = .ok (.ireturn, 1) := by decide +kernel
theorem dL_law_765 : decode cL_law 765 = .ok (.aload_n 1, 1) := by decide +kernel
theorem dL_law_766 : decode cL_law 766 = .ok (.aload_n 0, 1) := by decide +kernel
theorem dL_law_767 : decode cL_law 767 = .ok (.iload_n 3, 1) := by decide +kernel
theorem dL_law_768 : decode cL_law 768 = .ok (.iconst 1, 1) := by decide +kernel
theorem dL_law_769 : decode cL_law 769 = .ok (.iadd, 1) := by decide +kernel
theorem dL_law_770 : decode cL_law 770 = .ok (.iaload, 1) := by decide +kernel
theorem dL_law_771 : decode cL_law 771 = .ok (.invokevirtual 91, 3) := by decide +kernel
theorem dL_law_774 : decode cL_law 774 = .ok (.aload_n 2, 1) := by decide +kernel
theorem dL_law_775 : decode cL_law 775 = .ok (.aload_n 0, 1) := by decide +kernel
theorem dL_law_776 : decode cL_law 776 = .ok (.iload_n 3, 1) := by decide +kernel
theorem dL_law_777 : decode cL_law 777 = .ok (.iconst 1, 1) := by decide +kernel
theorem dL_law_778 : decode cL_law 778 = .ok (.iadd, 1) := by decide +kernel
theorem dL_law_779 : decode cL_law 779 = .ok (.iaload, 1) := by decide +kernel
theorem dL_law_780 : decode cL_law 780 = .ok (.invokevirtual 94, 3) := by decide +kernel
theorem dL_law_783 : decode cL_law 783 = .ok (.if_icmp .eq 439, 3) := by decide +kernel
theorem dL_law_786 : decode cL_law 786 = .ok (.iconst 0, 1) := by decide +kernel
theorem dL_law_787 : decode cL_law 787 = .ok (.ireturn, 1) := by decide +kernel
theorem dL_law_788 : decode cL_law 788 = .ok (.aload_n 1, 1) := by decide +kernel
theorem dL_law_789 : decode cL_law 789 = .ok (.aload_n 0, 1) := by decide +kernel
theorem dL_law_790 : decode cL_law 790 = .ok (.iload_n 3, 1) := by decide +kernel
theorem dL_law_791 : decode cL_law 791 = .ok (.iconst 1, 1) := by decide +kernel
theorem dL_law_792 : decode cL_law 792 = .ok (.iadd, 1) := by decide +kernel
theorem dL_law_793 : decode cL_law 793 = .ok (.iaload, 1) := by decide +kernel
theorem dL_law_794 : decode cL_law 794 = .ok (.invokevirtual 95, 3) := by decide +kernel
theorem dL_law_797 : decode cL_law 797 = .ok (.aload_n 2, 1) := by decide +kernel
theorem dL_law_798 : decode cL_law 798 = .ok (.aload_n 0, 1) := by decide +kernel
theorem dL_law_799 : decode cL_law 799 = .ok (.iload_n 3, 1) := by decide +kernel
theorem dL_law_800 : decode cL_law 800 = .ok (.iconst 1, 1) := by decide +kernel
theorem dL_law_801 : decode cL_law 801 = .ok (.iadd, 1) := by decide +kernel
theorem dL_law_802 : decode cL_law 802 = .ok (.iaload, 1) := by decide +kernel
theorem dL_law_803 : decode cL_law 803 = .ok (.invokevirtual 98, 3) := by decide +kernel
theorem dL_law_806 : decode cL_law 806 = .ok (.if_icmp .eq 416, 3) := by decide +kernel
theorem dL_law_809 : decode cL_law 809 = .ok (.iconst 0, 1) := by decide +kernel
theorem dL_law_810 : decode cL_law 810 = .ok (.ireturn, 1) := by decide +kernel
theorem dL_law_811 : decode cL_law 811 = .ok (.aload_n 1, 1) := by decide +kernel
theorem dL_law_812 : decode cL_law 812 = .ok (.invokevirtual 99, 3) := by decide +kernel
theorem dL_law_815 : decode cL_law 815 = .ok (.aload_n 2, 1) := by decide +kernel
theorem dL_law_816 : decode cL_law 816 = .ok (.invokevirtual 103, 3) := by decide +kernel
theorem dL_law_819 : decode cL_law 819 = .ok (.if_icmp .eq 403, 3) := by decide +kernel
theorem dL_law_822 : decode cL_law 822 = .ok (.iconst 0, 1) := by decide +kernel
theorem dL_law_823 : decode cL_law 823 = .ok (.ireturn, 1) := by decide +kernel
theorem dL_law_824 : decode cL_law 824 = .ok (.aload_n 1, 1) := by decide +kernel
theorem dL_law_825 : decode cL_law 825 = .ok (.aload_n 0, 1) := by decide +kernel
theorem dL_law_826 : decode cL_law 826 = .ok (.iload_n 3, 1) := by decide +kernel
theorem dL_law_827 : decode cL_law 827 = .ok (.iconst 1, 1) := by decide +kernel
theorem dL_law_828 : decode cL_law 828 = .ok (.iadd, 1) := by decide +kernel
theorem dL_law_829 : decode cL_law 829 = .ok (.iaload, 1) := by decide +kernel
theorem dL_law_830 : decode cL_law 830 = .ok (.aload_n 0, 1) := by decide +kernel
theorem dL_law_831 : decode cL_law 831 = .ok (.iload_n 3, 1) := by decide +kernel
theorem dL_law_832 : decode cL_law 832 = .ok (.iconst 2, 1) := by decide +kernel
theorem dL_law_833 : decode cL_law 833 = .ok (.iadd, 1) := by decide +kernel
theorem dL_law_834 : decode cL_law 834 = .ok (.iaload, 1) := by decide +kernel
theorem dL_law_835 : decode cL_law 835 = .ok (.aload_n 0, 1) := by decide +kernel
theorem dL_law_836 : decode cL_law 836 = .ok (.iload_n 3, 1) := by decide +kernel
theorem dL_law_837 : decode cL_law 837 = .ok (.iconst 3, 1) := by decide +kernel
theorem dL_law_838 : decode cL_law 838 = .ok (.iadd, 1) := by decide +kernel
theorem dL_law_839 : decode cL_law 839 = .ok (.iaload, 1) := by decide +kernel
theorem dL_law_840 : decode cL_law 840 = .ok (.aload_n 0, 1) := by decide +kernel
theorem dL_law_841 : decode cL_law 841 = .ok (.iload_n 3, 1) := by decide +kernel
theorem dL_law_842 : decode cL_law 842 = .ok (.iconst 4, 1) := by decide +kernel
theorem dL_law_843 : decode cL_law 843 = .ok (.iadd, 1) := by decide +kernel
theorem dL_law_844 : decode cL_law 844 = .ok (.iaload, 1) := by decide +kernel
theorem dL_law_845 : decode cL_law 845 = .ok (.invokevirtual 104, 3) := by decide +kernel
theorem dL_law_848 : decode cL_law 848 = .ok (.aload_n 2, 1) := by decide +kernel
theorem dL_law_849 : decode cL_law 849 = .ok (.aload_n 0, 1) := by decide +kernel
theorem dL_law_850 : decode cL_law 850 = .ok (.iload_n 3, 1) := by decide +kernel
theorem dL_law_851 : decode cL_law 851 = .ok (.iconst 1, 1) := by decide +kernel
theorem dL_law_852 : decode cL_law 852 = .ok (.iadd, 1) := by decide +kernel
theorem dL_law_853 : decode cL_law 853 = .ok (.iaload, 1) := by decide +kernel
theorem dL_law_854 : decode cL_law 854 = .ok (.aload_n 0, 1) := by decide +kernel
theorem dL_law_855 : decode cL_law 855 = .ok (.iload_n 3, 1) := by decide +kernel
theorem dL_law_856 : decode cL_law 856 = .ok (.iconst 2, 1) := by decide +kernel
theorem dL_law_857 : decode cL_law 857 = .ok (.iadd, 1) := by decide +kernel
theorem dL_law_858 : decode cL_law 858 = .ok (.iaload, 1) := by decide +kernel
theorem dL_law_859 : decode cL_law 859 = .ok (.aload_n 0, 1) := by decide +kernel
theorem dL_law_860 : decode cL_law 860 = .ok (.iload_n 3, 1) := by decide +kernel
theorem dL_law_861 : decode cL_law 861 = .ok (.iconst 3, 1) := by decide +kernel
theorem dL_law_862 : decode cL_law 862 = .ok (.iadd, 1) := by decide +kernel
theorem dL_law_863 : decode cL_law 863 = .ok (.iaload, 1) := by decide +kernel
theorem dL_law_864 : decode cL_law 864 = .ok (.aload_n 0, 1) := by decide +kernel
theorem dL_law_865 : decode cL_law 865 = .ok (.iload_n 3, 1) := by decide +kernel
theorem dL_law_866 : decode cL_law 866 = .ok (.iconst 4, 1) := by decide +kernel
theorem dL_law_867 : decode cL_law 867 = .ok (.iadd, 1) := by decide +kernel
theorem dL_law_868 : decode cL_law 868 = .ok (.iaload, 1) := by decide +kernel
theorem dL_law_869 : decode cL_law 869 = .ok (.invokevirtual 108, 3) := by decide +kernel
theorem dL_law_872 : decode cL_law 872 = .ok (.lcmp, 1) := by decide +kernel
theorem dL_law_873 : decode cL_law 873 = .ok (.ifCond .eq 349, 3) := by decide +kernel
theorem dL_law_876 : decode cL_law 876 = .ok (.iconst 0, 1) := by decide +kernel
theorem dL_law_877 : decode cL_law 877 = .ok (.ireturn, 1) := by decide +kernel
theorem dL_law_878 : decode cL_law 878 = .ok (.aload_n 1, 1) := by decide +kernel
theorem dL_law_879 : decode cL_law 879 = .ok (.aload_n 0, 1) := by decide +kernel
theorem dL_law_880 : decode cL_law 880 = .ok (.iload_n 3, 1) := by decide +kernel
theorem dL_law_881 : decode cL_law 881 = .ok (.iconst 1, 1) := by decide +kernel
theorem dL_law_882 : decode cL_law 882 = .ok (.iadd, 1) := by decide +kernel
theorem dL_law_883 : decode cL_law 883 = .ok (.iaload, 1) := by decide +kernel
theorem dL_law_884 : decode cL_law 884 = .ok (.aload_n 0, 1) := by decide +kernel
theorem dL_law_885 : decode cL_law 885 = .ok (.iload_n 3, 1) := by decide +kernel
theorem dL_law_886 : decode cL_law 886 = .ok (.iconst 2, 1) := by decide +kernel
theorem dL_law_887 : decode cL_law 887 = .ok (.iadd, 1) := by decide +kernel
theorem dL_law_888 : decode cL_law 888 = .ok (.iaload, 1) := by decide +kernel
theorem dL_law_889 : decode cL_law 889 = .ok (.aload_n 0, 1) := by decide +kernel
theorem dL_law_890 : decode cL_law 890 = .ok (.iload_n 3, 1) := by decide +kernel
theorem dL_law_891 : decode cL_law 891 = .ok (.iconst 3, 1) := by decide +kernel
theorem dL_law_892 : decode cL_law 892 = .ok (.iadd, 1) := by decide +kernel
theorem dL_law_893 : decode cL_law 893 = .ok (.iaload, 1) := by decide +kernel
theorem dL_law_894 : decode cL_law 894 = .ok (.invokevirtual 109, 3) := by decide +kernel
theorem dL_law_897 : decode cL_law 897 = .ok (.aload_n 2, 1) := by decide +kernel
theorem dL_law_898 : decode cL_law 898 = .ok (.aload_n 0, 1) := by decide +kernel
theorem dL_law_899 : decode cL_law 899 = .ok (.iload_n 3, 1) := by decide +kernel
theorem dL_law_900 : decode cL_law 900 = .ok (.iconst 1, 1) := by decide +kernel
theorem dL_law_901 : decode cL_law 901 = .ok (.iadd, 1) := by decide +kernel
theorem dL_law_902 : decode cL_law 902 = .ok (.iaload, 1) := by decide +kernel
theorem dL_law_903 : decode cL_law 903 = .ok (.aload_n 0, 1) := by decide +kernel
theorem dL_law_904 : decode cL_law 904 = .ok (.iload_n 3, 1) := by decide +kernel
theorem dL_law_905 : decode cL_law 905 = .ok (.iconst 2, 1) := by decide +kernel
theorem dL_law_906 : decode cL_law 906 = .ok (.iadd, 1) := by decide +kernel
theorem dL_law_907 : decode cL_law 907 = .ok (.iaload, 1) := by decide +kernel
theorem dL_law_908 : decode cL_law 908 = .ok (.aload_n 0, 1) := by decide +kernel
theorem dL_law_909 : decode cL_law 909 = .ok (.iload_n 3, 1) := by decide +kernel
theorem dL_law_910 : decode cL_law 910 = .ok (.iconst 3, 1) := by decide +kernel
theorem dL_law_911 : decode cL_law 911 = .ok (.iadd, 1) := by decide +kernel
theorem dL_law_912 : decode cL_law 912 = .ok (.iaload, 1) := by decide +kernel
theorem dL_law_913 : decode cL_law 913 = .ok (.invokevirtual 112, 3) := by decide +kernel
theorem dL_law_916 : decode cL_law 916 = .ok (.if_icmp .eq 306, 3) := by decide +kernel
theorem dL_law_919 : decode cL_law 919 = .ok (.iconst 0, 1) := by decide +kernel
theorem dL_law_920 : decode cL_law 920 = .ok (.ireturn, 1) := by decide +kernel
theorem dL_law_921 : decode cL_law 921 = .ok (.aload_n 1, 1) := by decide +kernel
theorem dL_law_922 : decode cL_law 922 = .ok (.aload_n 0, 1) := by decide +kernel
theorem dL_law_923 : decode cL_law 923 = .ok (.iload_n 3, 1) := by decide +kernel
theorem dL_law_924 : decode cL_law 924 = .ok (.iconst 1, 1) := by decide +kernel
theorem dL_law_925 : decode cL_law 925 = .ok (.iadd, 1) := by decide +kernel
theorem dL_law_926 : decode cL_law 926 = .ok (.iaload, 1) := by decide +kernel
theorem dL_law_927 : decode cL_law 927 = .ok (.invokevirtual 113, 3) := by decide +kernel
theorem dL_law_930 : decode cL_law 930 = .ok (.aload_n 2, 1) := by decide +kernel
theorem dL_law_931 : decode cL_law 931 = .ok (.aload_n 0, 1) := by decide +kernel
theorem dL_law_932 : decode cL_law 932 = .ok (.iload_n 3, 1) := by decide +kernel
theorem dL_law_933 : decode cL_law 933 = .ok (.iconst 1, 1) := by decide +kernel
theorem dL_law_934 : decode cL_law 934 = .ok (.iadd, 1) := by decide +kernel
theorem dL_law_935 : decode cL_law 935 = .ok (.iaload, 1) := by decide +kernel
theorem dL_law_936 : decode cL_law 936 = .ok (.invokevirtual 116, 3) := by decide +kernel
theorem dL_law_939 : decode cL_law 939 = .ok (.if_icmp .eq 283, 3) := by decide +kernel
theorem dL_law_942 : decode cL_law 942 = .ok (.iconst 0, 1) := by decide +kernel
theorem dL_law_943 : decode cL_law 943 = .ok (.ireturn, 1) := by decide +kernel
theorem dL_law_944 : decode cL_law 944 = .ok (.aload_n 1, 1) := by decide +kernel
theorem dL_law_945 : decode cL_law 945 = .ok (.aload_n 0, 1) := by decide +kernel
theorem dL_law_946 : decode cL_law 946 = .ok (.iload_n 3, 1) := by decide +kernel
theorem dL_law_947 : decode cL_law 947 = .ok (.iconst 1, 1) := by decide +kernel
theorem dL_law_948 : decode cL_law 948 = .ok (.iadd, 1) := by decide +kernel
theorem dL_law_949 : decode cL_law 949 = .ok (.iaload, 1) := by decide +kernel
theorem dL_law_950 : decode cL_law 950 = .ok (.aload_n 0, 1) := by decide +kernel
theorem dL_law_951 : decode cL_law 951 = .ok (.iload_n 3, 1) := by decide +kernel
theorem dL_law_952 : decode cL_law 952 = .ok (.iconst 2, 1) := by decide +kernel
theorem dL_law_953 : decode cL_law 953 = .ok (.iadd, 1) := by decide +kernel
theorem dL_law_954 : decode cL_law 954 = .ok (.iaload, 1) := by decide +kernel
theorem dL_law_955 : decode cL_law 955 = .ok (.aload_n 0, 1) := by decide +kernel
theorem dL_law_956 : decode cL_law 956 = .ok (.iload_n 3, 1) := by decide +kernel
theorem dL_law_957 : decode cL_law 957 = .ok (.iconst 3, 1) := by decide +kernel
theorem dL_law_958 : decode cL_law 958 = .ok (.iadd, 1) := by decide +kernel
theorem dL_law_959 : decode cL_law 959 = .ok (.iaload, 1) := by decide +kernel
theorem dL_law_960 : decode cL_law 960 = .ok (.invokevirtual 117, 3) := by decide +kernel
theorem dL_law_963 : decode cL_law 963 = .ok (.aload_n 2, 1) := by decide +kernel
theorem dL_law_964 : decode cL_law 964 = .ok (.aload_n 0, 1) := by decide +kernel
theorem dL_law_965 : decode cL_law 965 = .ok (.iload_n 3, 1) := by decide +kernel
theorem dL_law_966 : decode cL_law 966 = .ok (.iconst 1, 1) := by decide +kernel
theorem dL_law_967 : decode cL_law 967 = .ok (.iadd, 1) := by decide +kernel
theorem dL_law_968 : decode cL_law 968 = .ok (.iaload, 1) := by decide +kernel
theorem dL_law_969 : decode cL_law 969 = .ok (.aload_n 0, 1) := by decide +kernel
theorem dL_law_970 : decode cL_law 970 = .ok (.iload_n 3, 1) := by decide +kernel
theorem dL_law_971 : decode cL_law 971 = .ok (.iconst 2, 1) := by decide +kernel
theorem dL_law_972 : decode cL_law 972 = .ok (.iadd, 1) := by decide +kernel
theorem dL_law_973 : decode cL_law 973 = .ok (.iaload, 1) := by decide +kernel
theorem dL_law_974 : decode cL_law 974 = .ok (.aload_n 0, 1) := by decide +kernel
theorem dL_law_975 : decode cL_law 975 = .ok (.iload_n 3, 1) := by decide +kernel
theorem dL_law_976 : decode cL_law 976 = .ok (.iconst 3, 1) := by decide +kernel
theorem dL_law_977 : decode cL_law 977 = .ok (.iadd, 1) := by decide +kernel
theorem dL_law_978 : decode cL_law 978 = .ok (.iaload, 1) := by decide +kernel
theorem dL_law_979 : decode cL_law 979 = .ok (.invokevirtual 120, 3) := by decide +kernel
theorem dL_law_982 : decode cL_law 982 = .ok (.if_icmp .eq 240, 3) := by decide +kernel
theorem dL_law_985 : decode cL_law 985 = .ok (.iconst 0, 1) := by decide +kernel
theorem dL_law_986 : decode cL_law 986 = .ok (.ireturn, 1) := by decide +kernel
theorem dL_law_987 : decode cL_law 987 = .ok (.aload_n 1, 1) := by decide +kernel
theorem dL_law_988 : decode cL_law 988 = .ok (.aload_n 0, 1) := by decide +kernel
theorem dL_law_989 : decode cL_law 989 = .ok (.iload_n 3, 1) := by decide +kernel
theorem dL_law_990 : decode cL_law 990 = .ok (.iconst 1, 1) := by decide +kernel
theorem dL_law_991 : decode cL_law 991 = .ok (.iadd, 1) := by decide +kernel
theorem dL_law_992 : decode cL_law 992 = .ok (.iaload, 1) := by decide +kernel
theorem dL_law_993 : decode cL_law 993 = .ok (.aload_n 0, 1) := by decide +kernel
theorem dL_law_994 : decode cL_law 994 = .ok (.iload_n 3, 1) := by decide +kernel
theorem dL_law_995 : decode cL_law 995 = .ok (.iconst 2, 1) := by decide +kernel
theorem dL_law_996 : decode cL_law 996 = .ok (.iadd, 1) := by decide +kernel
theorem dL_law_997 : decode cL_law 997 = .ok (.iaload, 1) := by decide +kernel
theorem dL_law_998 : decode cL_law 998 = .ok (.aload_n 0, 1) := by decide +kernel
theorem dL_law_999 : decode cL_law 999 = .ok (.iload_n 3, 1) := by decide +kernel
theorem dL_law_1000 : decode cL_law 1000 = .ok (.iconst 3, 1) := by decide +kernel
theorem dL_law_1001 : decode cL_law 1001 = .ok (.iadd, 1) := by decide +kernel
theorem dL_law_1002 : decode cL_law 1002 = .ok (.iaload, 1) := by decide +kernel
theorem dL_law_1003 : decode cL_law 1003 = .ok (.invokevirtual 121, 3) := by decide +kernel
theorem dL_law_1006 : decode cL_law 1006 = .ok (.aload_n 2, 1) := by decide +kernel
theorem dL_law_1007 : decode cL_law 1007 = .ok (.aload_n 0, 1) := by decide +kernel
theorem dL_law_1008 : decode cL_law 1008 = .ok (.iload_n 3, 1) := by decide +kernel
theorem dL_law_1009 : decode cL_law 1009 = .ok (.iconst 1, 1) := by decide +kernel
theorem dL_law_1010 : decode cL_law 1010 = .ok (.iadd, 1) := by decide +kernel
theorem dL_law_1011 : decode cL_law 1011 = .ok (.iaload, 1) := by decide +kernel
theorem dL_law_1012 : decode cL_law 1012 = .ok (.aload_n 0, 1) := by decide +kernel
theorem dL_law_1013 : decode cL_law 1013 = .ok (.iload_n 3, 1) := by decide +kernel
theorem dL_law_1014 : decode cL_law 1014 = .ok (.iconst 2, 1) := by decide +kernel
theorem dL_law_1015 : decode cL_law 1015 = .ok (.iadd, 1) := by decide +kernel
theorem dL_law_1016 : decode cL_law 1016 = .ok (.iaload, 1) := by decide +kernel
theorem dL_law_1017 : decode cL_law 1017 = .ok (.aload_n 0, 1) := by decide +kernel
theorem dL_law_1018 : decode cL_law 1018 = .ok (.iload_n 3, 1) := by decide +kernel
theorem dL_law_1019 : decode cL_law 1019 = .ok (.iconst 3, 1) := by decide +kernel
theorem dL_law_1020 : decode cL_law 1020 = .ok (.iadd, 1) := by decide +kernel
theorem dL_law_1021 : decode cL_law 1021 = .ok (.iaload, 1) := by decide +kernel
theorem dL_law_1022 : decode cL_law 1022 = .ok (.invokevirtual 125, 3) := by decide +kernel
theorem dL_law_1025 : decode cL_law 1025 = .ok (.lcmp, 1) := by decide +kernel
theorem dL_law_1026 : decode cL_law 1026 = .ok (.ifCond .eq 196, 3) := by decide +kernel
theorem dL_law_1029 : decode cL_law 1029 = .ok (.iconst 0, 1) := by decide +kernel
theorem dL_law_1030 : decode cL_law 1030 = .ok (.ireturn, 1) := by decide +kernel
theorem dL_law_1031 : decode cL_law 1031 = .ok (.aload_n 1, 1) := by decide +kernel
theorem dL_law_1032 : decode cL_law 1032 = .ok (.aload_n 0, 1) := by decide +kernel
theorem dL_law_1033 : decode cL_law 1033 = .ok (.iload_n 3, 1) := by decide +kernel
theorem dL_law_1034 : decode cL_law 1034 = .ok (.iconst 1, 1) := by decide +kernel
theorem dL_law_1035 : decode cL_law 1035 = .ok (.iadd, 1) := by decide +kernel
theorem dL_law_1036 : decode cL_law 1036 = .ok (.iaload, 1) := by decide +kernel
theorem dL_law_1037 : decode cL_law 1037 = .ok (.aload_n 0, 1) := by decide +kernel
theorem dL_law_1038 : decode cL_law 1038 = .ok (.iload_n 3, 1) := by decide +kernel
theorem dL_law_1039 : decode cL_law 1039 = .ok (.iconst 2, 1) := by decide +kernel
theorem dL_law_1040 : decode cL_law 1040 = .ok (.iadd, 1) := by decide +kernel
theorem dL_law_1041 : decode cL_law 1041 = .ok (.iaload, 1) := by decide +kernel
theorem dL_law_1042 : decode cL_law 1042 = .ok (.aload_n 0, 1) := by decide +kernel
theorem dL_law_1043 : decode cL_law 1043 = .ok (.iload_n 3, 1) := by decide +kernel
theorem dL_law_1044 : decode cL_law 1044 = .ok (.iconst 3, 1) := by decide +kernel
theorem dL_law_1045 : decode cL_law 1045 = .ok (.iadd, 1) := by decide +kernel
theorem dL_law_1046 : decode cL_law 1046 = .ok (.iaload, 1) := by decide +kernel
theorem dL_law_1047 : decode cL_law 1047 = .ok (.aload_n 0, 1) := by decide +kernel
theorem dL_law_1048 : decode cL_law 1048 = .ok (.iload_n 3, 1) := by decide +kernel
theorem dL_law_1049 : decode cL_law 1049 = .ok (.iconst 4, 1) := by decide +kernel
theorem dL_law_1050 : decode cL_law 1050 = .ok (.iadd, 1) := by decide +kernel
theorem dL_law_1051 : decode cL_law 1051 = .ok (.iaload, 1) := by decide +kernel
theorem dL_law_1052 : decode cL_law 1052 = .ok (.aload_n 0, 1) := by decide +kernel
theorem dL_law_1053 : decode cL_law 1053 = .ok (.iload_n 3, 1) := by decide +kernel
theorem dL_law_1054 : decode cL_law 1054 = .ok (.iconst 5, 1) := by decide +kernel
theorem dL_law_1055 : decode cL_law 1055 = .ok (.iadd, 1) := by decide +kernel
theorem dL_law_1056 : decode cL_law 1056 = .ok (.iaload, 1) := by decide +kernel
theorem dL_law_1057 : decode cL_law 1057 = .ok (.invokevirtual 126, 3) := by decide +kernel
theorem dL_law_1060 : decode cL_law 1060 = .ok (.aload_n 2, 1) := by decide +kernel
theorem dL_law_1061 : decode cL_law 1061 = .ok (.aload_n 0, 1) := by decide +kernel
theorem dL_law_1062 : decode cL_law 1062 = .ok (.iload_n 3, 1) := by decide +kernel
theorem dL_law_1063 : decode cL_law 1063 = .ok (.iconst 1, 1) := by decide +kernel
theorem dL_law_1064 : decode cL_law 1064 = .ok (.iadd, 1) := by decide +kernel
theorem dL_law_1065 : decode cL_law 1065 = .ok (.iaload, 1) := by decide +kernel
theorem dL_law_1066 : decode cL_law 1066 = .ok (.aload_n 0, 1) := by decide +kernel
theorem dL_law_1067 : decode cL_law 1067 = .ok (.iload_n 3, 1) := by decide +kernel
theorem dL_law_1068 : decode cL_law 1068 = .ok (.iconst 2, 1) := by decide +kernel
theorem dL_law_1069 : decode cL_law 1069 = .ok (.iadd, 1) := by decide +kernel
theorem dL_law_1070 : decode cL_law 1070 = .ok (.iaload, 1) := by decide +kernel
theorem dL_law_1071 : decode cL_law 1071 = .ok (.aload_n 0, 1) := by decide +kernel
theorem dL_law_1072 : decode cL_law 1072 = .ok (.iload_n 3, 1) := by decide +kernel
theorem dL_law_1073 : decode cL_law 1073 = .ok (.iconst 3, 1) := by decide +kernel
theorem dL_law_1074 : decode cL_law 1074 = .ok (.iadd, 1) := by decide +kernel
theorem dL_law_1075 : decode cL_law 1075 = .ok (.iaload, 1) := by decide +kernel
theorem dL_law_1076 : decode cL_law 1076 = .ok (.aload_n 0, 1) := by decide +kernel
theorem dL_law_1077 : decode cL_law 1077 = .ok (.iload_n 3, 1) := by decide +kernel
theorem dL_law_1078 : decode cL_law 1078 = .ok (.iconst 4, 1) := by decide +kernel
theorem dL_law_1079 : decode cL_law 1079 = .ok (.iadd, 1) := by decide +kernel
theorem dL_law_1080 : decode cL_law 1080 = .ok (.iaload, 1) := by decide +kernel
theorem dL_law_1081 : decode cL_law 1081 = .ok (.aload_n 0, 1) := by decide +kernel
theorem dL_law_1082 : decode cL_law 1082 = .ok (.iload_n 3, 1) := by decide +kernel
theorem dL_law_1083 : decode cL_law 1083 = .ok (.iconst 5, 1) := by decide +kernel
theorem dL_law_1084 : decode cL_law 1084 = .ok (.iadd, 1) := by decide +kernel
theorem dL_law_1085 : decode cL_law 1085 = .ok (.iaload, 1) := by decide +kernel
theorem dL_law_1086 : decode cL_law 1086 = .ok (.invokevirtual 129, 3) := by decide +kernel
theorem dL_law_1089 : decode cL_law 1089 = .ok (.if_icmp .eq 133, 3) := by decide +kernel
theorem dL_law_1092 : decode cL_law 1092 = .ok (.iconst 0, 1) := by decide +kernel
theorem dL_law_1093 : decode cL_law 1093 = .ok (.ireturn, 1) := by decide +kernel
theorem dL_law_1094 : decode cL_law 1094 = .ok (.aload_n 1, 1) := by decide +kernel
theorem dL_law_1095 : decode cL_law 1095 = .ok (.aload_n 0, 1) := by decide +kernel
theorem dL_law_1096 : decode cL_law 1096 = .ok (.iload_n 3, 1) := by decide +kernel
theorem dL_law_1097 : decode cL_law 1097 = .ok (.iconst 1, 1) := by decide +kernel
theorem dL_law_1098 : decode cL_law 1098 = .ok (.iadd, 1) := by decide +kernel
theorem dL_law_1099 : decode cL_law 1099 = .ok (.iaload, 1) := by decide +kernel
theorem dL_law_1100 : decode cL_law 1100 = .ok (.invokevirtual 130, 3) := by decide +kernel
theorem dL_law_1103 : decode cL_law 1103 = .ok (.aload_n 2, 1) := by decide +kernel
theorem dL_law_1104 : decode cL_law 1104 = .ok (.aload_n 0, 1) := by decide +kernel
theorem dL_law_1105 : decode cL_law 1105 = .ok (.iload_n 3, 1) := by decide +kernel
theorem dL_law_1106 : decode cL_law 1106 = .ok (.iconst 1, 1) := by decide +kernel
theorem dL_law_1107 : decode cL_law 1107 = .ok (.iadd, 1) := by decide +kernel
theorem dL_law_1108 : decode cL_law 1108 = .ok (.iaload, 1) := by decide +kernel
theorem dL_law_1109 : decode cL_law 1109 = .ok (.invokevirtual 133, 3) := by decide +kernel
theorem dL_law_1112 : decode cL_law 1112 = .ok (.if_icmp .eq 110, 3) := by decide +kernel
theorem dL_law_1115 : decode cL_law 1115 = .ok (.iconst 0, 1) := by decide +kernel
theorem dL_law_1116 : decode cL_law 1116 = .ok (.ireturn, 1) := by decide +kernel
theorem dL_law_1117 : decode cL_law 1117 = .ok (.aload_n 1, 1) := by decide +kernel
theorem dL_law_1118 : decode cL_law 1118 = .ok (.aload_n 0, 1) := by decide +kernel
theorem dL_law_1119 : decode cL_law 1119 = .ok (.iload_n 3, 1) := by decide +kernel
theorem dL_law_1120 : decode cL_law 1120 = .ok (.iconst 1, 1) := by decide +kernel
theorem dL_law_1121 : decode cL_law 1121 = .ok (.iadd, 1) := by decide +kernel
theorem dL_law_1122 : decode cL_law 1122 = .ok (.iaload, 1) := by decide +kernel
theorem dL_law_1123 : decode cL_law 1123 = .ok (.invokevirtual 134, 3) := by decide +kernel
theorem dL_law_1126 : decode cL_law 1126 = .ok (.aload_n 2, 1) := by decide +kernel
theorem dL_law_1127 : decode cL_law 1127 = .ok (.aload_n 0, 1) := by decide +kernel
theorem dL_law_1128 : decode cL_law 1128 = .ok (.iload_n 3, 1) := by decide +kernel
theorem dL_law_1129 : decode cL_law 1129 = .ok (.iconst 1, 1) := by decide +kernel
theorem dL_law_1130 : decode cL_law 1130 = .ok (.iadd, 1) := by decide +kernel
theorem dL_law_1131 : decode cL_law 1131 = .ok (.iaload, 1) := by decide +kernel
theorem dL_law_1132 : decode cL_law 1132 = .ok (.invokevirtual 137, 3) := by decide +kernel
theorem dL_law_1135 : decode cL_law 1135 = .ok (.if_icmp .eq 87, 3) := by decide +kernel
theorem dL_law_1138 : decode cL_law 1138 = .ok (.iconst 0, 1) := by decide +kernel
theorem dL_law_1139 : decode cL_law 1139 = .ok (.ireturn, 1) := by decide +kernel
theorem dL_law_1140 : decode cL_law 1140 = .ok (.aload_n 1, 1) := by decide +kernel
theorem dL_law_1141 : decode cL_law 1141 = .ok (.aload_n 0, 1) := by decide +kernel
theorem dL_law_1142 : decode cL_law 1142 = .ok (.iload_n 3, 1) := by decide +kernel
theorem dL_law_1143 : decode cL_law 1143 = .ok (.iconst 1, 1) := by decide +kernel
theorem dL_law_1144 : decode cL_law 1144 = .ok (.iadd, 1) := by decide +kernel
theorem dL_law_1145 : decode cL_law 1145 = .ok (.iaload, 1) := by decide +kernel
theorem dL_law_1146 : decode cL_law 1146 = .ok (.aload_n 0, 1) := by decide +kernel
theorem dL_law_1147 : decode cL_law 1147 = .ok (.iload_n 3, 1) := by decide +kernel
theorem dL_law_1148 : decode cL_law 1148 = .ok (.iconst 2, 1) := by decide +kernel
theorem dL_law_1149 : decode cL_law 1149 = .ok (.iadd, 1) := by decide +kernel
theorem dL_law_1150 : decode cL_law 1150 = .ok (.iaload, 1) := by decide +kernel
theorem dL_law_1151 : decode cL_law 1151 = .ok (.invokevirtual 138, 3) := by decide +kernel
theorem dL_law_1154 : decode cL_law 1154 = .ok (.aload_n 2, 1) := by decide +kernel
theorem dL_law_1155 : decode cL_law 1155 = .ok (.aload_n 0, 1) := by decide +kernel
theorem dL_law_1156 : decode cL_law 1156 = .ok (.iload_n 3, 1) := by decide +kernel
theorem dL_law_1157 : decode cL_law 1157 = .ok (.iconst 1, 1) := by decide +kernel
theorem dL_law_1158 : decode cL_law 1158 = .ok (.iadd, 1) := by decide +kernel
theorem dL_law_1159 : decode cL_law 1159 = .ok (.iaload, 1) := by decide +kernel
theorem dL_law_1160 : decode cL_law 1160 = .ok (.aload_n 0, 1) := by decide +kernel
theorem dL_law_1161 : decode cL_law 1161 = .ok (.iload_n 3, 1) := by decide +kernel
theorem dL_law_1162 : decode cL_law 1162 = .ok (.iconst 2, 1) := by decide +kernel
theorem dL_law_1163 : decode cL_law 1163 = .ok (.iadd, 1) := by decide +kernel
theorem dL_law_1164 : decode cL_law 1164 = .ok (.iaload, 1) := by decide +kernel
theorem dL_law_1165 : decode cL_law 1165 = .ok (.invokevirtual 141, 3) := by decide +kernel
theorem dL_law_1168 : decode cL_law 1168 = .ok (.if_icmp .eq 54, 3) := by decide +kernel
theorem dL_law_1171 : decode cL_law 1171 = .ok (.iconst 0, 1) := by decide +kernel
theorem dL_law_1172 : decode cL_law 1172 = .ok (.ireturn, 1) := by decide +kernel
theorem dL_law_1173 : decode cL_law 1173 = .ok (.aload_n 1, 1) := by decide +kernel
theorem dL_law_1174 : decode cL_law 1174 = .ok (.invokevirtual 142, 3) := by decide +kernel
theorem dL_law_1177 : decode cL_law 1177 = .ok (.aload_n 2, 1) := by decide +kernel
theorem dL_law_1178 : decode cL_law 1178 = .ok (.invokevirtual 145, 3) := by decide +kernel
theorem dL_law_1181 : decode cL_law 1181 = .ok (.if_icmp .eq 41, 3) := by decide +kernel
theorem dL_law_1184 : decode cL_law 1184 = .ok (.iconst 0, 1) := by decide +kernel
theorem dL_law_1185 : decode cL_law 1185 = .ok (.ireturn, 1) := by decide +kernel
theorem dL_law_1186 : decode cL_law 1186 = .ok (.aload_n 1, 1) := by decide +kernel
theorem dL_law_1187 : decode cL_law 1187 = .ok (.invokevirtual 146, 3) := by decide +kernel
theorem dL_law_1190 : decode cL_law 1190 = .ok (.aload_n 2, 1) := by decide +kernel
theorem dL_law_1191 : decode cL_law 1191 = .ok (.invokevirtual 149, 3) := by decide +kernel
theorem dL_law_1194 : decode cL_law 1194 = .ok (.if_icmp .eq 28, 3) := by decide +kernel
theorem dL_law_1197 : decode cL_law 1197 = .ok (.iconst 0, 1) := by decide +kernel
theorem dL_law_1198 : decode cL_law 1198 = .ok (.ireturn, 1) := by decide +kernel
theorem dL_law_1199 : decode cL_law 1199 = .ok (.aload_n 1, 1) := by decide +kernel
theorem dL_law_1200 : decode cL_law 1200 = .ok (.aload_n 0, 1) := by decide +kernel
theorem dL_law_1201 : decode cL_law 1201 = .ok (.iload_n 3, 1) := by decide +kernel
theorem dL_law_1202 : decode cL_law 1202 = .ok (.iconst 1, 1) := by decide +kernel
theorem dL_law_1203 : decode cL_law 1203 = .ok (.iadd, 1) := by decide +kernel
theorem dL_law_1204 : decode cL_law 1204 = .ok (.iaload, 1) := by decide +kernel
theorem dL_law_1205 : decode cL_law 1205 = .ok (.invokevirtual 150, 3) := by decide +kernel
theorem dL_law_1208 : decode cL_law 1208 = .ok (.aload_n 2, 1) := by decide +kernel
theorem dL_law_1209 : decode cL_law 1209 = .ok (.aload_n 0, 1) := by decide +kernel
theorem dL_law_1210 : decode cL_law 1210 = .ok (.iload_n 3, 1) := by decide +kernel
theorem dL_law_1211 : decode cL_law 1211 = .ok (.iconst 1, 1) := by decide +kernel
theorem dL_law_1212 : decode cL_law 1212 = .ok (.iadd, 1) := by decide +kernel
theorem dL_law_1213 : decode cL_law 1213 = .ok (.iaload, 1) := by decide +kernel
theorem dL_law_1214 : decode cL_law 1214 = .ok (.invokevirtual 153, 3) := by decide +kernel
theorem dL_law_1217 : decode cL_law 1217 = .ok (.if_icmp .eq 5, 3) := by decide +kernel
theorem dL_law_1220 : decode cL_law 1220 = .ok (.iconst 0, 1) := by decide +kernel
theorem dL_law_1221 : decode cL_law 1221 = .ok (.ireturn, 1) := by decide +kernel
theorem dL_law_1222 : decode cL_law 1222 = .ok (.iinc 3 6, 3) := by decide +kernel
theorem dL_law_1225 : decode cL_law 1225 = .ok (.goto (-1207), 3) := by decide +kernel
theorem dL_law_1228 : decode cL_law 1228 = .ok (.iconst 1, 1) := by decide +kernel
theorem dL_law_1229 : decode cL_law 1229 = .ok (.ireturn, 1) := by decide +kernel
end
section
def lU : List Cond := lw_tbl.filter goodWord
def isNest : Cond → Bool
  | .fieldLinkNest _ _ _ _ _ _ => true
  | .methodLinkNest _ _ _ _ => true
  | _ => false
def nwL : List Cond := lw_tbl.filter isNest
theorem lU_good : GoodIn lU lU := fun w hw => ⟨hw, good_of_word (List.mem_filter.mp hw).2⟩
theorem lU_in : ∀ w ∈ lU, w ∈ lw_tbl := fun w hw => (List.mem_filter.mp hw).1
theorem nwL_in : ∀ w ∈ nwL, w ∈ lw_tbl := fun w hw => (List.mem_filter.mp hw).1
theorem mU {w : Cond} (i : Nat) (h : lw_tbl[i]? = some w) (hg : goodWord w = true) : w ∈ lU := List.mem_filter.mpr ⟨List.mem_of_getElem? h, hg⟩
theorem mN {w : Cond} (i : Nat) (h : lw_tbl[i]? = some w) (hg : isNest w = true) : w ∈ nwL := List.mem_filter.mpr ⟨List.mem_of_getElem? h, hg⟩
abbrev MD : Type := MethodName × ByteArray × Nat × Option FieldType
/-- what the words say of an instance method, of a static one -/
def MIV (M : MD) (n : Nat) : Prop := Cond.instanceMethod M.1 ∈ lU ∧ Cond.selects M.1.cls M.1 M.1 ∈ lU ∧ Cond.initialized M.1.cls ∈ lU ∧ Cond.code M.1 M.2.1 M.2.2.1 M.2.2.2 ∈ lU ∧ (M.1.cls ≠ "java/lang/invoke/MethodHandle" ∧ M.1.cls ≠ "java/lang/invoke/VarHandle" ∧ (parseMethodDescriptor M.1.desc).map (fun d => d.parameters.length) = some n) ∧ M.2.2.1 ≤ 21 ∧ plainName M.1.cls = true
def MIS (M : MD) (n : Nat) : Prop := Cond.static M.1 ∈ lU ∧ Cond.initialized M.1.cls ∈ lU ∧ Cond.code M.1 M.2.1 M.2.2.1 M.2.2.2 ∈ lU ∧ (M.1.cls ≠ "java/lang/invoke/MethodHandle" ∧ M.1.cls ≠ "java/lang/invoke/VarHandle" ∧ (parseMethodDescriptor M.1.desc).map (fun d => d.parameters.length) = some n) ∧ M.2.2.1 ≤ 21 ∧ plainName M.1.cls = true
theorem inX0 : ∀ w ∈ wsX00, w ∈ lU := by
  have h : ∀ k, k < 3 → u_lay RX0 TX0 k ∈ lU := by
    intro k hk
    match k, hk with
    | 0, _ => exact mU 113 (by decide +kernel) rfl
    | 1, _ => exact mU 115 (by decide +kernel) rfl
    | 2, _ => exact mU 117 (by decide +kernel) rfl
    | k + 3, hk => exact absurd hk (by omega)
  intro w hw
  obtain ⟨k, hk, e⟩ := List.mem_map.mp hw
  exact e ▸ h k (List.mem_range.mp hk)
theorem inX1 : ∀ w ∈ wsX10, w ∈ lU := by
  have h : ∀ k, k < 2 → u_lay RX1 TX1 k ∈ lU := by
    intro k hk
    match k, hk with
    | 0, _ => exact mU 128 (by decide +kernel) rfl
    | 1, _ => exact mU 130 (by decide +kernel) rfl
    | k + 2, hk => exact absurd hk (by omega)
  intro w hw
  obtain ⟨k, hk, e⟩ := List.mem_map.mp hw
  exact e ▸ h k (List.mem_range.mp hk)
theorem inX2 : ∀ w ∈ wsX20, w ∈ lU := by
  have h : ∀ k, k < 2 → u_lay RX2 TX2 k ∈ lU := by
    intro k hk
    match k, hk with
    | 0, _ => exact mU 142 (by decide +kernel) rfl
    | 1, _ => exact mU 144 (by decide +kernel) rfl
    | k + 2, hk => exact absurd hk (by omega)
  intro w hw
  obtain ⟨k, hk, e⟩ := List.mem_map.mp hw
  exact e ▸ h k (List.mem_range.mp hk)
theorem inX3 : ∀ w ∈ wsX30, w ∈ lU := by
  have h : ∀ k, k < 4 → u_lay RX3 TX3 k ∈ lU := by
    intro k hk
    match k, hk with
    | 0, _ => exact mU 223 (by decide +kernel) rfl
    | 1, _ => exact mU 225 (by decide +kernel) rfl
    | 2, _ => exact mU 227 (by decide +kernel) rfl
    | 3, _ => exact mU 229 (by decide +kernel) rfl
    | k + 4, hk => exact absurd hk (by omega)
  intro w hw
  obtain ⟨k, hk, e⟩ := List.mem_map.mp hw
  exact e ▸ h k (List.mem_range.mp hk)
theorem inX4 : ∀ w ∈ wsX40, w ∈ lU := by
  have h : ∀ k, k < 13 → u_lay RX4 TX4 k ∈ lU := by
    intro k hk
    match k, hk with
    | 0, _ => exact mU 184 (by decide +kernel) rfl
    | 1, _ => exact mU 186 (by decide +kernel) rfl
    | 2, _ => exact mU 188 (by decide +kernel) rfl
    | 3, _ => exact mU 190 (by decide +kernel) rfl
    | 4, _ => exact mU 192 (by decide +kernel) rfl
    | 5, _ => exact mU 194 (by decide +kernel) rfl
    | 6, _ => exact mU 196 (by decide +kernel) rfl
    | 7, _ => exact mU 198 (by decide +kernel) rfl
    | 8, _ => exact mU 200 (by decide +kernel) rfl
    | 9, _ => exact mU 202 (by decide +kernel) rfl
    | 10, _ => exact mU 204 (by decide +kernel) rfl
    | 11, _ => exact mU 206 (by decide +kernel) rfl
    | 12, _ => exact mU 208 (by decide +kernel) rfl
    | k + 13, hk => exact absurd hk (by omega)
  intro w hw
  obtain ⟨k, hk, e⟩ := List.mem_map.mp hw
  exact e ▸ h k (List.mem_range.mp hk)
theorem inX5 : ∀ w ∈ wsX50, w ∈ lU := by
  have h : ∀ k, k < 4 → u_lay RX5 TX5 k ∈ lU := by
    intro k hk
    match k, hk with
    | 0, _ => exact mU 91 (by decide +kernel) rfl
    | 1, _ => exact mU 93 (by decide +kernel) rfl
    | 2, _ => exact mU 95 (by decide +kernel) rfl
    | 3, _ => exact mU 97 (by decide +kernel) rfl
    | k + 4, hk => exact absurd hk (by omega)
  intro w hw
  obtain ⟨k, hk, e⟩ := List.mem_map.mp hw
  exact e ▸ h k (List.mem_range.mp hk)
theorem inX6 : ∀ w ∈ wsX60, w ∈ lU := by
  have h : ∀ k, k < 9 → u_lay RX6 TX6 k ∈ lU := by
    intro k hk
    match k, hk with
    | 0, _ => exact mU 241 (by decide +kernel) rfl
    | 1, _ => exact mU 243 (by decide +kernel) rfl
    | 2, _ => exact mU 245 (by decide +kernel) rfl
    | 3, _ => exact mU 247 (by decide +kernel) rfl
    | 4, _ => exact mU 249 (by decide +kernel) rfl
    | 5, _ => exact mU 251 (by decide +kernel) rfl
    | 6, _ => exact mU 253 (by decide +kernel) rfl
    | 7, _ => exact mU 255 (by decide +kernel) rfl
    | 8, _ => exact mU 257 (by decide +kernel) rfl
    | k + 9, hk => exact absurd hk (by omega)
  intro w hw
  obtain ⟨k, hk, e⟩ := List.mem_map.mp hw
  exact e ▸ h k (List.mem_range.mp hk)
theorem inX7 : ∀ w ∈ wsX70, w ∈ lU := by
  have h : ∀ k, k < 34 → u_lay RX7 TX7 k ∈ lU := by
    intro k hk
    match k, hk with
    | 0, _ => exact mU 728 (by decide +kernel) rfl
    | 1, _ => exact mU 730 (by decide +kernel) rfl
    | 2, _ => exact mU 732 (by decide +kernel) rfl
    | 3, _ => exact mU 734 (by decide +kernel) rfl
    | 4, _ => exact mU 736 (by decide +kernel) rfl
    | 5, _ => exact mU 738 (by decide +kernel) rfl
    | 6, _ => exact mU 740 (by decide +kernel) rfl
    | 7, _ => exact mU 742 (by decide +kernel) rfl
    | 8, _ => exact mU 744 (by decide +kernel) rfl
    | 9, _ => exact mU 746 (by decide +kernel) rfl
    | 10, _ => exact mU 748 (by decide +kernel) rfl
    | 11, _ => exact mU 750 (by decide +kernel) rfl
    | 12, _ => exact mU 752 (by decide +kernel) rfl
    | 13, _ => exact mU 754 (by decide +kernel) rfl
    | 14, _ => exact mU 756 (by decide +kernel) rfl
    | 15, _ => exact mU 758 (by decide +kernel) rfl
    | 16, _ => exact mU 760 (by decide +kernel) rfl
    | 17, _ => exact mU 762 (by decide +kernel) rfl
    | 18, _ => exact mU 764 (by decide +kernel) rfl
    | 19, _ => exact mU 766 (by decide +kernel) rfl
    | 20, _ => exact mU 768 (by decide +kernel) rfl
    | 21, _ => exact mU 770 (by decide +kernel) rfl
    | 22, _ => exact mU 772 (by decide +kernel) rfl
    | 23, _ => exact mU 774 (by decide +kernel) rfl
    | 24, _ => exact mU 776 (by decide +kernel) rfl
    | 25, _ => exact mU 778 (by decide +kernel) rfl
    | 26, _ => exact mU 780 (by decide +kernel) rfl
    | 27, _ => exact mU 782 (by decide +kernel) rfl
    | 28, _ => exact mU 784 (by decide +kernel) rfl
    | 29, _ => exact mU 786 (by decide +kernel) rfl
    | 30, _ => exact mU 788 (by decide +kernel) rfl
    | 31, _ => exact mU 790 (by decide +kernel) rfl
    | 32, _ => exact mU 792 (by decide +kernel) rfl
    | 33, _ => exact mU 794 (by decide +kernel) rfl
    | k + 34, hk => exact absurd hk (by omega)
  intro w hw
  obtain ⟨k, hk, e⟩ := List.mem_map.mp hw
  exact e ▸ h k (List.mem_range.mp hk)
abbrev mX6_init : MD := (yX6_init, cX6_init, 2, none)
abbrev mX5_init : MD := (yX5_init, cX5_init, 1, none)
abbrev mX0_init : MD := (yX0_init, cX0_init, 1, none)
abbrev mX1_init : MD := (yX1_init, cX1_init, 1, none)
abbrev mX2_init : MD := (yX2_init, cX2_init, 1, none)
abbrev mX4_init : MD := (yX4_init, cX4_init, 1, none)
abbrev mX3_init : MD := (yX3_init, cX3_init, 1, none)
abbrev mX6_table : MD := (yX6_table, cX6_table, 7, (some .int))
theorem imX6_table : MIV mX6_table 4 := ⟨mU 261 (by decide +kernel) rfl, mU 262 (by decide +kernel) rfl, mU 58 (by decide +kernel) rfl, mU 263 (by decide +kernel) rfl, ⟨by decide +kernel, by decide +kernel, by decide +kernel⟩, by decide +kernel, by decide +kernel⟩
abbrev mX6_isSheet : MD := (yX6_isSheet, cX6_isSheet, 1, (some .boolean))
theorem imX6_isSheet : MIS mX6_isSheet 1 := ⟨mU 265 (by decide +kernel) rfl, mU 58 (by decide +kernel) rfl, mU 266 (by decide +kernel) rfl, ⟨by decide +kernel, by decide +kernel, by decide +kernel⟩, by decide +kernel, by decide +kernel⟩
abbrev mX6_isBelow : MD := (yX6_isBelow, cX6_isBelow, 2, (some .boolean))
theorem imX6_isBelow : MIS mX6_isBelow 2 := ⟨mU 268 (by decide +kernel) rfl, mU 58 (by decide +kernel) rfl, mU 269 (by decide +kernel) rfl, ⟨by decide +kernel, by decide +kernel, by decide +kernel⟩, by decide +kernel, by decide +kernel⟩
abbrev mX3_faultOfCells : MD := (yX3_faultOfCells, cX3_faultOfCells, 4, (some .int))
theorem imX3_faultOfCells : MIV mX3_faultOfCells 3 := ⟨mU 271 (by decide +kernel) rfl, mU 272 (by decide +kernel) rfl, mU 64 (by decide +kernel) rfl, mU 273 (by decide +kernel) rfl, ⟨by decide +kernel, by decide +kernel, by decide +kernel⟩, by decide +kernel, by decide +kernel⟩
abbrev mX3_has : MD := (yX3_has, cX3_has, 3, (some .boolean))
theorem imX3_has : MIV mX3_has 2 := ⟨mU 275 (by decide +kernel) rfl, mU 276 (by decide +kernel) rfl, mU 64 (by decide +kernel) rfl, mU 277 (by decide +kernel) rfl, ⟨by decide +kernel, by decide +kernel, by decide +kernel⟩, by decide +kernel, by decide +kernel⟩
abbrev mX6_broken : MD := (yX6_broken, cX6_broken, 2, (some .int))
theorem imX6_broken : MIV mX6_broken 1 := ⟨mU 280 (by decide +kernel) rfl, mU 0 (by decide +kernel) rfl, mU 58 (by decide +kernel) rfl, mU 281 (by decide +kernel) rfl, ⟨by decide +kernel, by decide +kernel, by decide +kernel⟩, by decide +kernel, by decide +kernel⟩
abbrev mX5_open : MD := (yX5_open, cX5_open, 4, none)
theorem imX5_open : MIV mX5_open 3 := ⟨mU 283 (by decide +kernel) rfl, mU 284 (by decide +kernel) rfl, mU 59 (by decide +kernel) rfl, mU 285 (by decide +kernel) rfl, ⟨by decide +kernel, by decide +kernel, by decide +kernel⟩, by decide +kernel, by decide +kernel⟩
abbrev mX4_lay : MD := (yX4_lay, cX4_lay, 2, (some .boolean))
theorem imX4_lay : MIV mX4_lay 1 := ⟨mU 287 (by decide +kernel) rfl, mU 288 (by decide +kernel) rfl, mU 63 (by decide +kernel) rfl, mU 289 (by decide +kernel) rfl, ⟨by decide +kernel, by decide +kernel, by decide +kernel⟩, by decide +kernel, by decide +kernel⟩
abbrev mX5_take : MD := (yX5_take, cX5_take, 2, (some .boolean))
theorem imX5_take : MIV mX5_take 1 := ⟨mU 291 (by decide +kernel) rfl, mU 292 (by decide +kernel) rfl, mU 59 (by decide +kernel) rfl, mU 293 (by decide +kernel) rfl, ⟨by decide +kernel, by decide +kernel, by decide +kernel⟩, by decide +kernel, by decide +kernel⟩
abbrev mX5_isAt : MD := (yX5_isAt, cX5_isAt, 2, (some .boolean))
theorem imX5_isAt : MIV mX5_isAt 1 := ⟨mU 295 (by decide +kernel) rfl, mU 296 (by decide +kernel) rfl, mU 59 (by decide +kernel) rfl, mU 297 (by decide +kernel) rfl, ⟨by decide +kernel, by decide +kernel, by decide +kernel⟩, by decide +kernel, by decide +kernel⟩
abbrev mX4_laySoup : MD := (yX4_laySoup, cX4_laySoup, 2, (some .boolean))
theorem imX4_laySoup : MIV mX4_laySoup 1 := ⟨mU 300 (by decide +kernel) rfl, mU 1 (by decide +kernel) rfl, mU 63 (by decide +kernel) rfl, mU 301 (by decide +kernel) rfl, ⟨by decide +kernel, by decide +kernel, by decide +kernel⟩, by decide +kernel, by decide +kernel⟩
abbrev mX5_takeDigit : MD := (yX5_takeDigit, cX5_takeDigit, 2, (some .int))
theorem imX5_takeDigit : MIV mX5_takeDigit 1 := ⟨mU 303 (by decide +kernel) rfl, mU 304 (by decide +kernel) rfl, mU 59 (by decide +kernel) rfl, mU 305 (by decide +kernel) rfl, ⟨by decide +kernel, by decide +kernel, by decide +kernel⟩, by decide +kernel, by decide +kernel⟩
abbrev mX5_takeDigitBut : MD := (yX5_takeDigitBut, cX5_takeDigitBut, 4, (some .int))
theorem imX5_takeDigitBut : MIV mX5_takeDigitBut 2 := ⟨mU 307 (by decide +kernel) rfl, mU 308 (by decide +kernel) rfl, mU 59 (by decide +kernel) rfl, mU 309 (by decide +kernel) rfl, ⟨by decide +kernel, by decide +kernel, by decide +kernel⟩, by decide +kernel, by decide +kernel⟩
abbrev mX5_isAtEnd : MD := (yX5_isAtEnd, cX5_isAtEnd, 1, (some .boolean))
theorem imX5_isAtEnd : MIV mX5_isAtEnd 0 := ⟨mU 311 (by decide +kernel) rfl, mU 312 (by decide +kernel) rfl, mU 59 (by decide +kernel) rfl, mU 313 (by decide +kernel) rfl, ⟨by decide +kernel, by decide +kernel, by decide +kernel⟩, by decide +kernel, by decide +kernel⟩
abbrev mX4_layGuests : MD := (yX4_layGuests, cX4_layGuests, 3, (some .boolean))
theorem imX4_layGuests : MIV mX4_layGuests 1 := ⟨mU 317 (by decide +kernel) rfl, mU 2 (by decide +kernel) rfl, mU 63 (by decide +kernel) rfl, mU 318 (by decide +kernel) rfl, ⟨by decide +kernel, by decide +kernel, by decide +kernel⟩, by decide +kernel, by decide +kernel⟩
abbrev mX4_layGuest : MD := (yX4_layGuest, cX4_layGuest, 3, (some .boolean))
theorem imX4_layGuest : MIV mX4_layGuest 2 := ⟨mU 322 (by decide +kernel) rfl, mU 3 (by decide +kernel) rfl, mU 63 (by decide +kernel) rfl, mU 323 (by decide +kernel) rfl, ⟨by decide +kernel, by decide +kernel, by decide +kernel⟩, by decide +kernel, by decide +kernel⟩
abbrev mX5_takeKind : MD := (yX5_takeKind, cX5_takeKind, 1, (some .int))
theorem imX5_takeKind : MIV mX5_takeKind 0 := ⟨mU 325 (by decide +kernel) rfl, mU 326 (by decide +kernel) rfl, mU 59 (by decide +kernel) rfl, mU 327 (by decide +kernel) rfl, ⟨by decide +kernel, by decide +kernel, by decide +kernel⟩, by decide +kernel, by decide +kernel⟩
abbrev mX4_layBorder : MD := (yX4_layBorder, cX4_layBorder, 4, (some .boolean))
theorem imX4_layBorder : MIV mX4_layBorder 1 := ⟨mU 331 (by decide +kernel) rfl, mU 4 (by decide +kernel) rfl, mU 63 (by decide +kernel) rfl, mU 332 (by decide +kernel) rfl, ⟨by decide +kernel, by decide +kernel, by decide +kernel⟩, by decide +kernel, by decide +kernel⟩
abbrev mX6_borderOf : MD := (yX6_borderOf, cX6_borderOf, 2, (some .int))
theorem imX6_borderOf : MIS mX6_borderOf 2 := ⟨mU 335 (by decide +kernel) rfl, mU 58 (by decide +kernel) rfl, mU 336 (by decide +kernel) rfl, ⟨by decide +kernel, by decide +kernel, by decide +kernel⟩, by decide +kernel, by decide +kernel⟩
abbrev mX4_layDishes : MD := (yX4_layDishes, cX4_layDishes, 3, (some .boolean))
theorem imX4_layDishes : MIV mX4_layDishes 1 := ⟨mU 339 (by decide +kernel) rfl, mU 5 (by decide +kernel) rfl, mU 63 (by decide +kernel) rfl, mU 340 (by decide +kernel) rfl, ⟨by decide +kernel, by decide +kernel, by decide +kernel⟩, by decide +kernel, by decide +kernel⟩
abbrev mX4_layDish : MD := (yX4_layDish, cX4_layDish, 3, (some .boolean))
theorem imX4_layDish : MIV mX4_layDish 2 := ⟨mU 344 (by decide +kernel) rfl, mU 6 (by decide +kernel) rfl, mU 63 (by decide +kernel) rfl, mU 345 (by decide +kernel) rfl, ⟨by decide +kernel, by decide +kernel, by decide +kernel⟩, by decide +kernel, by decide +kernel⟩
abbrev mX6_ofGuest : MD := (yX6_ofGuest, cX6_ofGuest, 3, (some .int))
theorem imX6_ofGuest : MIV mX6_ofGuest 2 := ⟨mU 347 (by decide +kernel) rfl, mU 348 (by decide +kernel) rfl, mU 58 (by decide +kernel) rfl, mU 349 (by decide +kernel) rfl, ⟨by decide +kernel, by decide +kernel, by decide +kernel⟩, by decide +kernel, by decide +kernel⟩
abbrev mX4_minutesOf : MD := (yX4_minutesOf, cX4_minutesOf, 2, (some .int))
theorem imX4_minutesOf : MIV mX4_minutesOf 1 := ⟨mU 351 (by decide +kernel) rfl, mU 352 (by decide +kernel) rfl, mU 63 (by decide +kernel) rfl, mU 353 (by decide +kernel) rfl, ⟨by decide +kernel, by decide +kernel, by decide +kernel⟩, by decide +kernel, by decide +kernel⟩
abbrev mX4_minutesAs : MD := (yX4_minutesAs, cX4_minutesAs, 4, (some .int))
theorem imX4_minutesAs : MIS mX4_minutesAs 3 := ⟨mU 355 (by decide +kernel) rfl, mU 63 (by decide +kernel) rfl, mU 356 (by decide +kernel) rfl, ⟨by decide +kernel, by decide +kernel, by decide +kernel⟩, by decide +kernel, by decide +kernel⟩
abbrev mJ9_max_7cf53 : MD := (yJ9_max_7cf53, cJ9_max_7cf53, 2, (some .int))
theorem mm_max_st : Cond.static Lib.Math.max.name ∈ lU := mU 358 (by decide +kernel) rfl
theorem mm_max_ini : Cond.initialized "java/lang/Math" ∈ lU := mU 66 (by decide +kernel) rfl
theorem mm_max_code : Cond.code Lib.Math.max.name Lib.Math.max.code 2 (some .int) ∈ lU := mU 359 (by decide +kernel) rfl
abbrev mX6_ofDish : MD := (yX6_ofDish, cX6_ofDish, 3, (some .int))
theorem imX6_ofDish : MIV mX6_ofDish 2 := ⟨mU 361 (by decide +kernel) rfl, mU 362 (by decide +kernel) rfl, mU 58 (by decide +kernel) rfl, mU 363 (by decide +kernel) rfl, ⟨by decide +kernel, by decide +kernel, by decide +kernel⟩, by decide +kernel, by decide +kernel⟩
abbrev mX4_ownerOfDish : MD := (yX4_ownerOfDish, cX4_ownerOfDish, 3, (some .int))
theorem imX4_ownerOfDish : MIV mX4_ownerOfDish 2 := ⟨mU 365 (by decide +kernel) rfl, mU 366 (by decide +kernel) rfl, mU 63 (by decide +kernel) rfl, mU 367 (by decide +kernel) rfl, ⟨by decide +kernel, by decide +kernel, by decide +kernel⟩, by decide +kernel, by decide +kernel⟩
abbrev mX4_ownerOf : MD := (yX4_ownerOf, cX4_ownerOf, 5, (some .int))
theorem imX4_ownerOf : MIV mX4_ownerOf 2 := ⟨mU 369 (by decide +kernel) rfl, mU 370 (by decide +kernel) rfl, mU 63 (by decide +kernel) rfl, mU 371 (by decide +kernel) rfl, ⟨by decide +kernel, by decide +kernel, by decide +kernel⟩, by decide +kernel, by decide +kernel⟩
abbrev mX6_saltOf : MD := (yX6_saltOf, cX6_saltOf, 1, (some .int))
theorem imX6_saltOf : MIS mX6_saltOf 1 := ⟨mU 373 (by decide +kernel) rfl, mU 58 (by decide +kernel) rfl, mU 374 (by decide +kernel) rfl, ⟨by decide +kernel, by decide +kernel, by decide +kernel⟩, by decide +kernel, by decide +kernel⟩
abbrev mX6_pepperOf : MD := (yX6_pepperOf, cX6_pepperOf, 1, (some .int))
theorem imX6_pepperOf : MIS mX6_pepperOf 1 := ⟨mU 376 (by decide +kernel) rfl, mU 58 (by decide +kernel) rfl, mU 377 (by decide +kernel) rfl, ⟨by decide +kernel, by decide +kernel, by decide +kernel⟩, by decide +kernel, by decide +kernel⟩
abbrev mX4_stepsBehind : MD := (yX4_stepsBehind, cX4_stepsBehind, 3, (some .int))
theorem imX4_stepsBehind : MIV mX4_stepsBehind 2 := ⟨mU 380 (by decide +kernel) rfl, mU 7 (by decide +kernel) rfl, mU 63 (by decide +kernel) rfl, mU 381 (by decide +kernel) rfl, ⟨by decide +kernel, by decide +kernel, by decide +kernel⟩, by decide +kernel, by decide +kernel⟩
abbrev mX6_whose : MD := (yX6_whose, cX6_whose, 2, (some .int))
theorem imX6_whose : MIV mX6_whose 1 := ⟨mU 383 (by decide +kernel) rfl, mU 384 (by decide +kernel) rfl, mU 58 (by decide +kernel) rfl, mU 385 (by decide +kernel) rfl, ⟨by decide +kernel, by decide +kernel, by decide +kernel⟩, by decide +kernel, by decide +kernel⟩
abbrev mX6_land : MD := (yX6_land, cX6_land, 2, (some .int))
theorem imX6_land : MIV mX6_land 1 := ⟨mU 388 (by decide +kernel) rfl, mU 389 (by decide +kernel) rfl, mU 58 (by decide +kernel) rfl, mU 390 (by decide +kernel) rfl, ⟨by decide +kernel, by decide +kernel, by decide +kernel⟩, by decide +kernel, by decide +kernel⟩
abbrev mX4_isLaid : MD := (yX4_isLaid, cX4_isLaid, 1, (some .boolean))
theorem imX4_isLaid : MIV mX4_isLaid 0 := ⟨mU 392 (by decide +kernel) rfl, mU 393 (by decide +kernel) rfl, mU 63 (by decide +kernel) rfl, mU 394 (by decide +kernel) rfl, ⟨by decide +kernel, by decide +kernel, by decide +kernel⟩, by decide +kernel, by decide +kernel⟩
abbrev mX4_landOf : MD := (yX4_landOf, cX4_landOf, 5, (some .int))
theorem imX4_landOf : MIV mX4_landOf 2 := ⟨mU 396 (by decide +kernel) rfl, mU 397 (by decide +kernel) rfl, mU 63 (by decide +kernel) rfl, mU 398 (by decide +kernel) rfl, ⟨by decide +kernel, by decide +kernel, by decide +kernel⟩, by decide +kernel, by decide +kernel⟩
abbrev mX6_chew : MD := (yX6_chew, cX6_chew, 4, (some .int))
theorem imX6_chew : MIV mX6_chew 2 := ⟨mU 400 (by decide +kernel) rfl, mU 401 (by decide +kernel) rfl, mU 58 (by decide +kernel) rfl, mU 402 (by decide +kernel) rfl, ⟨by decide +kernel, by decide +kernel, by decide +kernel⟩, by decide +kernel, by decide +kernel⟩
abbrev mX6_cook : MD := (yX6_cook, cX6_cook, 3, (some .int))
theorem imX6_cook : MIV mX6_cook 1 := ⟨mU 404 (by decide +kernel) rfl, mU 405 (by decide +kernel) rfl, mU 58 (by decide +kernel) rfl, mU 406 (by decide +kernel) rfl, ⟨by decide +kernel, by decide +kernel, by decide +kernel⟩, by decide +kernel, by decide +kernel⟩
abbrev mX6_rate : MD := (yX6_rate, cX6_rate, 4, (some .int))
theorem imX6_rate : MIV mX6_rate 2 := ⟨mU 408 (by decide +kernel) rfl, mU 409 (by decide +kernel) rfl, mU 58 (by decide +kernel) rfl, mU 410 (by decide +kernel) rfl, ⟨by decide +kernel, by decide +kernel, by decide +kernel⟩, by decide +kernel, by decide +kernel⟩
abbrev mX6_carry : MD := (yX6_carry, cX6_carry, 4, (some .int))
theorem imX6_carry : MIV mX6_carry 2 := ⟨mU 412 (by decide +kernel) rfl, mU 413 (by decide +kernel) rfl, mU 58 (by decide +kernel) rfl, mU 414 (by decide +kernel) rfl, ⟨by decide +kernel, by decide +kernel, by decide +kernel⟩, by decide +kernel, by decide +kernel⟩
abbrev mX6_pass : MD := (yX6_pass, cX6_pass, 4, (some .int))
theorem imX6_pass : MIV mX6_pass 1 := ⟨mU 416 (by decide +kernel) rfl, mU 417 (by decide +kernel) rfl, mU 58 (by decide +kernel) rfl, mU 418 (by decide +kernel) rfl, ⟨by decide +kernel, by decide +kernel, by decide +kernel⟩, by decide +kernel, by decide +kernel⟩
abbrev mX4_borderBehind : MD := (yX4_borderBehind, cX4_borderBehind, 5, (some .int))
theorem imX4_borderBehind : MIV mX4_borderBehind 2 := ⟨mU 420 (by decide +kernel) rfl, mU 421 (by decide +kernel) rfl, mU 63 (by decide +kernel) rfl, mU 422 (by decide +kernel) rfl, ⟨by decide +kernel, by decide +kernel, by decide +kernel⟩, by decide +kernel, by decide +kernel⟩
abbrev mX4_neighbour : MD := (yX4_neighbour, cX4_neighbour, 3, (some .int))
theorem imX4_neighbour : MIV mX4_neighbour 2 := ⟨mU 425 (by decide +kernel) rfl, mU 8 (by decide +kernel) rfl, mU 63 (by decide +kernel) rfl, mU 426 (by decide +kernel) rfl, ⟨by decide +kernel, by decide +kernel, by decide +kernel⟩, by decide +kernel, by decide +kernel⟩
abbrev mX6_standsAt : MD := (yX6_standsAt, cX6_standsAt, 2, (some .int))
theorem imX6_standsAt : MIS mX6_standsAt 2 := ⟨mU 428 (by decide +kernel) rfl, mU 58 (by decide +kernel) rfl, mU 429 (by decide +kernel) rfl, ⟨by decide +kernel, by decide +kernel, by decide +kernel⟩, by decide +kernel, by decide +kernel⟩
abbrev mX6_dinner : MD := (yX6_dinner, cX6_dinner, 8, (some .int))
theorem imX6_dinner : MIV mX6_dinner 5 := ⟨mU 433 (by decide +kernel) rfl, mU 434 (by decide +kernel) rfl, mU 58 (by decide +kernel) rfl, mU 435 (by decide +kernel) rfl, ⟨by decide +kernel, by decide +kernel, by decide +kernel⟩, by decide +kernel, by decide +kernel⟩
abbrev mX6_isAskedOfDinner : MD := (yX6_isAskedOfDinner, cX6_isAskedOfDinner, 1, (some .boolean))
theorem imX6_isAskedOfDinner : MIS mX6_isAskedOfDinner 1 := ⟨mU 437 (by decide +kernel) rfl, mU 58 (by decide +kernel) rfl, mU 438 (by decide +kernel) rfl, ⟨by decide +kernel, by decide +kernel, by decide +kernel⟩, by decide +kernel, by decide +kernel⟩
abbrev mX3_areRequests : MD := (yX3_areRequests, cX3_areRequests, 4, (some .boolean))
theorem imX3_areRequests : MIV mX3_areRequests 2 := ⟨mU 440 (by decide +kernel) rfl, mU 441 (by decide +kernel) rfl, mU 64 (by decide +kernel) rfl, mU 442 (by decide +kernel) rfl, ⟨by decide +kernel, by decide +kernel, by decide +kernel⟩, by decide +kernel, by decide +kernel⟩
abbrev mX0_serve : MD := (yX0_serve, cX0_serve, 7, none)
theorem imX0_serve : MIV mX0_serve 4 := ⟨mU 445 (by decide +kernel) rfl, mU 446 (by decide +kernel) rfl, mU 60 (by decide +kernel) rfl, mU 447 (by decide +kernel) rfl, ⟨by decide +kernel, by decide +kernel, by decide +kernel⟩, by decide +kernel, by decide +kernel⟩
abbrev mX6_answerOfDinner : MD := (yX6_answerOfDinner, cX6_answerOfDinner, 3, (some .int))
theorem imX6_answerOfDinner : MIV mX6_answerOfDinner 1 := ⟨mU 453 (by decide +kernel) rfl, mU 9 (by decide +kernel) rfl, mU 58 (by decide +kernel) rfl, mU 454 (by decide +kernel) rfl, ⟨by decide +kernel, by decide +kernel, by decide +kernel⟩, by decide +kernel, by decide +kernel⟩
abbrev mX6_ask : MD := (yX6_ask, cX6_ask, 4, (some .int))
theorem imX6_ask : MIV mX6_ask 3 := ⟨mU 456 (by decide +kernel) rfl, mU 457 (by decide +kernel) rfl, mU 58 (by decide +kernel) rfl, mU 458 (by decide +kernel) rfl, ⟨by decide +kernel, by decide +kernel, by decide +kernel⟩, by decide +kernel, by decide +kernel⟩
abbrev mX1_planForDish : MD := (yX1_planForDish, cX1_planForDish, 5, none)
theorem imX1_planForDish : MIV mX1_planForDish 3 := ⟨mU 460 (by decide +kernel) rfl, mU 461 (by decide +kernel) rfl, mU 61 (by decide +kernel) rfl, mU 462 (by decide +kernel) rfl, ⟨by decide +kernel, by decide +kernel, by decide +kernel⟩, by decide +kernel, by decide +kernel⟩
abbrev mX1_weigh : MD := (yX1_weigh, cX1_weigh, 4, none)
theorem imX1_weigh : MIV mX1_weigh 2 := ⟨mU 465 (by decide +kernel) rfl, mU 10 (by decide +kernel) rfl, mU 61 (by decide +kernel) rfl, mU 466 (by decide +kernel) rfl, ⟨by decide +kernel, by decide +kernel, by decide +kernel⟩, by decide +kernel, by decide +kernel⟩
abbrev mX4_isBorder : MD := (yX4_isBorder, cX4_isBorder, 4, (some .boolean))
theorem imX4_isBorder : MIV mX4_isBorder 1 := ⟨mU 469 (by decide +kernel) rfl, mU 470 (by decide +kernel) rfl, mU 63 (by decide +kernel) rfl, mU 471 (by decide +kernel) rfl, ⟨by decide +kernel, by decide +kernel, by decide +kernel⟩, by decide +kernel, by decide +kernel⟩
abbrev mX1_spread : MD := (yX1_spread, cX1_spread, 4, none)
theorem imX1_spread : MIV mX1_spread 1 := ⟨mU 476 (by decide +kernel) rfl, mU 11 (by decide +kernel) rfl, mU 61 (by decide +kernel) rfl, mU 477 (by decide +kernel) rfl, ⟨by decide +kernel, by decide +kernel, by decide +kernel⟩, by decide +kernel, by decide +kernel⟩
abbrev mX1_sweepOnce : MD := (yX1_sweepOnce, cX1_sweepOnce, 6, (some .boolean))
theorem imX1_sweepOnce : MIV mX1_sweepOnce 1 := ⟨mU 480 (by decide +kernel) rfl, mU 12 (by decide +kernel) rfl, mU 61 (by decide +kernel) rfl, mU 481 (by decide +kernel) rfl, ⟨by decide +kernel, by decide +kernel, by decide +kernel⟩, by decide +kernel, by decide +kernel⟩
abbrev mX1_leftBy : MD := (yX1_leftBy, cX1_leftBy, 5, (some .int))
theorem imX1_leftBy : MIV mX1_leftBy 3 := ⟨mU 484 (by decide +kernel) rfl, mU 13 (by decide +kernel) rfl, mU 61 (by decide +kernel) rfl, mU 485 (by decide +kernel) rfl, ⟨by decide +kernel, by decide +kernel, by decide +kernel⟩, by decide +kernel, by decide +kernel⟩
abbrev mX1_minutes : MD := (yX1_minutes, cX1_minutes, 3, (some .int))
theorem imX1_minutes : MIV mX1_minutes 1 := ⟨mU 489 (by decide +kernel) rfl, mU 490 (by decide +kernel) rfl, mU 61 (by decide +kernel) rfl, mU 491 (by decide +kernel) rfl, ⟨by decide +kernel, by decide +kernel, by decide +kernel⟩, by decide +kernel, by decide +kernel⟩
abbrev mX1_requests : MD := (yX1_requests, cX1_requests, 3, (some .int))
theorem imX1_requests : MIV mX1_requests 1 := ⟨mU 493 (by decide +kernel) rfl, mU 494 (by decide +kernel) rfl, mU 61 (by decide +kernel) rfl, mU 495 (by decide +kernel) rfl, ⟨by decide +kernel, by decide +kernel, by decide +kernel⟩, by decide +kernel, by decide +kernel⟩
abbrev mX1_requestAt : MD := (yX1_requestAt, cX1_requestAt, 5, (some .int))
theorem imX1_requestAt : MIV mX1_requestAt 2 := ⟨mU 497 (by decide +kernel) rfl, mU 498 (by decide +kernel) rfl, mU 61 (by decide +kernel) rfl, mU 499 (by decide +kernel) rfl, ⟨by decide +kernel, by decide +kernel, by decide +kernel⟩, by decide +kernel, by decide +kernel⟩
abbrev mX1_firstBest : MD := (yX1_firstBest, cX1_firstBest, 4, (some .int))
theorem imX1_firstBest : MIV mX1_firstBest 2 := ⟨mU 503 (by decide +kernel) rfl, mU 14 (by decide +kernel) rfl, mU 61 (by decide +kernel) rfl, mU 504 (by decide +kernel) rfl, ⟨by decide +kernel, by decide +kernel, by decide +kernel⟩, by decide +kernel, by decide +kernel⟩
abbrev mX6_treaty : MD := (yX6_treaty, cX6_treaty, 2, (some .int))
theorem imX6_treaty : MIV mX6_treaty 1 := ⟨mU 506 (by decide +kernel) rfl, mU 507 (by decide +kernel) rfl, mU 58 (by decide +kernel) rfl, mU 508 (by decide +kernel) rfl, ⟨by decide +kernel, by decide +kernel, by decide +kernel⟩, by decide +kernel, by decide +kernel⟩
abbrev mX1_planForTreaty : MD := (yX1_planForTreaty, cX1_planForTreaty, 3, none)
theorem imX1_planForTreaty : MIV mX1_planForTreaty 1 := ⟨mU 510 (by decide +kernel) rfl, mU 511 (by decide +kernel) rfl, mU 61 (by decide +kernel) rfl, mU 512 (by decide +kernel) rfl, ⟨by decide +kernel, by decide +kernel, by decide +kernel⟩, by decide +kernel, by decide +kernel⟩
abbrev mX6_game : MD := (yX6_game, cX6_game, 4, (some .int))
theorem imX6_game : MIV mX6_game 3 := ⟨mU 515 (by decide +kernel) rfl, mU 516 (by decide +kernel) rfl, mU 58 (by decide +kernel) rfl, mU 517 (by decide +kernel) rfl, ⟨by decide +kernel, by decide +kernel, by decide +kernel⟩, by decide +kernel, by decide +kernel⟩
abbrev mX4_bestMargin : MD := (yX4_bestMargin, cX4_bestMargin, 6, (some .int))
theorem imX4_bestMargin : MIV mX4_bestMargin 3 := ⟨mU 520 (by decide +kernel) rfl, mU 15 (by decide +kernel) rfl, mU 63 (by decide +kernel) rfl, mU 521 (by decide +kernel) rfl, ⟨by decide +kernel, by decide +kernel, by decide +kernel⟩, by decide +kernel, by decide +kernel⟩
abbrev mX4_marginBehind : MD := (yX4_marginBehind, cX4_marginBehind, 6, (some .int))
theorem imX4_marginBehind : MIV mX4_marginBehind 4 := ⟨mU 525 (by decide +kernel) rfl, mU 16 (by decide +kernel) rfl, mU 63 (by decide +kernel) rfl, mU 526 (by decide +kernel) rfl, ⟨by decide +kernel, by decide +kernel, by decide +kernel⟩, by decide +kernel, by decide +kernel⟩
abbrev mX4_bestRequest : MD := (yX4_bestRequest, cX4_bestRequest, 7, (some .int))
theorem imX4_bestRequest : MIV mX4_bestRequest 2 := ⟨mU 530 (by decide +kernel) rfl, mU 531 (by decide +kernel) rfl, mU 63 (by decide +kernel) rfl, mU 532 (by decide +kernel) rfl, ⟨by decide +kernel, by decide +kernel, by decide +kernel⟩, by decide +kernel, by decide +kernel⟩
abbrev mX6_spilt : MD := (yX6_spilt, cX6_spilt, 2, (some .int))
theorem imX6_spilt : MIV mX6_spilt 1 := ⟨mU 534 (by decide +kernel) rfl, mU 535 (by decide +kernel) rfl, mU 58 (by decide +kernel) rfl, mU 536 (by decide +kernel) rfl, ⟨by decide +kernel, by decide +kernel, by decide +kernel⟩, by decide +kernel, by decide +kernel⟩
abbrev mX4_fewestWhoWet : MD := (yX4_fewestWhoWet, cX4_fewestWhoWet, 6, (some .int))
theorem imX4_fewestWhoWet : MIV mX4_fewestWhoWet 1 := ⟨mU 538 (by decide +kernel) rfl, mU 539 (by decide +kernel) rfl, mU 63 (by decide +kernel) rfl, mU 540 (by decide +kernel) rfl, ⟨by decide +kernel, by decide +kernel, by decide +kernel⟩, by decide +kernel, by decide +kernel⟩
abbrev mX4_wetBy : MD := (yX4_wetBy, cX4_wetBy, 4, (some .int))
theorem imX4_wetBy : MIV mX4_wetBy 1 := ⟨mU 543 (by decide +kernel) rfl, mU 17 (by decide +kernel) rfl, mU 63 (by decide +kernel) rfl, mU 544 (by decide +kernel) rfl, ⟨by decide +kernel, by decide +kernel, by decide +kernel⟩, by decide +kernel, by decide +kernel⟩
abbrev mJ9_min_7cf53 : MD := (yJ9_min_7cf53, cJ9_min_7cf53, 2, (some .int))
theorem mm_min_st : Cond.static Lib.Math.min.name ∈ lU := mU 546 (by decide +kernel) rfl
theorem mm_min_ini : Cond.initialized "java/lang/Math" ∈ lU := mU 66 (by decide +kernel) rfl
theorem mm_min_code : Cond.code Lib.Math.min.name Lib.Math.min.code 2 (some .int) ∈ lU := mU 547 (by decide +kernel) rfl
abbrev mJ6_bitCount_0f7a4 : MD := (yJ6_bitCount_0f7a4, cJ6_bitCount_0f7a4, 1, (some .int))
theorem imJ6_bitCount_0f7a4 : MIS mJ6_bitCount_0f7a4 1 := ⟨mU 549 (by decide +kernel) rfl, mU 67 (by decide +kernel) rfl, mU 550 (by decide +kernel) rfl, ⟨by decide +kernel, by decide +kernel, by decide +kernel⟩, by decide +kernel, by decide +kernel⟩
abbrev mX4_wetByAll : MD := (yX4_wetByAll, cX4_wetByAll, 4, (some .int))
theorem imX4_wetByAll : MIV mX4_wetByAll 1 := ⟨mU 556 (by decide +kernel) rfl, mU 18 (by decide +kernel) rfl, mU 63 (by decide +kernel) rfl, mU 557 (by decide +kernel) rfl, ⟨by decide +kernel, by decide +kernel, by decide +kernel⟩, by decide +kernel, by decide +kernel⟩
abbrev mX6_home : MD := (yX6_home, cX6_home, 2, (some .long))
theorem imX6_home : MIV mX6_home 1 := ⟨mU 559 (by decide +kernel) rfl, mU 560 (by decide +kernel) rfl, mU 58 (by decide +kernel) rfl, mU 561 (by decide +kernel) rfl, ⟨by decide +kernel, by decide +kernel, by decide +kernel⟩, by decide +kernel, by decide +kernel⟩
abbrev mX2_go : MD := (yX2_go, cX2_go, 6, none)
theorem imX2_go : MIV mX2_go 3 := ⟨mU 564 (by decide +kernel) rfl, mU 565 (by decide +kernel) rfl, mU 62 (by decide +kernel) rfl, mU 566 (by decide +kernel) rfl, ⟨by decide +kernel, by decide +kernel, by decide +kernel⟩, by decide +kernel, by decide +kernel⟩
abbrev mJ7_fill_d0a16 : MD := (yJ7_fill_d0a16, cJ7_fill_d0a16, 5, none)
theorem imJ7_fill_d0a16 : MIS mJ7_fill_d0a16 2 := ⟨mU 568 (by decide +kernel) rfl, mU 68 (by decide +kernel) rfl, mU 569 (by decide +kernel) rfl, ⟨by decide +kernel, by decide +kernel, by decide +kernel⟩, by decide +kernel, by decide +kernel⟩
abbrev mX2_passFrom : MD := (yX2_passFrom, cX2_passFrom, 7, none)
theorem imX2_passFrom : MIV mX2_passFrom 3 := ⟨mU 573 (by decide +kernel) rfl, mU 19 (by decide +kernel) rfl, mU 62 (by decide +kernel) rfl, mU 574 (by decide +kernel) rfl, ⟨by decide +kernel, by decide +kernel, by decide +kernel⟩, by decide +kernel, by decide +kernel⟩
abbrev mX6_reading : MD := (yX6_reading, cX6_reading, 3, (some .int))
theorem imX6_reading : MIV mX6_reading 2 := ⟨mU 582 (by decide +kernel) rfl, mU 583 (by decide +kernel) rfl, mU 58 (by decide +kernel) rfl, mU 584 (by decide +kernel) rfl, ⟨by decide +kernel, by decide +kernel, by decide +kernel⟩, by decide +kernel, by decide +kernel⟩
abbrev mX6_back : MD := (yX6_back, cX6_back, 2, (some .int))
theorem imX6_back : MIV mX6_back 1 := ⟨mU 586 (by decide +kernel) rfl, mU 587 (by decide +kernel) rfl, mU 58 (by decide +kernel) rfl, mU 588 (by decide +kernel) rfl, ⟨by decide +kernel, by decide +kernel, by decide +kernel⟩, by decide +kernel, by decide +kernel⟩
abbrev mX6_mouths : MD := (yX6_mouths, cX6_mouths, 4, (some .int))
theorem imX6_mouths : MIV mX6_mouths 1 := ⟨mU 590 (by decide +kernel) rfl, mU 591 (by decide +kernel) rfl, mU 58 (by decide +kernel) rfl, mU 592 (by decide +kernel) rfl, ⟨by decide +kernel, by decide +kernel, by decide +kernel⟩, by decide +kernel, by decide +kernel⟩
abbrev mX4_areReadingsSo : MD := (yX4_areReadingsSo, cX4_areReadingsSo, 8, (some .boolean))
theorem imX4_areReadingsSo : MIV mX4_areReadingsSo 4 := ⟨mU 594 (by decide +kernel) rfl, mU 595 (by decide +kernel) rfl, mU 63 (by decide +kernel) rfl, mU 596 (by decide +kernel) rfl, ⟨by decide +kernel, by decide +kernel, by decide +kernel⟩, by decide +kernel, by decide +kernel⟩
abbrev mX6_kinds : MD := (yX6_kinds, cX6_kinds, 4, (some .int))
theorem imX6_kinds : MIV mX6_kinds 1 := ⟨mU 598 (by decide +kernel) rfl, mU 599 (by decide +kernel) rfl, mU 58 (by decide +kernel) rfl, mU 600 (by decide +kernel) rfl, ⟨by decide +kernel, by decide +kernel, by decide +kernel⟩, by decide +kernel, by decide +kernel⟩
abbrev mX6_soups : MD := (yX6_soups, cX6_soups, 3, (some .int))
theorem imX6_soups : MIV mX6_soups 0 := ⟨mU 602 (by decide +kernel) rfl, mU 603 (by decide +kernel) rfl, mU 58 (by decide +kernel) rfl, mU 604 (by decide +kernel) rfl, ⟨by decide +kernel, by decide +kernel, by decide +kernel⟩, by decide +kernel, by decide +kernel⟩
abbrev mX6_odds : MD := (yX6_odds, cX6_odds, 10, (some .long))
theorem imX6_odds : MIV mX6_odds 4 := ⟨mU 606 (by decide +kernel) rfl, mU 607 (by decide +kernel) rfl, mU 58 (by decide +kernel) rfl, mU 608 (by decide +kernel) rfl, ⟨by decide +kernel, by decide +kernel, by decide +kernel⟩, by decide +kernel, by decide +kernel⟩
abbrev mX2_waysToOwn : MD := (yX2_waysToOwn, cX2_waysToOwn, 8, (some .long))
theorem imX2_waysToOwn : MIV mX2_waysToOwn 3 := ⟨mU 610 (by decide +kernel) rfl, mU 611 (by decide +kernel) rfl, mU 62 (by decide +kernel) rfl, mU 612 (by decide +kernel) rfl, ⟨by decide +kernel, by decide +kernel, by decide +kernel⟩, by decide +kernel, by decide +kernel⟩
abbrev mX6_sheet : MD := (yX6_sheet, cX6_sheet, 4, (some .int))
theorem imX6_sheet : MIV mX6_sheet 3 := ⟨mU 616 (by decide +kernel) rfl, mU 617 (by decide +kernel) rfl, mU 58 (by decide +kernel) rfl, mU 618 (by decide +kernel) rfl, ⟨by decide +kernel, by decide +kernel, by decide +kernel⟩, by decide +kernel, by decide +kernel⟩
abbrev mX3_renew : MD := (yX3_renew, cX3_renew, 3, none)
theorem imX3_renew : MIV mX3_renew 2 := ⟨mU 620 (by decide +kernel) rfl, mU 621 (by decide +kernel) rfl, mU 64 (by decide +kernel) rfl, mU 622 (by decide +kernel) rfl, ⟨by decide +kernel, by decide +kernel, by decide +kernel⟩, by decide +kernel, by decide +kernel⟩
abbrev mJ7_fill_53178 : MD := (yJ7_fill_53178, cJ7_fill_53178, 4, none)
theorem imJ7_fill_53178 : MIS mJ7_fill_53178 2 := ⟨mU 624 (by decide +kernel) rfl, mU 68 (by decide +kernel) rfl, mU 625 (by decide +kernel) rfl, ⟨by decide +kernel, by decide +kernel, by decide +kernel⟩, by decide +kernel, by decide +kernel⟩
abbrev mX6_lose : MD := (yX6_lose, cX6_lose, 3, (some .int))
theorem imX6_lose : MIV mX6_lose 1 := ⟨mU 627 (by decide +kernel) rfl, mU 628 (by decide +kernel) rfl, mU 58 (by decide +kernel) rfl, mU 629 (by decide +kernel) rfl, ⟨by decide +kernel, by decide +kernel, by decide +kernel⟩, by decide +kernel, by decide +kernel⟩
abbrev mX6_put : MD := (yX6_put, cX6_put, 5, (some .int))
theorem imX6_put : MIV mX6_put 3 := ⟨mU 631 (by decide +kernel) rfl, mU 632 (by decide +kernel) rfl, mU 58 (by decide +kernel) rfl, mU 633 (by decide +kernel) rfl, ⟨by decide +kernel, by decide +kernel, by decide +kernel⟩, by decide +kernel, by decide +kernel⟩
abbrev mX3_cut : MD := (yX3_cut, cX3_cut, 2, (some .int))
theorem imX3_cut : MIV mX3_cut 1 := ⟨mU 636 (by decide +kernel) rfl, mU 637 (by decide +kernel) rfl, mU 64 (by decide +kernel) rfl, mU 638 (by decide +kernel) rfl, ⟨by decide +kernel, by decide +kernel, by decide +kernel⟩, by decide +kernel, by decide +kernel⟩
abbrev mX6_cell : MD := (yX6_cell, cX6_cell, 4, (some .long))
theorem imX6_cell : MIV mX6_cell 3 := ⟨mU 640 (by decide +kernel) rfl, mU 641 (by decide +kernel) rfl, mU 58 (by decide +kernel) rfl, mU 642 (by decide +kernel) rfl, ⟨by decide +kernel, by decide +kernel, by decide +kernel⟩, by decide +kernel, by decide +kernel⟩
abbrev mX6_copy : MD := (yX6_copy, cX6_copy, 8, (some .int))
theorem imX6_copy : MIV mX6_copy 5 := ⟨mU 644 (by decide +kernel) rfl, mU 645 (by decide +kernel) rfl, mU 58 (by decide +kernel) rfl, mU 646 (by decide +kernel) rfl, ⟨by decide +kernel, by decide +kernel, by decide +kernel⟩, by decide +kernel, by decide +kernel⟩
abbrev mX6_tell : MD := (yX6_tell, cX6_tell, 2, (some .int))
theorem imX6_tell : MIV mX6_tell 1 := ⟨mU 649 (by decide +kernel) rfl, mU 650 (by decide +kernel) rfl, mU 58 (by decide +kernel) rfl, mU 651 (by decide +kernel) rfl, ⟨by decide +kernel, by decide +kernel, by decide +kernel⟩, by decide +kernel, by decide +kernel⟩
abbrev mX6_childTells : MD := (yX6_childTells, cX6_childTells, 2, (some .int))
theorem imX6_childTells : MIV mX6_childTells 1 := ⟨mU 654 (by decide +kernel) rfl, mU 20 (by decide +kernel) rfl, mU 58 (by decide +kernel) rfl, mU 655 (by decide +kernel) rfl, ⟨by decide +kernel, by decide +kernel, by decide +kernel⟩, by decide +kernel, by decide +kernel⟩
abbrev mX6_leave : MD := (yX6_leave, cX6_leave, 2, none)
theorem imX6_leave : MIV mX6_leave 1 := ⟨mU 658 (by decide +kernel) rfl, mU 21 (by decide +kernel) rfl, mU 58 (by decide +kernel) rfl, mU 659 (by decide +kernel) rfl, ⟨by decide +kernel, by decide +kernel, by decide +kernel⟩, by decide +kernel, by decide +kernel⟩
abbrev mX6_auntTells : MD := (yX6_auntTells, cX6_auntTells, 2, (some .int))
theorem imX6_auntTells : MIV mX6_auntTells 1 := ⟨mU 662 (by decide +kernel) rfl, mU 22 (by decide +kernel) rfl, mU 58 (by decide +kernel) rfl, mU 663 (by decide +kernel) rfl, ⟨by decide +kernel, by decide +kernel, by decide +kernel⟩, by decide +kernel, by decide +kernel⟩
abbrev mX6_guestTells : MD := (yX6_guestTells, cX6_guestTells, 2, (some .int))
theorem imX6_guestTells : MIV mX6_guestTells 1 := ⟨mU 666 (by decide +kernel) rfl, mU 23 (by decide +kernel) rfl, mU 58 (by decide +kernel) rfl, mU 667 (by decide +kernel) rfl, ⟨by decide +kernel, by decide +kernel, by decide +kernel⟩, by decide +kernel, by decide +kernel⟩
abbrev mX6_toast : MD := (yX6_toast, cX6_toast, 2, (some .int))
theorem imX6_toast : MIV mX6_toast 1 := ⟨mU 669 (by decide +kernel) rfl, mU 670 (by decide +kernel) rfl, mU 58 (by decide +kernel) rfl, mU 671 (by decide +kernel) rfl, ⟨by decide +kernel, by decide +kernel, by decide +kernel⟩, by decide +kernel, by decide +kernel⟩
abbrev mX6_as : MD := (yX6_as, cX6_as, 3, (some .int))
theorem imX6_as : MIV mX6_as 2 := ⟨mU 673 (by decide +kernel) rfl, mU 674 (by decide +kernel) rfl, mU 58 (by decide +kernel) rfl, mU 675 (by decide +kernel) rfl, ⟨by decide +kernel, by decide +kernel, by decide +kernel⟩, by decide +kernel, by decide +kernel⟩
abbrev mX6_trace : MD := (yX6_trace, cX6_trace, 1, (some .int))
theorem imX6_trace : MIV mX6_trace 0 := ⟨mU 677 (by decide +kernel) rfl, mU 678 (by decide +kernel) rfl, mU 58 (by decide +kernel) rfl, mU 679 (by decide +kernel) rfl, ⟨by decide +kernel, by decide +kernel, by decide +kernel⟩, by decide +kernel, by decide +kernel⟩
abbrev mX6_fault : MD := (yX6_fault, cX6_fault, 1, (some .int))
theorem imX6_fault : MIV mX6_fault 0 := ⟨mU 681 (by decide +kernel) rfl, mU 682 (by decide +kernel) rfl, mU 58 (by decide +kernel) rfl, mU 683 (by decide +kernel) rfl, ⟨by decide +kernel, by decide +kernel, by decide +kernel⟩, by decide +kernel, by decide +kernel⟩
abbrev mX6_many : MD := (yX6_many, cX6_many, 2, (some .int))
theorem imX6_many : MIV mX6_many 1 := ⟨mU 685 (by decide +kernel) rfl, mU 686 (by decide +kernel) rfl, mU 58 (by decide +kernel) rfl, mU 687 (by decide +kernel) rfl, ⟨by decide +kernel, by decide +kernel, by decide +kernel⟩, by decide +kernel, by decide +kernel⟩
abbrev mX7_init : MD := (yX7_init, cX7_init, 1, none)
abbrev mX7_table : MD := (yX7_table, cX7_table, 7, (some .int))
theorem imX7_table : MIV mX7_table 4 := ⟨mU 798 (by decide +kernel) rfl, mU 799 (by decide +kernel) rfl, mU 65 (by decide +kernel) rfl, mU 800 (by decide +kernel) rfl, ⟨by decide +kernel, by decide +kernel, by decide +kernel⟩, by decide +kernel, by decide +kernel⟩
abbrev mX7_isSheet : MD := (yX7_isSheet, cX7_isSheet, 1, (some .boolean))
theorem imX7_isSheet : MIS mX7_isSheet 1 := ⟨mU 802 (by decide +kernel) rfl, mU 65 (by decide +kernel) rfl, mU 803 (by decide +kernel) rfl, ⟨by decide +kernel, by decide +kernel, by decide +kernel⟩, by decide +kernel, by decide +kernel⟩
abbrev mX7_within : MD := (yX7_within, cX7_within, 3, (some .boolean))
theorem imX7_within : MIS mX7_within 3 := ⟨mU 805 (by decide +kernel) rfl, mU 65 (by decide +kernel) rfl, mU 806 (by decide +kernel) rfl, ⟨by decide +kernel, by decide +kernel, by decide +kernel⟩, by decide +kernel, by decide +kernel⟩
abbrev mX7_isSort : MD := (yX7_isSort, cX7_isSort, 1, (some .boolean))
theorem imX7_isSort : MIS mX7_isSort 1 := ⟨mU 808 (by decide +kernel) rfl, mU 65 (by decide +kernel) rfl, mU 809 (by decide +kernel) rfl, ⟨by decide +kernel, by decide +kernel, by decide +kernel⟩, by decide +kernel, by decide +kernel⟩
abbrev mX7_against : MD := (yX7_against, cX7_against, 5, (some .int))
theorem imX7_against : MIV mX7_against 4 := ⟨mU 812 (by decide +kernel) rfl, mU 24 (by decide +kernel) rfl, mU 65 (by decide +kernel) rfl, mU 813 (by decide +kernel) rfl, ⟨by decide +kernel, by decide +kernel, by decide +kernel⟩, by decide +kernel, by decide +kernel⟩
abbrev mX7_fails : MD := (yX7_fails, cX7_fails, 2, (some .int))
theorem imX7_fails : MIV mX7_fails 1 := ⟨mU 816 (by decide +kernel) rfl, mU 25 (by decide +kernel) rfl, mU 65 (by decide +kernel) rfl, mU 817 (by decide +kernel) rfl, ⟨by decide +kernel, by decide +kernel, by decide +kernel⟩, by decide +kernel, by decide +kernel⟩
abbrev mX7_readTable : MD := (yX7_readTable, cX7_readTable, 2, (some .boolean))
theorem imX7_readTable : MIV mX7_readTable 1 := ⟨mU 820 (by decide +kernel) rfl, mU 26 (by decide +kernel) rfl, mU 65 (by decide +kernel) rfl, mU 821 (by decide +kernel) rfl, ⟨by decide +kernel, by decide +kernel, by decide +kernel⟩, by decide +kernel, by decide +kernel⟩
abbrev mX7_isSign : MD := (yX7_isSign, cX7_isSign, 3, (some .boolean))
theorem imX7_isSign : MIV mX7_isSign 2 := ⟨mU 824 (by decide +kernel) rfl, mU 27 (by decide +kernel) rfl, mU 65 (by decide +kernel) rfl, mU 825 (by decide +kernel) rfl, ⟨by decide +kernel, by decide +kernel, by decide +kernel⟩, by decide +kernel, by decide +kernel⟩
abbrev mX7_digit : MD := (yX7_digit, cX7_digit, 3, (some .int))
theorem imX7_digit : MIV mX7_digit 2 := ⟨mU 828 (by decide +kernel) rfl, mU 28 (by decide +kernel) rfl, mU 65 (by decide +kernel) rfl, mU 829 (by decide +kernel) rfl, ⟨by decide +kernel, by decide +kernel, by decide +kernel⟩, by decide +kernel, by decide +kernel⟩
abbrev mX7_readGuest : MD := (yX7_readGuest, cX7_readGuest, 3, (some .boolean))
theorem imX7_readGuest : MIV mX7_readGuest 1 := ⟨mU 832 (by decide +kernel) rfl, mU 29 (by decide +kernel) rfl, mU 65 (by decide +kernel) rfl, mU 833 (by decide +kernel) rfl, ⟨by decide +kernel, by decide +kernel, by decide +kernel⟩, by decide +kernel, by decide +kernel⟩
abbrev mX7_readDish : MD := (yX7_readDish, cX7_readDish, 2, (some .boolean))
theorem imX7_readDish : MIV mX7_readDish 1 := ⟨mU 836 (by decide +kernel) rfl, mU 30 (by decide +kernel) rfl, mU 65 (by decide +kernel) rfl, mU 837 (by decide +kernel) rfl, ⟨by decide +kernel, by decide +kernel, by decide +kernel⟩, by decide +kernel, by decide +kernel⟩
abbrev mX7_takeTable : MD := (yX7_takeTable, cX7_takeTable, 2, none)
theorem imX7_takeTable : MIV mX7_takeTable 0 := ⟨mU 840 (by decide +kernel) rfl, mU 31 (by decide +kernel) rfl, mU 65 (by decide +kernel) rfl, mU 841 (by decide +kernel) rfl, ⟨by decide +kernel, by decide +kernel, by decide +kernel⟩, by decide +kernel, by decide +kernel⟩
abbrev mX7_ofGuest : MD := (yX7_ofGuest, cX7_ofGuest, 3, (some .int))
theorem imX7_ofGuest : MIV mX7_ofGuest 2 := ⟨mU 843 (by decide +kernel) rfl, mU 844 (by decide +kernel) rfl, mU 65 (by decide +kernel) rfl, mU 845 (by decide +kernel) rfl, ⟨by decide +kernel, by decide +kernel, by decide +kernel⟩, by decide +kernel, by decide +kernel⟩
abbrev mX7_isGuest : MD := (yX7_isGuest, cX7_isGuest, 2, (some .boolean))
theorem imX7_isGuest : MIV mX7_isGuest 1 := ⟨mU 848 (by decide +kernel) rfl, mU 32 (by decide +kernel) rfl, mU 65 (by decide +kernel) rfl, mU 849 (by decide +kernel) rfl, ⟨by decide +kernel, by decide +kernel, by decide +kernel⟩, by decide +kernel, by decide +kernel⟩
abbrev mX7_minutesOf : MD := (yX7_minutesOf, cX7_minutesOf, 3, (some .int))
theorem imX7_minutesOf : MIV mX7_minutesOf 1 := ⟨mU 852 (by decide +kernel) rfl, mU 33 (by decide +kernel) rfl, mU 65 (by decide +kernel) rfl, mU 853 (by decide +kernel) rfl, ⟨by decide +kernel, by decide +kernel, by decide +kernel⟩, by decide +kernel, by decide +kernel⟩
abbrev mX7_ofDish : MD := (yX7_ofDish, cX7_ofDish, 3, (some .int))
theorem imX7_ofDish : MIV mX7_ofDish 2 := ⟨mU 855 (by decide +kernel) rfl, mU 856 (by decide +kernel) rfl, mU 65 (by decide +kernel) rfl, mU 857 (by decide +kernel) rfl, ⟨by decide +kernel, by decide +kernel, by decide +kernel⟩, by decide +kernel, by decide +kernel⟩
abbrev mX7_isDish : MD := (yX7_isDish, cX7_isDish, 2, (some .boolean))
theorem imX7_isDish : MIV mX7_isDish 1 := ⟨mU 860 (by decide +kernel) rfl, mU 34 (by decide +kernel) rfl, mU 65 (by decide +kernel) rfl, mU 861 (by decide +kernel) rfl, ⟨by decide +kernel, by decide +kernel, by decide +kernel⟩, by decide +kernel, by decide +kernel⟩
abbrev mX7_whoseBy : MD := (yX7_whoseBy, cX7_whoseBy, 6, (some .int))
theorem imX7_whoseBy : MIV mX7_whoseBy 3 := ⟨mU 864 (by decide +kernel) rfl, mU 35 (by decide +kernel) rfl, mU 65 (by decide +kernel) rfl, mU 865 (by decide +kernel) rfl, ⟨by decide +kernel, by decide +kernel, by decide +kernel⟩, by decide +kernel, by decide +kernel⟩
abbrev mX7_whose : MD := (yX7_whose, cX7_whose, 2, (some .int))
theorem imX7_whose : MIV mX7_whose 1 := ⟨mU 867 (by decide +kernel) rfl, mU 868 (by decide +kernel) rfl, mU 65 (by decide +kernel) rfl, mU 869 (by decide +kernel) rfl, ⟨by decide +kernel, by decide +kernel, by decide +kernel⟩, by decide +kernel, by decide +kernel⟩
abbrev mX7_land : MD := (yX7_land, cX7_land, 2, (some .int))
theorem imX7_land : MIV mX7_land 1 := ⟨mU 871 (by decide +kernel) rfl, mU 872 (by decide +kernel) rfl, mU 65 (by decide +kernel) rfl, mU 873 (by decide +kernel) rfl, ⟨by decide +kernel, by decide +kernel, by decide +kernel⟩, by decide +kernel, by decide +kernel⟩
abbrev mX7_isCountry : MD := (yX7_isCountry, cX7_isCountry, 1, (some .boolean))
theorem imX7_isCountry : MIS mX7_isCountry 1 := ⟨mU 875 (by decide +kernel) rfl, mU 65 (by decide +kernel) rfl, mU 876 (by decide +kernel) rfl, ⟨by decide +kernel, by decide +kernel, by decide +kernel⟩, by decide +kernel, by decide +kernel⟩
abbrev mX7_landBy : MD := (yX7_landBy, cX7_landBy, 6, (some .int))
theorem imX7_landBy : MIV mX7_landBy 3 := ⟨mU 879 (by decide +kernel) rfl, mU 36 (by decide +kernel) rfl, mU 65 (by decide +kernel) rfl, mU 880 (by decide +kernel) rfl, ⟨by decide +kernel, by decide +kernel, by decide +kernel⟩, by decide +kernel, by decide +kernel⟩
abbrev mX7_chew : MD := (yX7_chew, cX7_chew, 4, (some .int))
theorem imX7_chew : MIV mX7_chew 2 := ⟨mU 882 (by decide +kernel) rfl, mU 883 (by decide +kernel) rfl, mU 65 (by decide +kernel) rfl, mU 884 (by decide +kernel) rfl, ⟨by decide +kernel, by decide +kernel, by decide +kernel⟩, by decide +kernel, by decide +kernel⟩
abbrev mX7_cook : MD := (yX7_cook, cX7_cook, 3, (some .int))
theorem imX7_cook : MIV mX7_cook 1 := ⟨mU 886 (by decide +kernel) rfl, mU 887 (by decide +kernel) rfl, mU 65 (by decide +kernel) rfl, mU 888 (by decide +kernel) rfl, ⟨by decide +kernel, by decide +kernel, by decide +kernel⟩, by decide +kernel, by decide +kernel⟩
abbrev mX7_rate : MD := (yX7_rate, cX7_rate, 4, (some .int))
theorem imX7_rate : MIV mX7_rate 2 := ⟨mU 890 (by decide +kernel) rfl, mU 891 (by decide +kernel) rfl, mU 65 (by decide +kernel) rfl, mU 892 (by decide +kernel) rfl, ⟨by decide +kernel, by decide +kernel, by decide +kernel⟩, by decide +kernel, by decide +kernel⟩
abbrev mX7_carry : MD := (yX7_carry, cX7_carry, 4, (some .int))
theorem imX7_carry : MIV mX7_carry 2 := ⟨mU 894 (by decide +kernel) rfl, mU 895 (by decide +kernel) rfl, mU 65 (by decide +kernel) rfl, mU 896 (by decide +kernel) rfl, ⟨by decide +kernel, by decide +kernel, by decide +kernel⟩, by decide +kernel, by decide +kernel⟩
abbrev mX7_pass : MD := (yX7_pass, cX7_pass, 4, (some .int))
theorem imX7_pass : MIV mX7_pass 1 := ⟨mU 898 (by decide +kernel) rfl, mU 899 (by decide +kernel) rfl, mU 65 (by decide +kernel) rfl, mU 900 (by decide +kernel) rfl, ⟨by decide +kernel, by decide +kernel, by decide +kernel⟩, by decide +kernel, by decide +kernel⟩
abbrev mX7_stateNow : MD := (yX7_stateNow, cX7_stateNow, 1, (some .int))
theorem imX7_stateNow : MIV mX7_stateNow 0 := ⟨mU 903 (by decide +kernel) rfl, mU 37 (by decide +kernel) rfl, mU 65 (by decide +kernel) rfl, mU 904 (by decide +kernel) rfl, ⟨by decide +kernel, by decide +kernel, by decide +kernel⟩, by decide +kernel, by decide +kernel⟩
abbrev mX7_behind : MD := (yX7_behind, cX7_behind, 6, (some .int))
theorem imX7_behind : MIV mX7_behind 2 := ⟨mU 907 (by decide +kernel) rfl, mU 38 (by decide +kernel) rfl, mU 65 (by decide +kernel) rfl, mU 908 (by decide +kernel) rfl, ⟨by decide +kernel, by decide +kernel, by decide +kernel⟩, by decide +kernel, by decide +kernel⟩
abbrev mX7_next : MD := (yX7_next, cX7_next, 3, (some .int))
theorem imX7_next : MIV mX7_next 2 := ⟨mU 911 (by decide +kernel) rfl, mU 39 (by decide +kernel) rfl, mU 65 (by decide +kernel) rfl, mU 912 (by decide +kernel) rfl, ⟨by decide +kernel, by decide +kernel, by decide +kernel⟩, by decide +kernel, by decide +kernel⟩
abbrev mX7_takes : MD := (yX7_takes, cX7_takes, 3, (some .int))
theorem imX7_takes : MIV mX7_takes 2 := ⟨mU 915 (by decide +kernel) rfl, mU 40 (by decide +kernel) rfl, mU 65 (by decide +kernel) rfl, mU 916 (by decide +kernel) rfl, ⟨by decide +kernel, by decide +kernel, by decide +kernel⟩, by decide +kernel, by decide +kernel⟩
abbrev mX7_dinner : MD := (yX7_dinner, cX7_dinner, 12, (some .int))
theorem imX7_dinner : MIV mX7_dinner 5 := ⟨mU 918 (by decide +kernel) rfl, mU 919 (by decide +kernel) rfl, mU 65 (by decide +kernel) rfl, mU 920 (by decide +kernel) rfl, ⟨by decide +kernel, by decide +kernel, by decide +kernel⟩, by decide +kernel, by decide +kernel⟩
abbrev mX7_tellDinner : MD := (yX7_tellDinner, cX7_tellDinner, 5, (some .int))
theorem imX7_tellDinner : MIV mX7_tellDinner 4 := ⟨mU 923 (by decide +kernel) rfl, mU 41 (by decide +kernel) rfl, mU 65 (by decide +kernel) rfl, mU 924 (by decide +kernel) rfl, ⟨by decide +kernel, by decide +kernel, by decide +kernel⟩, by decide +kernel, by decide +kernel⟩
abbrev mX7_ask : MD := (yX7_ask, cX7_ask, 5, (some .int))
theorem imX7_ask : MIV mX7_ask 3 := ⟨mU 926 (by decide +kernel) rfl, mU 927 (by decide +kernel) rfl, mU 65 (by decide +kernel) rfl, mU 928 (by decide +kernel) rfl, ⟨by decide +kernel, by decide +kernel, by decide +kernel⟩, by decide +kernel, by decide +kernel⟩
abbrev mX7_findLeft : MD := (yX7_findLeft, cX7_findLeft, 8, none)
theorem imX7_findLeft : MIV mX7_findLeft 3 := ⟨mU 931 (by decide +kernel) rfl, mU 42 (by decide +kernel) rfl, mU 65 (by decide +kernel) rfl, mU 932 (by decide +kernel) rfl, ⟨by decide +kernel, by decide +kernel, by decide +kernel⟩, by decide +kernel, by decide +kernel⟩
abbrev mX7_isState : MD := (yX7_isState, cX7_isState, 4, (some .boolean))
theorem imX7_isState : MIV mX7_isState 1 := ⟨mU 935 (by decide +kernel) rfl, mU 43 (by decide +kernel) rfl, mU 65 (by decide +kernel) rfl, mU 936 (by decide +kernel) rfl, ⟨by decide +kernel, by decide +kernel, by decide +kernel⟩, by decide +kernel, by decide +kernel⟩
abbrev mX7_isGoal : MD := (yX7_isGoal, cX7_isGoal, 6, (some .boolean))
theorem imX7_isGoal : MIV mX7_isGoal 3 := ⟨mU 939 (by decide +kernel) rfl, mU 44 (by decide +kernel) rfl, mU 65 (by decide +kernel) rfl, mU 940 (by decide +kernel) rfl, ⟨by decide +kernel, by decide +kernel, by decide +kernel⟩, by decide +kernel, by decide +kernel⟩
abbrev mX7_costOf : MD := (yX7_costOf, cX7_costOf, 4, (some .int))
theorem imX7_costOf : MIV mX7_costOf 3 := ⟨mU 944 (by decide +kernel) rfl, mU 45 (by decide +kernel) rfl, mU 65 (by decide +kernel) rfl, mU 945 (by decide +kernel) rfl, ⟨by decide +kernel, by decide +kernel, by decide +kernel⟩, by decide +kernel, by decide +kernel⟩
abbrev mX7_requestOf : MD := (yX7_requestOf, cX7_requestOf, 6, (some .int))
theorem imX7_requestOf : MIV mX7_requestOf 2 := ⟨mU 948 (by decide +kernel) rfl, mU 46 (by decide +kernel) rfl, mU 65 (by decide +kernel) rfl, mU 949 (by decide +kernel) rfl, ⟨by decide +kernel, by decide +kernel, by decide +kernel⟩, by decide +kernel, by decide +kernel⟩
abbrev mX7_firstRequest : MD := (yX7_firstRequest, cX7_firstRequest, 4, (some .int))
theorem imX7_firstRequest : MIV mX7_firstRequest 2 := ⟨mU 952 (by decide +kernel) rfl, mU 47 (by decide +kernel) rfl, mU 65 (by decide +kernel) rfl, mU 953 (by decide +kernel) rfl, ⟨by decide +kernel, by decide +kernel, by decide +kernel⟩, by decide +kernel, by decide +kernel⟩
abbrev mX7_treaty : MD := (yX7_treaty, cX7_treaty, 3, (some .int))
theorem imX7_treaty : MIV mX7_treaty 1 := ⟨mU 955 (by decide +kernel) rfl, mU 956 (by decide +kernel) rfl, mU 65 (by decide +kernel) rfl, mU 957 (by decide +kernel) rfl, ⟨by decide +kernel, by decide +kernel, by decide +kernel⟩, by decide +kernel, by decide +kernel⟩
abbrev mX7_game : MD := (yX7_game, cX7_game, 4, (some .int))
theorem imX7_game : MIV mX7_game 3 := ⟨mU 959 (by decide +kernel) rfl, mU 960 (by decide +kernel) rfl, mU 65 (by decide +kernel) rfl, mU 961 (by decide +kernel) rfl, ⟨by decide +kernel, by decide +kernel, by decide +kernel⟩, by decide +kernel, by decide +kernel⟩
abbrev mX7_findGame : MD := (yX7_findGame, cX7_findGame, 6, none)
theorem imX7_findGame : MIV mX7_findGame 2 := ⟨mU 964 (by decide +kernel) rfl, mU 48 (by decide +kernel) rfl, mU 65 (by decide +kernel) rfl, mU 965 (by decide +kernel) rfl, ⟨by decide +kernel, by decide +kernel, by decide +kernel⟩, by decide +kernel, by decide +kernel⟩
abbrev mX7_behindRow : MD := (yX7_behindRow, cX7_behindRow, 6, (some .int))
theorem imX7_behindRow : MIV mX7_behindRow 2 := ⟨mU 968 (by decide +kernel) rfl, mU 49 (by decide +kernel) rfl, mU 65 (by decide +kernel) rfl, mU 969 (by decide +kernel) rfl, ⟨by decide +kernel, by decide +kernel, by decide +kernel⟩, by decide +kernel, by decide +kernel⟩
abbrev mX7_bestOf : MD := (yX7_bestOf, cX7_bestOf, 6, (some .int))
theorem imX7_bestOf : MIV mX7_bestOf 2 := ⟨mU 972 (by decide +kernel) rfl, mU 50 (by decide +kernel) rfl, mU 65 (by decide +kernel) rfl, mU 973 (by decide +kernel) rfl, ⟨by decide +kernel, by decide +kernel, by decide +kernel⟩, by decide +kernel, by decide +kernel⟩
abbrev mX7_spilt : MD := (yX7_spilt, cX7_spilt, 6, (some .int))
theorem imX7_spilt : MIV mX7_spilt 1 := ⟨mU 975 (by decide +kernel) rfl, mU 976 (by decide +kernel) rfl, mU 65 (by decide +kernel) rfl, mU 977 (by decide +kernel) rfl, ⟨by decide +kernel, by decide +kernel, by decide +kernel⟩, by decide +kernel, by decide +kernel⟩
abbrev mX7_wetBy : MD := (yX7_wetBy, cX7_wetBy, 5, (some .int))
theorem imX7_wetBy : MIV mX7_wetBy 1 := ⟨mU 980 (by decide +kernel) rfl, mU 51 (by decide +kernel) rfl, mU 65 (by decide +kernel) rfl, mU 981 (by decide +kernel) rfl, ⟨by decide +kernel, by decide +kernel, by decide +kernel⟩, by decide +kernel, by decide +kernel⟩
abbrev mX7_size : MD := (yX7_size, cX7_size, 3, (some .int))
theorem imX7_size : MIS mX7_size 1 := ⟨mU 983 (by decide +kernel) rfl, mU 65 (by decide +kernel) rfl, mU 984 (by decide +kernel) rfl, ⟨by decide +kernel, by decide +kernel, by decide +kernel⟩, by decide +kernel, by decide +kernel⟩
abbrev mX7_home : MD := (yX7_home, cX7_home, 3, (some .long))
theorem imX7_home : MIV mX7_home 1 := ⟨mU 986 (by decide +kernel) rfl, mU 987 (by decide +kernel) rfl, mU 65 (by decide +kernel) rfl, mU 988 (by decide +kernel) rfl, ⟨by decide +kernel, by decide +kernel, by decide +kernel⟩, by decide +kernel, by decide +kernel⟩
abbrev mX7_beginAbout : MD := (yX7_beginAbout, cX7_beginAbout, 2, none)
theorem imX7_beginAbout : MIV mX7_beginAbout 0 := ⟨mU 992 (by decide +kernel) rfl, mU 52 (by decide +kernel) rfl, mU 65 (by decide +kernel) rfl, mU 993 (by decide +kernel) rfl, ⟨by decide +kernel, by decide +kernel, by decide +kernel⟩, by decide +kernel, by decide +kernel⟩
abbrev mX7_passAbout : MD := (yX7_passAbout, cX7_passAbout, 4, none)
theorem imX7_passAbout : MIV mX7_passAbout 1 := ⟨mU 996 (by decide +kernel) rfl, mU 53 (by decide +kernel) rfl, mU 65 (by decide +kernel) rfl, mU 997 (by decide +kernel) rfl, ⟨by decide +kernel, by decide +kernel, by decide +kernel⟩, by decide +kernel, by decide +kernel⟩
abbrev mX7_reading : MD := (yX7_reading, cX7_reading, 3, (some .int))
theorem imX7_reading : MIV mX7_reading 2 := ⟨mU 999 (by decide +kernel) rfl, mU 1000 (by decide +kernel) rfl, mU 65 (by decide +kernel) rfl, mU 1001 (by decide +kernel) rfl, ⟨by decide +kernel, by decide +kernel, by decide +kernel⟩, by decide +kernel, by decide +kernel⟩
abbrev mX7_back : MD := (yX7_back, cX7_back, 2, (some .int))
theorem imX7_back : MIV mX7_back 1 := ⟨mU 1003 (by decide +kernel) rfl, mU 1004 (by decide +kernel) rfl, mU 65 (by decide +kernel) rfl, mU 1005 (by decide +kernel) rfl, ⟨by decide +kernel, by decide +kernel, by decide +kernel⟩, by decide +kernel, by decide +kernel⟩
abbrev mX7_mouths : MD := (yX7_mouths, cX7_mouths, 5, (some .int))
theorem imX7_mouths : MIV mX7_mouths 1 := ⟨mU 1007 (by decide +kernel) rfl, mU 1008 (by decide +kernel) rfl, mU 65 (by decide +kernel) rfl, mU 1009 (by decide +kernel) rfl, ⟨by decide +kernel, by decide +kernel, by decide +kernel⟩, by decide +kernel, by decide +kernel⟩
abbrev mX7_areSo : MD := (yX7_areSo, cX7_areSo, 2, (some .boolean))
theorem imX7_areSo : MIV mX7_areSo 0 := ⟨mU 1012 (by decide +kernel) rfl, mU 54 (by decide +kernel) rfl, mU 65 (by decide +kernel) rfl, mU 1013 (by decide +kernel) rfl, ⟨by decide +kernel, by decide +kernel, by decide +kernel⟩, by decide +kernel, by decide +kernel⟩
abbrev mX7_kinds : MD := (yX7_kinds, cX7_kinds, 5, (some .int))
theorem imX7_kinds : MIV mX7_kinds 1 := ⟨mU 1015 (by decide +kernel) rfl, mU 1016 (by decide +kernel) rfl, mU 65 (by decide +kernel) rfl, mU 1017 (by decide +kernel) rfl, ⟨by decide +kernel, by decide +kernel, by decide +kernel⟩, by decide +kernel, by decide +kernel⟩
abbrev mX7_soups : MD := (yX7_soups, cX7_soups, 4, (some .int))
theorem imX7_soups : MIV mX7_soups 0 := ⟨mU 1019 (by decide +kernel) rfl, mU 1020 (by decide +kernel) rfl, mU 65 (by decide +kernel) rfl, mU 1021 (by decide +kernel) rfl, ⟨by decide +kernel, by decide +kernel, by decide +kernel⟩, by decide +kernel, by decide +kernel⟩
abbrev mX7_odds : MD := (yX7_odds, cX7_odds, 8, (some .long))
theorem imX7_odds : MIV mX7_odds 4 := ⟨mU 1023 (by decide +kernel) rfl, mU 1024 (by decide +kernel) rfl, mU 65 (by decide +kernel) rfl, mU 1025 (by decide +kernel) rfl, ⟨by decide +kernel, by decide +kernel, by decide +kernel⟩, by decide +kernel, by decide +kernel⟩
abbrev mX7_inLeastTerms : MD := (yX7_inLeastTerms, cX7_inLeastTerms, 11, (some .long))
theorem imX7_inLeastTerms : MIS mX7_inLeastTerms 3 := ⟨mU 1027 (by decide +kernel) rfl, mU 65 (by decide +kernel) rfl, mU 1028 (by decide +kernel) rfl, ⟨by decide +kernel, by decide +kernel, by decide +kernel⟩, by decide +kernel, by decide +kernel⟩
abbrev mX7_sheet : MD := (yX7_sheet, cX7_sheet, 5, (some .int))
theorem imX7_sheet : MIV mX7_sheet 3 := ⟨mU 1030 (by decide +kernel) rfl, mU 1031 (by decide +kernel) rfl, mU 65 (by decide +kernel) rfl, mU 1032 (by decide +kernel) rfl, ⟨by decide +kernel, by decide +kernel, by decide +kernel⟩, by decide +kernel, by decide +kernel⟩
abbrev mX7_lose : MD := (yX7_lose, cX7_lose, 3, (some .int))
theorem imX7_lose : MIV mX7_lose 1 := ⟨mU 1034 (by decide +kernel) rfl, mU 1035 (by decide +kernel) rfl, mU 65 (by decide +kernel) rfl, mU 1036 (by decide +kernel) rfl, ⟨by decide +kernel, by decide +kernel, by decide +kernel⟩, by decide +kernel, by decide +kernel⟩
abbrev mX7_put : MD := (yX7_put, cX7_put, 4, (some .int))
theorem imX7_put : MIV mX7_put 3 := ⟨mU 1038 (by decide +kernel) rfl, mU 1039 (by decide +kernel) rfl, mU 65 (by decide +kernel) rfl, mU 1040 (by decide +kernel) rfl, ⟨by decide +kernel, by decide +kernel, by decide +kernel⟩, by decide +kernel, by decide +kernel⟩
abbrev mX7_cell : MD := (yX7_cell, cX7_cell, 4, (some .long))
theorem imX7_cell : MIV mX7_cell 3 := ⟨mU 1042 (by decide +kernel) rfl, mU 1043 (by decide +kernel) rfl, mU 65 (by decide +kernel) rfl, mU 1044 (by decide +kernel) rfl, ⟨by decide +kernel, by decide +kernel, by decide +kernel⟩, by decide +kernel, by decide +kernel⟩
abbrev mX7_lost : MD := (yX7_lost, cX7_lost, 2, (some .long))
theorem imX7_lost : MIV mX7_lost 1 := ⟨mU 1047 (by decide +kernel) rfl, mU 55 (by decide +kernel) rfl, mU 65 (by decide +kernel) rfl, mU 1048 (by decide +kernel) rfl, ⟨by decide +kernel, by decide +kernel, by decide +kernel⟩, by decide +kernel, by decide +kernel⟩
abbrev mX7_copy : MD := (yX7_copy, cX7_copy, 10, (some .int))
theorem imX7_copy : MIV mX7_copy 5 := ⟨mU 1050 (by decide +kernel) rfl, mU 1051 (by decide +kernel) rfl, mU 65 (by decide +kernel) rfl, mU 1052 (by decide +kernel) rfl, ⟨by decide +kernel, by decide +kernel, by decide +kernel⟩, by decide +kernel, by decide +kernel⟩
abbrev mX7_tell : MD := (yX7_tell, cX7_tell, 3, (some .int))
theorem imX7_tell : MIV mX7_tell 1 := ⟨mU 1054 (by decide +kernel) rfl, mU 1055 (by decide +kernel) rfl, mU 65 (by decide +kernel) rfl, mU 1056 (by decide +kernel) rfl, ⟨by decide +kernel, by decide +kernel, by decide +kernel⟩, by decide +kernel, by decide +kernel⟩
abbrev mX7_begins : MD := (yX7_begins, cX7_begins, 2, none)
theorem imX7_begins : MIV mX7_begins 1 := ⟨mU 1059 (by decide +kernel) rfl, mU 56 (by decide +kernel) rfl, mU 65 (by decide +kernel) rfl, mU 1060 (by decide +kernel) rfl, ⟨by decide +kernel, by decide +kernel, by decide +kernel⟩, by decide +kernel, by decide +kernel⟩
abbrev mX7_toast : MD := (yX7_toast, cX7_toast, 2, (some .int))
theorem imX7_toast : MIV mX7_toast 1 := ⟨mU 1062 (by decide +kernel) rfl, mU 1063 (by decide +kernel) rfl, mU 65 (by decide +kernel) rfl, mU 1064 (by decide +kernel) rfl, ⟨by decide +kernel, by decide +kernel, by decide +kernel⟩, by decide +kernel, by decide +kernel⟩
abbrev mX7_as : MD := (yX7_as, cX7_as, 3, (some .int))
theorem imX7_as : MIV mX7_as 2 := ⟨mU 1066 (by decide +kernel) rfl, mU 1067 (by decide +kernel) rfl, mU 65 (by decide +kernel) rfl, mU 1068 (by decide +kernel) rfl, ⟨by decide +kernel, by decide +kernel, by decide +kernel⟩, by decide +kernel, by decide +kernel⟩
abbrev mX7_trace : MD := (yX7_trace, cX7_trace, 1, (some .int))
theorem imX7_trace : MIV mX7_trace 0 := ⟨mU 1070 (by decide +kernel) rfl, mU 1071 (by decide +kernel) rfl, mU 65 (by decide +kernel) rfl, mU 1072 (by decide +kernel) rfl, ⟨by decide +kernel, by decide +kernel, by decide +kernel⟩, by decide +kernel, by decide +kernel⟩
abbrev mX7_fault : MD := (yX7_fault, cX7_fault, 1, (some .int))
theorem imX7_fault : MIV mX7_fault 0 := ⟨mU 1074 (by decide +kernel) rfl, mU 1075 (by decide +kernel) rfl, mU 65 (by decide +kernel) rfl, mU 1076 (by decide +kernel) rfl, ⟨by decide +kernel, by decide +kernel, by decide +kernel⟩, by decide +kernel, by decide +kernel⟩
abbrev mX7_many : MD := (yX7_many, cX7_many, 2, (some .int))
theorem imX7_many : MIV mX7_many 1 := ⟨mU 1078 (by decide +kernel) rfl, mU 1079 (by decide +kernel) rfl, mU 65 (by decide +kernel) rfl, mU 1080 (by decide +kernel) rfl, ⟨by decide +kernel, by decide +kernel, by decide +kernel⟩, by decide +kernel, by decide +kernel⟩
theorem ml_L_9 : Cond.methodLink RL 9 yX6_init ∈ lU := mU 72 (by decide +kernel) rfl
theorem ml_X6_5 : Cond.methodLink RX6 5 ⟨"java/lang/Object", "<init>", "()V"⟩ ∈ lU := mU 75 (by decide +kernel) rfl
theorem ml_X6_19 : Cond.methodLinkNest RX6 19 yX5_init RX6 ∈ nwL := mN 82 (by decide +kernel) rfl
theorem ml_X5_3 : Cond.methodLink RX5 3 ⟨"java/lang/Object", "<init>", "()V"⟩ ∈ lU := mU 85 (by decide +kernel) rfl
theorem fl_X5_9 : Cond.fieldLink RX5 9 "SaltBorder$TextReader" "codes" "[I" ∈ lU := mU 86 (by decide +kernel) rfl
theorem fl_X5_15 : Cond.fieldLink RX5 15 "SaltBorder$TextReader" "from" "I" ∈ lU := mU 87 (by decide +kernel) rfl
theorem fl_X5_19 : Cond.fieldLink RX5 19 "SaltBorder$TextReader" "count" "I" ∈ lU := mU 88 (by decide +kernel) rfl
theorem fl_X5_22 : Cond.fieldLink RX5 22 "SaltBorder$TextReader" "at" "I" ∈ lU := mU 89 (by decide +kernel) rfl
theorem fl_X6_88 : Cond.fieldLinkNest RX6 88 "SaltBorder$TextReader" "at" "I" RX6 ∈ nwL := mN 90 (by decide +kernel) rfl
theorem ml_X6_26 : Cond.methodLinkNest RX6 26 yX0_init RX6 ∈ nwL := mN 103 (by decide +kernel) rfl
theorem ml_X0_3 : Cond.methodLink RX0 3 ⟨"java/lang/Object", "<init>", "()V"⟩ ∈ lU := mU 106 (by decide +kernel) rfl
theorem fl_X0_15 : Cond.fieldLink RX0 15 "SaltBorder$Dinner" "border" "I" ∈ lU := mU 107 (by decide +kernel) rfl
theorem fl_X6_160 : Cond.fieldLink RX6 160 "SaltBorder$Dinner" "border" "I" ∈ lU := mU 108 (by decide +kernel) rfl
theorem fl_X0_18 : Cond.fieldLink RX0 18 "SaltBorder$Dinner" "minutes" "I" ∈ lU := mU 109 (by decide +kernel) rfl
theorem fl_X6_157 : Cond.fieldLink RX6 157 "SaltBorder$Dinner" "minutes" "I" ∈ lU := mU 110 (by decide +kernel) rfl
theorem fl_X0_21 : Cond.fieldLink RX0 21 "SaltBorder$Dinner" "firstWrong" "I" ∈ lU := mU 111 (by decide +kernel) rfl
theorem fl_X6_154 : Cond.fieldLink RX6 154 "SaltBorder$Dinner" "firstWrong" "I" ∈ lU := mU 112 (by decide +kernel) rfl
theorem ml_X6_33 : Cond.methodLinkNest RX6 33 yX1_init RX6 ∈ nwL := mN 122 (by decide +kernel) rfl
theorem ml_X1_3 : Cond.methodLink RX1 3 ⟨"java/lang/Object", "<init>", "()V"⟩ ∈ lU := mU 125 (by decide +kernel) rfl
theorem fl_X1_9 : Cond.fieldLink RX1 9 "SaltBorder$Planner" "left" "[I" ∈ lU := mU 126 (by decide +kernel) rfl
theorem fl_X1_15 : Cond.fieldLink RX1 15 "SaltBorder$Planner" "weights" "[I" ∈ lU := mU 127 (by decide +kernel) rfl
theorem ml_X6_40 : Cond.methodLinkNest RX6 40 yX2_init RX6 ∈ nwL := mN 135 (by decide +kernel) rfl
theorem ml_X2_3 : Cond.methodLink RX2 3 ⟨"java/lang/Object", "<init>", "()V"⟩ ∈ lU := mU 138 (by decide +kernel) rfl
theorem fl_X2_9 : Cond.fieldLink RX2 9 "SaltBorder$SaltWalk" "ways" "[J" ∈ lU := mU 139 (by decide +kernel) rfl
theorem fl_X6_200 : Cond.fieldLink RX6 200 "SaltBorder$SaltWalk" "ways" "[J" ∈ lU := mU 140 (by decide +kernel) rfl
theorem fl_X2_15 : Cond.fieldLink RX2 15 "SaltBorder$SaltWalk" "waysThen" "[J" ∈ lU := mU 141 (by decide +kernel) rfl
theorem ml_X6_47 : Cond.methodLinkNest RX6 47 yX4_init RX6 ∈ nwL := mN 150 (by decide +kernel) rfl
theorem ml_X4_3 : Cond.methodLink RX4 3 ⟨"java/lang/Object", "<init>", "()V"⟩ ∈ lU := mU 153 (by decide +kernel) rfl
theorem fl_X4_9 : Cond.fieldLink RX4 9 "SaltBorder$Table" "kinds" "[I" ∈ lU := mU 154 (by decide +kernel) rfl
theorem fl_X6_94 : Cond.fieldLink RX6 94 "SaltBorder$Table" "kinds" "[I" ∈ lU := mU 155 (by decide +kernel) rfl
theorem fl_X4_15 : Cond.fieldLink RX4 15 "SaltBorder$Table" "mouths" "[I" ∈ lU := mU 156 (by decide +kernel) rfl
theorem fl_X6_97 : Cond.fieldLink RX6 97 "SaltBorder$Table" "mouths" "[I" ∈ lU := mU 157 (by decide +kernel) rfl
theorem fl_X4_18 : Cond.fieldLink RX4 18 "SaltBorder$Table" "arms" "[I" ∈ lU := mU 158 (by decide +kernel) rfl
theorem fl_X6_100 : Cond.fieldLink RX6 100 "SaltBorder$Table" "arms" "[I" ∈ lU := mU 159 (by decide +kernel) rfl
theorem fl_X4_21 : Cond.fieldLink RX4 21 "SaltBorder$Table" "wet" "[I" ∈ lU := mU 160 (by decide +kernel) rfl
theorem fl_X4_24 : Cond.fieldLink RX4 24 "SaltBorder$Table" "dishSeats" "[I" ∈ lU := mU 161 (by decide +kernel) rfl
theorem fl_X6_109 : Cond.fieldLink RX6 109 "SaltBorder$Table" "dishSeats" "[I" ∈ lU := mU 162 (by decide +kernel) rfl
theorem fl_X4_27 : Cond.fieldLink RX4 27 "SaltBorder$Table" "worths" "[I" ∈ lU := mU 163 (by decide +kernel) rfl
theorem fl_X6_112 : Cond.fieldLink RX6 112 "SaltBorder$Table" "worths" "[I" ∈ lU := mU 164 (by decide +kernel) rfl
theorem fl_X4_30 : Cond.fieldLink RX4 30 "SaltBorder$Table" "readGuests" "[I" ∈ lU := mU 165 (by decide +kernel) rfl
theorem fl_X6_207 : Cond.fieldLink RX6 207 "SaltBorder$Table" "readGuests" "[I" ∈ lU := mU 166 (by decide +kernel) rfl
theorem fl_X4_33 : Cond.fieldLink RX4 33 "SaltBorder$Table" "readMinutes" "[I" ∈ lU := mU 167 (by decide +kernel) rfl
theorem fl_X6_210 : Cond.fieldLink RX6 210 "SaltBorder$Table" "readMinutes" "[I" ∈ lU := mU 168 (by decide +kernel) rfl
theorem fl_X4_36 : Cond.fieldLink RX4 36 "SaltBorder$Table" "guests" "I" ∈ lU := mU 169 (by decide +kernel) rfl
theorem fl_X2_34 : Cond.fieldLink RX2 34 "SaltBorder$Table" "guests" "I" ∈ lU := mU 170 (by decide +kernel) rfl
theorem fl_X6_91 : Cond.fieldLink RX6 91 "SaltBorder$Table" "guests" "I" ∈ lU := mU 171 (by decide +kernel) rfl
theorem fl_X1_40 : Cond.fieldLink RX1 40 "SaltBorder$Table" "guests" "I" ∈ lU := mU 172 (by decide +kernel) rfl
theorem fl_X6_106 : Cond.fieldLink RX6 106 "SaltBorder$Table" "dishes" "I" ∈ lU := mU 173 (by decide +kernel) rfl
theorem fl_X4_97 : Cond.fieldLink RX4 97 "SaltBorder$Table" "dishes" "I" ∈ lU := mU 174 (by decide +kernel) rfl
theorem fl_X4_70 : Cond.fieldLink RX4 70 "SaltBorder$Table" "soup" "I" ∈ lU := mU 175 (by decide +kernel) rfl
theorem fl_X6_132 : Cond.fieldLink RX6 132 "SaltBorder$Table" "soup" "I" ∈ lU := mU 176 (by decide +kernel) rfl
theorem fl_X0_9 : Cond.fieldLink RX0 9 "SaltBorder$Table" "border" "I" ∈ lU := mU 177 (by decide +kernel) rfl
theorem fl_X2_24 : Cond.fieldLink RX2 24 "SaltBorder$Table" "border" "I" ∈ lU := mU 178 (by decide +kernel) rfl
theorem fl_X6_115 : Cond.fieldLink RX6 115 "SaltBorder$Table" "border" "I" ∈ lU := mU 179 (by decide +kernel) rfl
theorem fl_X4_91 : Cond.fieldLink RX4 91 "SaltBorder$Table" "border" "I" ∈ lU := mU 180 (by decide +kernel) rfl
theorem fl_X1_62 : Cond.fieldLink RX1 62 "SaltBorder$Table" "border" "I" ∈ lU := mU 181 (by decide +kernel) rfl
theorem fl_X4_40 : Cond.fieldLink RX4 40 "SaltBorder$Table" "readings" "I" ∈ lU := mU 182 (by decide +kernel) rfl
theorem fl_X6_204 : Cond.fieldLink RX6 204 "SaltBorder$Table" "readings" "I" ∈ lU := mU 183 (by decide +kernel) rfl
theorem ml_X6_55 : Cond.methodLinkNest RX6 55 yX3_init RX6 ∈ nwL := mN 212 (by decide +kernel) rfl
theorem ml_X3_3 : Cond.methodLink RX3 3 ⟨"java/lang/Object", "<init>", "()V"⟩ ∈ lU := mU 215 (by decide +kernel) rfl
theorem fl_X3_9 : Cond.fieldLink RX3 9 "SaltBorder$Sheet" "cells" "[I" ∈ lU := mU 216 (by decide +kernel) rfl
theorem fl_X6_76 : Cond.fieldLink RX6 76 "SaltBorder$Sheet" "cells" "[I" ∈ lU := mU 217 (by decide +kernel) rfl
theorem fl_X3_15 : Cond.fieldLink RX3 15 "SaltBorder$Sheet" "isThere" "Z" ∈ lU := mU 218 (by decide +kernel) rfl
theorem fl_X6_227 : Cond.fieldLink RX6 227 "SaltBorder$Sheet" "isThere" "Z" ∈ lU := mU 219 (by decide +kernel) rfl
theorem fl_X3_19 : Cond.fieldLink RX3 19 "SaltBorder$Sheet" "lane" "I" ∈ lU := mU 220 (by decide +kernel) rfl
theorem fl_X6_237 : Cond.fieldLink RX6 237 "SaltBorder$Sheet" "lane" "I" ∈ lU := mU 221 (by decide +kernel) rfl
theorem fl_X3_23 : Cond.fieldLink RX3 23 "SaltBorder$Sheet" "length" "I" ∈ lU := mU 222 (by decide +kernel) rfl
theorem fl_X6_13 : Cond.fieldLink RX6 13 "SaltBorder" "sheets" "[LSaltBorder$Sheet;" ∈ lU := mU 232 (by decide +kernel) rfl
theorem fl_X6_20 : Cond.fieldLink RX6 20 "SaltBorder" "reader" "LSaltBorder$TextReader;" ∈ lU := mU 233 (by decide +kernel) rfl
theorem fl_X6_27 : Cond.fieldLink RX6 27 "SaltBorder" "served" "LSaltBorder$Dinner;" ∈ lU := mU 234 (by decide +kernel) rfl
theorem fl_X6_34 : Cond.fieldLink RX6 34 "SaltBorder" "planner" "LSaltBorder$Planner;" ∈ lU := mU 235 (by decide +kernel) rfl
theorem fl_X6_41 : Cond.fieldLink RX6 41 "SaltBorder" "walk" "LSaltBorder$SaltWalk;" ∈ lU := mU 236 (by decide +kernel) rfl
theorem fl_X6_48 : Cond.fieldLink RX6 48 "SaltBorder" "now" "LSaltBorder$Table;" ∈ lU := mU 237 (by decide +kernel) rfl
theorem fl_X6_52 : Cond.fieldLink RX6 52 "SaltBorder" "spare" "LSaltBorder$Table;" ∈ lU := mU 238 (by decide +kernel) rfl
theorem fl_X6_259 : Cond.fieldLink RX6 259 "SaltBorder" "traced" "I" ∈ lU := mU 239 (by decide +kernel) rfl
theorem fl_X6_56 : Cond.fieldLink RX6 56 "SaltBorder" "lastFault" "I" ∈ lU := mU 240 (by decide +kernel) rfl
theorem ml_L_13 : Cond.methodLink RL 13 yX6_table ∈ lU := mU 260 (by decide +kernel) rfl
theorem ml_X6_60 : Cond.methodLink RX6 60 yX6_isSheet ∈ lU := mU 264 (by decide +kernel) rfl
theorem ml_X6_64 : Cond.methodLink RX6 64 yX6_isBelow ∈ lU := mU 267 (by decide +kernel) rfl
theorem ml_X6_68 : Cond.methodLink RX6 68 yX3_faultOfCells ∈ lU := mU 270 (by decide +kernel) rfl
theorem ml_X3_32 : Cond.methodLink RX3 32 yX3_has ∈ lU := mU 274 (by decide +kernel) rfl
theorem ml_X6_72 : Cond.methodLink RX6 72 yX6_broken ∈ lU := mU 278 (by decide +kernel) rfl
theorem ml_X6_80 : Cond.methodLink RX6 80 yX5_open ∈ lU := mU 282 (by decide +kernel) rfl
theorem ml_X6_84 : Cond.methodLink RX6 84 yX4_lay ∈ lU := mU 286 (by decide +kernel) rfl
theorem ml_X4_43 : Cond.methodLink RX4 43 yX5_take ∈ lU := mU 290 (by decide +kernel) rfl
theorem ml_X5_25 : Cond.methodLink RX5 25 yX5_isAt ∈ lU := mU 294 (by decide +kernel) rfl
theorem ml_X4_49 : Cond.methodLink RX4 49 yX4_laySoup ∈ lU := mU 298 (by decide +kernel) rfl
theorem ml_X4_66 : Cond.methodLink RX4 66 yX5_takeDigit ∈ lU := mU 302 (by decide +kernel) rfl
theorem ml_X5_29 : Cond.methodLink RX5 29 yX5_takeDigitBut ∈ lU := mU 306 (by decide +kernel) rfl
theorem ml_X5_33 : Cond.methodLink RX5 33 yX5_isAtEnd ∈ lU := mU 310 (by decide +kernel) rfl
theorem ml_X5_37 : Cond.methodLinkNest RX5 37 yX6_isBelow RX6 ∈ nwL := mN 314 (by decide +kernel) rfl
theorem ml_X4_53 : Cond.methodLink RX4 53 yX4_layGuests ∈ lU := mU 315 (by decide +kernel) rfl
theorem ml_X4_73 : Cond.methodLink RX4 73 yX5_isAt ∈ lU := mU 319 (by decide +kernel) rfl
theorem ml_X4_76 : Cond.methodLink RX4 76 yX4_layGuest ∈ lU := mU 320 (by decide +kernel) rfl
theorem ml_X4_80 : Cond.methodLink RX4 80 yX5_takeKind ∈ lU := mU 324 (by decide +kernel) rfl
theorem ml_X5_41 : Cond.methodLink RX5 41 yX5_take ∈ lU := mU 328 (by decide +kernel) rfl
theorem ml_X4_56 : Cond.methodLink RX4 56 yX4_layBorder ∈ lU := mU 329 (by decide +kernel) rfl
theorem ml_X4_84 : Cond.methodLink RX4 84 yX5_takeDigitBut ∈ lU := mU 333 (by decide +kernel) rfl
theorem ml_X4_88 : Cond.methodLinkNest RX4 88 yX6_borderOf RX6 ∈ nwL := mN 334 (by decide +kernel) rfl
theorem ml_X4_59 : Cond.methodLink RX4 59 yX4_layDishes ∈ lU := mU 337 (by decide +kernel) rfl
theorem ml_X4_62 : Cond.methodLink RX4 62 yX5_isAtEnd ∈ lU := mU 341 (by decide +kernel) rfl
theorem ml_X4_94 : Cond.methodLink RX4 94 yX4_layDish ∈ lU := mU 342 (by decide +kernel) rfl
theorem ml_L_18 : Cond.methodLink RL 18 yX6_ofGuest ∈ lU := mU 346 (by decide +kernel) rfl
theorem ml_X6_103 : Cond.methodLink RX6 103 yX4_minutesOf ∈ lU := mU 350 (by decide +kernel) rfl
theorem ml_X4_117 : Cond.methodLink RX4 117 yX4_minutesAs ∈ lU := mU 354 (by decide +kernel) rfl
theorem ml_X4_112 : Cond.methodLink RX4 112 Lib.Math.max.name ∈ lU := mU 357 (by decide +kernel) rfl
theorem ml_L_23 : Cond.methodLink RL 23 yX6_ofDish ∈ lU := mU 360 (by decide +kernel) rfl
theorem ml_X6_118 : Cond.methodLink RX6 118 yX4_ownerOfDish ∈ lU := mU 364 (by decide +kernel) rfl
theorem ml_X4_109 : Cond.methodLink RX4 109 yX4_ownerOf ∈ lU := mU 368 (by decide +kernel) rfl
theorem ml_X4_100 : Cond.methodLinkNest RX4 100 yX6_saltOf RX6 ∈ nwL := mN 372 (by decide +kernel) rfl
theorem ml_X4_103 : Cond.methodLinkNest RX4 103 yX6_pepperOf RX6 ∈ nwL := mN 375 (by decide +kernel) rfl
theorem ml_X4_106 : Cond.methodLink RX4 106 yX4_stepsBehind ∈ lU := mU 378 (by decide +kernel) rfl
theorem ml_L_27 : Cond.methodLink RL 27 yX6_whose ∈ lU := mU 382 (by decide +kernel) rfl
theorem ml_X6_122 : Cond.methodLink RX6 122 yX4_ownerOf ∈ lU := mU 386 (by decide +kernel) rfl
theorem ml_L_32 : Cond.methodLink RL 32 yX6_land ∈ lU := mU 387 (by decide +kernel) rfl
theorem ml_X6_125 : Cond.methodLink RX6 125 yX4_isLaid ∈ lU := mU 391 (by decide +kernel) rfl
theorem ml_X6_129 : Cond.methodLink RX6 129 yX4_landOf ∈ lU := mU 395 (by decide +kernel) rfl
theorem ml_L_36 : Cond.methodLink RL 36 yX6_chew ∈ lU := mU 399 (by decide +kernel) rfl
theorem ml_L_40 : Cond.methodLink RL 40 yX6_cook ∈ lU := mU 403 (by decide +kernel) rfl
theorem ml_L_44 : Cond.methodLink RL 44 yX6_rate ∈ lU := mU 407 (by decide +kernel) rfl
theorem ml_L_48 : Cond.methodLink RL 48 yX6_carry ∈ lU := mU 411 (by decide +kernel) rfl
theorem ml_L_52 : Cond.methodLink RL 52 yX6_pass ∈ lU := mU 415 (by decide +kernel) rfl
theorem ml_X6_135 : Cond.methodLink RX6 135 yX4_borderBehind ∈ lU := mU 419 (by decide +kernel) rfl
theorem ml_X4_121 : Cond.methodLink RX4 121 yX4_neighbour ∈ lU := mU 423 (by decide +kernel) rfl
theorem ml_X6_138 : Cond.methodLink RX6 138 yX6_standsAt ∈ lU := mU 427 (by decide +kernel) rfl
theorem ml_X6_161 : Cond.methodLink RX6 161 yX6_saltOf ∈ lU := mU 430 (by decide +kernel) rfl
theorem ml_X6_164 : Cond.methodLink RX6 164 yX6_pepperOf ∈ lU := mU 431 (by decide +kernel) rfl
theorem ml_L_56 : Cond.methodLink RL 56 yX6_dinner ∈ lU := mU 432 (by decide +kernel) rfl
theorem ml_X6_141 : Cond.methodLink RX6 141 yX6_isAskedOfDinner ∈ lU := mU 436 (by decide +kernel) rfl
theorem ml_X6_144 : Cond.methodLink RX6 144 yX3_areRequests ∈ lU := mU 439 (by decide +kernel) rfl
theorem ml_X3_36 : Cond.methodLinkNest RX3 36 yX6_isBelow RX6 ∈ nwL := mN 443 (by decide +kernel) rfl
theorem ml_X6_147 : Cond.methodLink RX6 147 yX0_serve ∈ lU := mU 444 (by decide +kernel) rfl
theorem ml_X0_24 : Cond.methodLink RX0 24 yX4_borderBehind ∈ lU := mU 448 (by decide +kernel) rfl
theorem ml_X0_28 : Cond.methodLinkNest RX0 28 yX6_standsAt RX6 ∈ nwL := mN 449 (by decide +kernel) rfl
theorem ml_X0_31 : Cond.methodLink RX0 31 yX4_minutesOf ∈ lU := mU 450 (by decide +kernel) rfl
theorem ml_X6_151 : Cond.methodLink RX6 151 yX6_answerOfDinner ∈ lU := mU 451 (by decide +kernel) rfl
theorem ml_L_61 : Cond.methodLink RL 61 yX6_ask ∈ lU := mU 455 (by decide +kernel) rfl
theorem ml_X6_167 : Cond.methodLink RX6 167 yX1_planForDish ∈ lU := mU 459 (by decide +kernel) rfl
theorem ml_X1_18 : Cond.methodLink RX1 18 yX1_weigh ∈ lU := mU 463 (by decide +kernel) rfl
theorem ml_X1_44 : Cond.methodLink RX1 44 yX4_minutesOf ∈ lU := mU 467 (by decide +kernel) rfl
theorem ml_X1_22 : Cond.methodLink RX1 22 yX4_isBorder ∈ lU := mU 468 (by decide +kernel) rfl
theorem ml_X1_28 : Cond.methodLink RX1 28 yX4_ownerOfDish ∈ lU := mU 472 (by decide +kernel) rfl
theorem ct_X1_32 : Cond.constant RX1 32 (1000000000) ∈ lU := mU 473 (by decide +kernel) rfl
theorem ml_X1_33 : Cond.methodLink RX1 33 yX1_spread ∈ lU := mU 474 (by decide +kernel) rfl
theorem ml_X1_48 : Cond.methodLink RX1 48 yX1_sweepOnce ∈ lU := mU 478 (by decide +kernel) rfl
theorem ml_X1_52 : Cond.methodLink RX1 52 yX1_leftBy ∈ lU := mU 482 (by decide +kernel) rfl
theorem ml_X1_56 : Cond.methodLink RX1 56 yX4_borderBehind ∈ lU := mU 486 (by decide +kernel) rfl
theorem ml_X1_59 : Cond.methodLinkNest RX1 59 yX6_standsAt RX6 ∈ nwL := mN 487 (by decide +kernel) rfl
theorem ml_X6_171 : Cond.methodLink RX6 171 yX1_minutes ∈ lU := mU 488 (by decide +kernel) rfl
theorem ml_X6_174 : Cond.methodLink RX6 174 yX1_requests ∈ lU := mU 492 (by decide +kernel) rfl
theorem ml_X6_177 : Cond.methodLink RX6 177 yX1_requestAt ∈ lU := mU 496 (by decide +kernel) rfl
theorem ml_X1_65 : Cond.methodLink RX1 65 yX1_requests ∈ lU := mU 500 (by decide +kernel) rfl
theorem ml_X1_69 : Cond.methodLink RX1 69 yX1_firstBest ∈ lU := mU 501 (by decide +kernel) rfl
theorem ml_L_66 : Cond.methodLink RL 66 yX6_treaty ∈ lU := mU 505 (by decide +kernel) rfl
theorem ml_X6_181 : Cond.methodLink RX6 181 yX1_planForTreaty ∈ lU := mU 509 (by decide +kernel) rfl
theorem ml_X1_37 : Cond.methodLink RX1 37 yX4_landOf ∈ lU := mU 513 (by decide +kernel) rfl
theorem ml_L_70 : Cond.methodLink RL 70 yX6_game ∈ lU := mU 514 (by decide +kernel) rfl
theorem ml_X6_185 : Cond.methodLinkNest RX6 185 yX4_bestMargin RX6 ∈ nwL := mN 518 (by decide +kernel) rfl
theorem ml_X4_124 : Cond.methodLink RX4 124 yX4_landOf ∈ lU := mU 522 (by decide +kernel) rfl
theorem ml_X4_127 : Cond.methodLink RX4 127 yX4_marginBehind ∈ lU := mU 523 (by decide +kernel) rfl
theorem ml_X4_131 : Cond.methodLink RX4 131 yX4_borderBehind ∈ lU := mU 527 (by decide +kernel) rfl
theorem ml_X4_134 : Cond.methodLink RX4 134 yX4_bestMargin ∈ lU := mU 528 (by decide +kernel) rfl
theorem ml_X6_188 : Cond.methodLink RX6 188 yX4_bestRequest ∈ lU := mU 529 (by decide +kernel) rfl
theorem ml_L_74 : Cond.methodLink RL 74 yX6_spilt ∈ lU := mU 533 (by decide +kernel) rfl
theorem ml_X6_191 : Cond.methodLink RX6 191 yX4_fewestWhoWet ∈ lU := mU 537 (by decide +kernel) rfl
theorem ml_X4_140 : Cond.methodLink RX4 140 yX4_wetBy ∈ lU := mU 541 (by decide +kernel) rfl
theorem ml_X4_137 : Cond.methodLink RX4 137 Lib.Math.min.name ∈ lU := mU 545 (by decide +kernel) rfl
theorem ml_X4_143 : Cond.methodLink RX4 143 yJ6_bitCount_0f7a4 ∈ lU := mU 548 (by decide +kernel) rfl
theorem ct_J6_265 : Cond.constant RJ6 265 (1431655765) ∈ lU := mU 551 (by decide +kernel) rfl
theorem ct_J6_266 : Cond.constant RJ6 266 (858993459) ∈ lU := mU 552 (by decide +kernel) rfl
theorem ct_J6_267 : Cond.constant RJ6 267 (252645135) ∈ lU := mU 553 (by decide +kernel) rfl
theorem ml_X4_148 : Cond.methodLink RX4 148 yX4_wetByAll ∈ lU := mU 554 (by decide +kernel) rfl
theorem ml_L_78 : Cond.methodLink RL 78 yX6_home ∈ lU := mU 558 (by decide +kernel) rfl
theorem ct_X6_194 : Cond.constantLong RX6 194 (-9223372036854775808) ∈ lU := mU 562 (by decide +kernel) rfl
theorem ml_X6_196 : Cond.methodLink RX6 196 yX2_go ∈ lU := mU 563 (by decide +kernel) rfl
theorem ml_X2_18 : Cond.methodLink RX2 18 yJ7_fill_d0a16 ∈ lU := mU 567 (by decide +kernel) rfl
theorem ml_X2_30 : Cond.methodLinkNest RX2 30 yX6_saltOf RX6 ∈ nwL := mN 570 (by decide +kernel) rfl
theorem ml_X2_37 : Cond.methodLink RX2 37 yX2_passFrom ∈ lU := mU 571 (by decide +kernel) rfl
theorem ml_X2_47 : Cond.methodLinkNest RX2 47 yX6_pepperOf RX6 ∈ nwL := mN 575 (by decide +kernel) rfl
theorem ml_X2_50 : Cond.methodLinkNest RX2 50 yX6_borderOf RX6 ∈ nwL := mN 576 (by decide +kernel) rfl
theorem ml_X2_54 : Cond.methodLink RX2 54 yX4_borderBehind ∈ lU := mU 577 (by decide +kernel) rfl
theorem ml_X2_41 : Cond.methodLink RX2 41 ⟨"java/lang/System", "arraycopy", "(Ljava/lang/Object;ILjava/lang/Object;II)V"⟩ ∈ lU := mU 578 (by decide +kernel) rfl
theorem ml_L_83 : Cond.methodLink RL 83 yX6_reading ∈ lU := mU 581 (by decide +kernel) rfl
theorem ml_L_87 : Cond.methodLink RL 87 yX6_back ∈ lU := mU 585 (by decide +kernel) rfl
theorem ml_L_91 : Cond.methodLink RL 91 yX6_mouths ∈ lU := mU 589 (by decide +kernel) rfl
theorem ml_X6_213 : Cond.methodLink RX6 213 yX4_areReadingsSo ∈ lU := mU 593 (by decide +kernel) rfl
theorem ml_L_95 : Cond.methodLink RL 95 yX6_kinds ∈ lU := mU 597 (by decide +kernel) rfl
theorem ml_L_99 : Cond.methodLink RL 99 yX6_soups ∈ lU := mU 601 (by decide +kernel) rfl
theorem ml_L_104 : Cond.methodLink RL 104 yX6_odds ∈ lU := mU 605 (by decide +kernel) rfl
theorem ml_X6_217 : Cond.methodLink RX6 217 yX2_waysToOwn ∈ lU := mU 609 (by decide +kernel) rfl
theorem ml_X2_57 : Cond.methodLink RX2 57 yX4_ownerOfDish ∈ lU := mU 613 (by decide +kernel) rfl
theorem ct_X6_221 : Cond.constantLong RX6 221 (2) ∈ lU := mU 614 (by decide +kernel) rfl
theorem ml_L_109 : Cond.methodLink RL 109 yX6_sheet ∈ lU := mU 615 (by decide +kernel) rfl
theorem ml_X6_223 : Cond.methodLink RX6 223 yX3_renew ∈ lU := mU 619 (by decide +kernel) rfl
theorem ml_X3_26 : Cond.methodLink RX3 26 yJ7_fill_53178 ∈ lU := mU 623 (by decide +kernel) rfl
theorem ml_L_113 : Cond.methodLink RL 113 yX6_lose ∈ lU := mU 626 (by decide +kernel) rfl
theorem ml_L_117 : Cond.methodLink RL 117 yX6_put ∈ lU := mU 630 (by decide +kernel) rfl
theorem ml_X6_231 : Cond.methodLink RX6 231 yX3_has ∈ lU := mU 634 (by decide +kernel) rfl
theorem ml_X6_234 : Cond.methodLink RX6 234 yX3_cut ∈ lU := mU 635 (by decide +kernel) rfl
theorem ml_L_121 : Cond.methodLink RL 121 yX6_cell ∈ lU := mU 639 (by decide +kernel) rfl
theorem ml_L_126 : Cond.methodLink RL 126 yX6_copy ∈ lU := mU 643 (by decide +kernel) rfl
theorem ml_X6_240 : Cond.methodLink RX6 240 ⟨"java/lang/System", "arraycopy", "(Ljava/lang/Object;ILjava/lang/Object;II)V"⟩ ∈ lU := mU 647 (by decide +kernel) rfl
theorem ml_L_130 : Cond.methodLink RL 130 yX6_tell ∈ lU := mU 648 (by decide +kernel) rfl
theorem ml_X6_246 : Cond.methodLink RX6 246 yX6_childTells ∈ lU := mU 652 (by decide +kernel) rfl
theorem ml_X6_255 : Cond.methodLink RX6 255 yX6_leave ∈ lU := mU 656 (by decide +kernel) rfl
theorem ml_X6_249 : Cond.methodLink RX6 249 yX6_auntTells ∈ lU := mU 660 (by decide +kernel) rfl
theorem ml_X6_252 : Cond.methodLink RX6 252 yX6_guestTells ∈ lU := mU 664 (by decide +kernel) rfl
theorem ml_L_134 : Cond.methodLink RL 134 yX6_toast ∈ lU := mU 668 (by decide +kernel) rfl
theorem ml_L_138 : Cond.methodLink RL 138 yX6_as ∈ lU := mU 672 (by decide +kernel) rfl
theorem ml_L_142 : Cond.methodLink RL 142 yX6_trace ∈ lU := mU 676 (by decide +kernel) rfl
theorem ml_L_146 : Cond.methodLink RL 146 yX6_fault ∈ lU := mU 680 (by decide +kernel) rfl
theorem ml_L_150 : Cond.methodLink RL 150 yX6_many ∈ lU := mU 684 (by decide +kernel) rfl
theorem ml_L_12 : Cond.methodLink RL 12 yX7_init ∈ lU := mU 690 (by decide +kernel) rfl
theorem ml_X7_1 : Cond.methodLink RX7 1 ⟨"java/lang/Object", "<init>", "()V"⟩ ∈ lU := mU 693 (by decide +kernel) rfl
theorem fl_X7_68 : Cond.fieldLink RX7 68 "SaltBorderModel" "fault" "I" ∈ lU := mU 694 (by decide +kernel) rfl
theorem fl_X7_243 : Cond.fieldLink RX7 243 "SaltBorderModel" "trace" "I" ∈ lU := mU 695 (by decide +kernel) rfl
theorem fl_X7_9 : Cond.fieldLink RX7 9 "SaltBorderModel" "sorts" "[I" ∈ lU := mU 696 (by decide +kernel) rfl
theorem fl_X7_13 : Cond.fieldLink RX7 13 "SaltBorderModel" "sheetLong" "[I" ∈ lU := mU 697 (by decide +kernel) rfl
theorem fl_X7_16 : Cond.fieldLink RX7 16 "SaltBorderModel" "cells" "[I" ∈ lU := mU 698 (by decide +kernel) rfl
theorem fl_X7_78 : Cond.fieldLink RX7 78 "SaltBorderModel" "guests" "I" ∈ lU := mU 699 (by decide +kernel) rfl
theorem fl_X7_81 : Cond.fieldLink RX7 81 "SaltBorderModel" "dishes" "I" ∈ lU := mU 700 (by decide +kernel) rfl
theorem fl_X7_111 : Cond.fieldLink RX7 111 "SaltBorderModel" "soup" "I" ∈ lU := mU 701 (by decide +kernel) rfl
theorem fl_X7_120 : Cond.fieldLink RX7 120 "SaltBorderModel" "salt" "I" ∈ lU := mU 702 (by decide +kernel) rfl
theorem fl_X7_126 : Cond.fieldLink RX7 126 "SaltBorderModel" "pepper" "I" ∈ lU := mU 703 (by decide +kernel) rfl
theorem fl_X7_19 : Cond.fieldLink RX7 19 "SaltBorderModel" "kind" "[I" ∈ lU := mU 704 (by decide +kernel) rfl
theorem fl_X7_22 : Cond.fieldLink RX7 22 "SaltBorderModel" "mouth" "[I" ∈ lU := mU 705 (by decide +kernel) rfl
theorem fl_X7_25 : Cond.fieldLink RX7 25 "SaltBorderModel" "arm" "[I" ∈ lU := mU 706 (by decide +kernel) rfl
theorem fl_X7_28 : Cond.fieldLink RX7 28 "SaltBorderModel" "seatOf" "[I" ∈ lU := mU 707 (by decide +kernel) rfl
theorem fl_X7_31 : Cond.fieldLink RX7 31 "SaltBorderModel" "worth" "[I" ∈ lU := mU 708 (by decide +kernel) rfl
theorem fl_X7_84 : Cond.fieldLink RX7 84 "SaltBorderModel" "at" "I" ∈ lU := mU 709 (by decide +kernel) rfl
theorem fl_X7_108 : Cond.fieldLink RX7 108 "SaltBorderModel" "readSoup" "I" ∈ lU := mU 710 (by decide +kernel) rfl
theorem fl_X7_114 : Cond.fieldLink RX7 114 "SaltBorderModel" "readGuests" "I" ∈ lU := mU 711 (by decide +kernel) rfl
theorem fl_X7_117 : Cond.fieldLink RX7 117 "SaltBorderModel" "readSalt" "I" ∈ lU := mU 712 (by decide +kernel) rfl
theorem fl_X7_123 : Cond.fieldLink RX7 123 "SaltBorderModel" "readPepper" "I" ∈ lU := mU 713 (by decide +kernel) rfl
theorem fl_X7_129 : Cond.fieldLink RX7 129 "SaltBorderModel" "readDishes" "I" ∈ lU := mU 714 (by decide +kernel) rfl
theorem fl_X7_34 : Cond.fieldLink RX7 34 "SaltBorderModel" "readKind" "[I" ∈ lU := mU 715 (by decide +kernel) rfl
theorem fl_X7_37 : Cond.fieldLink RX7 37 "SaltBorderModel" "readMouth" "[I" ∈ lU := mU 716 (by decide +kernel) rfl
theorem fl_X7_40 : Cond.fieldLink RX7 40 "SaltBorderModel" "readArm" "[I" ∈ lU := mU 717 (by decide +kernel) rfl
theorem fl_X7_43 : Cond.fieldLink RX7 43 "SaltBorderModel" "readSeat" "[I" ∈ lU := mU 718 (by decide +kernel) rfl
theorem fl_X7_46 : Cond.fieldLink RX7 46 "SaltBorderModel" "readWorth" "[I" ∈ lU := mU 719 (by decide +kernel) rfl
theorem fl_X7_49 : Cond.fieldLink RX7 49 "SaltBorderModel" "left" "[I" ∈ lU := mU 720 (by decide +kernel) rfl
theorem fl_X7_52 : Cond.fieldLink RX7 52 "SaltBorderModel" "value" "[I" ∈ lU := mU 721 (by decide +kernel) rfl
theorem fl_X7_211 : Cond.fieldLink RX7 211 "SaltBorderModel" "firstTurn" "I" ∈ lU := mU 722 (by decide +kernel) rfl
theorem fl_X7_55 : Cond.fieldLink RX7 55 "SaltBorderModel" "ways" "[J" ∈ lU := mU 723 (by decide +kernel) rfl
theorem fl_X7_59 : Cond.fieldLink RX7 59 "SaltBorderModel" "waysThen" "[J" ∈ lU := mU 724 (by decide +kernel) rfl
theorem fl_X7_132 : Cond.fieldLink RX7 132 "SaltBorderModel" "readings" "I" ∈ lU := mU 725 (by decide +kernel) rfl
theorem fl_X7_62 : Cond.fieldLink RX7 62 "SaltBorderModel" "readWho" "[I" ∈ lU := mU 726 (by decide +kernel) rfl
theorem fl_X7_65 : Cond.fieldLink RX7 65 "SaltBorderModel" "readMinutes" "[I" ∈ lU := mU 727 (by decide +kernel) rfl
theorem ml_L_17 : Cond.methodLink RL 17 yX7_table ∈ lU := mU 797 (by decide +kernel) rfl
theorem ml_X7_87 : Cond.methodLink RX7 87 yX7_isSheet ∈ lU := mU 801 (by decide +kernel) rfl
theorem ml_X7_74 : Cond.methodLink RX7 74 yX7_within ∈ lU := mU 804 (by decide +kernel) rfl
theorem ml_X7_91 : Cond.methodLink RX7 91 yX7_isSort ∈ lU := mU 807 (by decide +kernel) rfl
theorem ml_X7_94 : Cond.methodLink RX7 94 yX7_against ∈ lU := mU 810 (by decide +kernel) rfl
theorem ml_X7_98 : Cond.methodLink RX7 98 yX7_fails ∈ lU := mU 814 (by decide +kernel) rfl
theorem ml_X7_102 : Cond.methodLink RX7 102 yX7_readTable ∈ lU := mU 818 (by decide +kernel) rfl
theorem ml_X7_135 : Cond.methodLink RX7 135 yX7_isSign ∈ lU := mU 822 (by decide +kernel) rfl
theorem ml_X7_139 : Cond.methodLink RX7 139 yX7_digit ∈ lU := mU 826 (by decide +kernel) rfl
theorem ml_X7_143 : Cond.methodLink RX7 143 yX7_readGuest ∈ lU := mU 830 (by decide +kernel) rfl
theorem ml_X7_146 : Cond.methodLink RX7 146 yX7_readDish ∈ lU := mU 834 (by decide +kernel) rfl
theorem ml_X7_105 : Cond.methodLink RX7 105 yX7_takeTable ∈ lU := mU 838 (by decide +kernel) rfl
theorem ml_L_22 : Cond.methodLink RL 22 yX7_ofGuest ∈ lU := mU 842 (by decide +kernel) rfl
theorem ml_X7_153 : Cond.methodLink RX7 153 yX7_isGuest ∈ lU := mU 846 (by decide +kernel) rfl
theorem ml_X7_156 : Cond.methodLink RX7 156 yX7_minutesOf ∈ lU := mU 850 (by decide +kernel) rfl
theorem ml_L_26 : Cond.methodLink RL 26 yX7_ofDish ∈ lU := mU 854 (by decide +kernel) rfl
theorem ml_X7_159 : Cond.methodLink RX7 159 yX7_isDish ∈ lU := mU 858 (by decide +kernel) rfl
theorem ml_X7_149 : Cond.methodLink RX7 149 yX7_whoseBy ∈ lU := mU 862 (by decide +kernel) rfl
theorem ml_L_31 : Cond.methodLink RL 31 yX7_whose ∈ lU := mU 866 (by decide +kernel) rfl
theorem ml_L_35 : Cond.methodLink RL 35 yX7_land ∈ lU := mU 870 (by decide +kernel) rfl
theorem ml_X7_162 : Cond.methodLink RX7 162 yX7_isCountry ∈ lU := mU 874 (by decide +kernel) rfl
theorem ml_X7_165 : Cond.methodLink RX7 165 yX7_landBy ∈ lU := mU 877 (by decide +kernel) rfl
theorem ml_L_39 : Cond.methodLink RL 39 yX7_chew ∈ lU := mU 881 (by decide +kernel) rfl
theorem ml_L_43 : Cond.methodLink RL 43 yX7_cook ∈ lU := mU 885 (by decide +kernel) rfl
theorem ml_L_47 : Cond.methodLink RL 47 yX7_rate ∈ lU := mU 889 (by decide +kernel) rfl
theorem ml_L_51 : Cond.methodLink RL 51 yX7_carry ∈ lU := mU 893 (by decide +kernel) rfl
theorem ml_L_55 : Cond.methodLink RL 55 yX7_pass ∈ lU := mU 897 (by decide +kernel) rfl
theorem ml_X7_171 : Cond.methodLink RX7 171 yX7_stateNow ∈ lU := mU 901 (by decide +kernel) rfl
theorem ml_X7_175 : Cond.methodLink RX7 175 yX7_behind ∈ lU := mU 905 (by decide +kernel) rfl
theorem ml_X7_168 : Cond.methodLink RX7 168 yX7_next ∈ lU := mU 909 (by decide +kernel) rfl
theorem ml_X7_178 : Cond.methodLink RX7 178 yX7_takes ∈ lU := mU 913 (by decide +kernel) rfl
theorem ml_L_60 : Cond.methodLink RL 60 yX7_dinner ∈ lU := mU 917 (by decide +kernel) rfl
theorem ml_X7_181 : Cond.methodLink RX7 181 yX7_tellDinner ∈ lU := mU 921 (by decide +kernel) rfl
theorem ml_L_65 : Cond.methodLink RL 65 yX7_ask ∈ lU := mU 925 (by decide +kernel) rfl
theorem ml_X7_197 : Cond.methodLink RX7 197 yX7_findLeft ∈ lU := mU 929 (by decide +kernel) rfl
theorem ml_X7_184 : Cond.methodLink RX7 184 yX7_isState ∈ lU := mU 933 (by decide +kernel) rfl
theorem ml_X7_187 : Cond.methodLink RX7 187 yX7_isGoal ∈ lU := mU 937 (by decide +kernel) rfl
theorem ct_X7_190 : Cond.constant RX7 190 (1000000) ∈ lU := mU 941 (by decide +kernel) rfl
theorem ml_X7_191 : Cond.methodLink RX7 191 yX7_costOf ∈ lU := mU 942 (by decide +kernel) rfl
theorem ml_X7_201 : Cond.methodLink RX7 201 yX7_requestOf ∈ lU := mU 946 (by decide +kernel) rfl
theorem ml_X7_194 : Cond.methodLink RX7 194 yX7_firstRequest ∈ lU := mU 950 (by decide +kernel) rfl
theorem ml_L_69 : Cond.methodLink RL 69 yX7_treaty ∈ lU := mU 954 (by decide +kernel) rfl
theorem ml_L_73 : Cond.methodLink RL 73 yX7_game ∈ lU := mU 958 (by decide +kernel) rfl
theorem ml_X7_214 : Cond.methodLink RX7 214 yX7_findGame ∈ lU := mU 962 (by decide +kernel) rfl
theorem ml_X7_204 : Cond.methodLink RX7 204 yX7_behindRow ∈ lU := mU 966 (by decide +kernel) rfl
theorem ml_X7_207 : Cond.methodLink RX7 207 yX7_bestOf ∈ lU := mU 970 (by decide +kernel) rfl
theorem ml_L_77 : Cond.methodLink RL 77 yX7_spilt ∈ lU := mU 974 (by decide +kernel) rfl
theorem ml_X7_218 : Cond.methodLink RX7 218 yX7_wetBy ∈ lU := mU 978 (by decide +kernel) rfl
theorem ml_X7_221 : Cond.methodLink RX7 221 yX7_size ∈ lU := mU 982 (by decide +kernel) rfl
theorem ml_L_82 : Cond.methodLink RL 82 yX7_home ∈ lU := mU 985 (by decide +kernel) rfl
theorem ct_X7_72 : Cond.constantLong RX7 72 (-9223372036854775808) ∈ lU := mU 989 (by decide +kernel) rfl
theorem ml_X7_224 : Cond.methodLink RX7 224 yX7_beginAbout ∈ lU := mU 990 (by decide +kernel) rfl
theorem ml_X7_227 : Cond.methodLink RX7 227 yX7_passAbout ∈ lU := mU 994 (by decide +kernel) rfl
theorem ml_L_86 : Cond.methodLink RL 86 yX7_reading ∈ lU := mU 998 (by decide +kernel) rfl
theorem ml_L_90 : Cond.methodLink RL 90 yX7_back ∈ lU := mU 1002 (by decide +kernel) rfl
theorem ml_L_94 : Cond.methodLink RL 94 yX7_mouths ∈ lU := mU 1006 (by decide +kernel) rfl
theorem ml_X7_231 : Cond.methodLink RX7 231 yX7_areSo ∈ lU := mU 1010 (by decide +kernel) rfl
theorem ml_L_98 : Cond.methodLink RL 98 yX7_kinds ∈ lU := mU 1014 (by decide +kernel) rfl
theorem ml_L_103 : Cond.methodLink RL 103 yX7_soups ∈ lU := mU 1018 (by decide +kernel) rfl
theorem ml_L_108 : Cond.methodLink RL 108 yX7_odds ∈ lU := mU 1022 (by decide +kernel) rfl
theorem ml_X7_235 : Cond.methodLink RX7 235 yX7_inLeastTerms ∈ lU := mU 1026 (by decide +kernel) rfl
theorem ml_L_112 : Cond.methodLink RL 112 yX7_sheet ∈ lU := mU 1029 (by decide +kernel) rfl
theorem ml_L_116 : Cond.methodLink RL 116 yX7_lose ∈ lU := mU 1033 (by decide +kernel) rfl
theorem ml_L_120 : Cond.methodLink RL 120 yX7_put ∈ lU := mU 1037 (by decide +kernel) rfl
theorem ml_L_125 : Cond.methodLink RL 125 yX7_cell ∈ lU := mU 1041 (by decide +kernel) rfl
theorem ml_X7_239 : Cond.methodLink RX7 239 yX7_lost ∈ lU := mU 1045 (by decide +kernel) rfl
theorem ml_L_129 : Cond.methodLink RL 129 yX7_copy ∈ lU := mU 1049 (by decide +kernel) rfl
theorem ml_L_133 : Cond.methodLink RL 133 yX7_tell ∈ lU := mU 1053 (by decide +kernel) rfl
theorem ml_X7_246 : Cond.methodLink RX7 246 yX7_begins ∈ lU := mU 1057 (by decide +kernel) rfl
theorem ml_L_137 : Cond.methodLink RL 137 yX7_toast ∈ lU := mU 1061 (by decide +kernel) rfl
theorem ml_L_141 : Cond.methodLink RL 141 yX7_as ∈ lU := mU 1065 (by decide +kernel) rfl
theorem ml_L_145 : Cond.methodLink RL 145 yX7_trace ∈ lU := mU 1069 (by decide +kernel) rfl
theorem ml_L_149 : Cond.methodLink RL 149 yX7_fault ∈ lU := mU 1073 (by decide +kernel) rfl
theorem ml_L_153 : Cond.methodLink RL 153 yX7_many ∈ lU := mU 1077 (by decide +kernel) rfl
theorem ac_native : Cond.native arraycopyName ∈ lU := mU 580 (by decide +kernel) rfl
theorem ac_static : Cond.static arraycopyName ∈ lU := mU 579 (by decide +kernel) rfl
theorem ac_initialized : Cond.initialized "java/lang/System" ∈ lU := mU 69 (by decide +kernel) rfl
theorem ii_L : Cond.initialized RL ∈ lU := mU 57 (by decide +kernel) rfl
theorem ii_X6 : Cond.initialized RX6 ∈ lU := mU 58 (by decide +kernel) rfl
theorem ii_X5 : Cond.initialized RX5 ∈ lU := mU 59 (by decide +kernel) rfl
theorem ii_X0 : Cond.initialized RX0 ∈ lU := mU 60 (by decide +kernel) rfl
theorem ii_X1 : Cond.initialized RX1 ∈ lU := mU 61 (by decide +kernel) rfl
theorem ii_X2 : Cond.initialized RX2 ∈ lU := mU 62 (by decide +kernel) rfl
theorem ii_X4 : Cond.initialized RX4 ∈ lU := mU 63 (by decide +kernel) rfl
theorem ii_X3 : Cond.initialized RX3 ∈ lU := mU 64 (by decide +kernel) rfl
theorem ii_X7 : Cond.initialized RX7 ∈ lU := mU 65 (by decide +kernel) rfl
theorem ii_J9 : Cond.initialized RJ9 ∈ lU := mU 66 (by decide +kernel) rfl
theorem ii_J6 : Cond.initialized RJ6 ∈ lU := mU 67 (by decide +kernel) rfl
theorem ii_J7 : Cond.initialized RJ7 ∈ lU := mU 68 (by decide +kernel) rfl
theorem ii_J10 : Cond.initialized RJ10 ∈ lU := mU 69 (by decide +kernel) rfl
theorem cl_L_7 : Cond.classLink RL 7 RX6 ∈ lU := mU 70 (by decide +kernel) rfl
theorem nn_X6 : Cond.instantiable RX6 9 ∈ lU := mU 71 (by decide +kernel) rfl
theorem cl_X6_11 : Cond.classLink RX6 11 RX3 ∈ lU := mU 78 (by decide +kernel) rfl
theorem cl_X6_17 : Cond.classLink RX6 17 RX5 ∈ lU := mU 80 (by decide +kernel) rfl
theorem nn_X5 : Cond.instantiable RX5 4 ∈ lU := mU 81 (by decide +kernel) rfl
theorem ak_int : Cond.arrayClass .int ∈ lU := mU 100 (by decide +kernel) rfl
theorem cl_X6_24 : Cond.classLink RX6 24 RX0 ∈ lU := mU 101 (by decide +kernel) rfl
theorem nn_X0 : Cond.instantiable RX0 3 ∈ lU := mU 102 (by decide +kernel) rfl
theorem cl_X6_31 : Cond.classLink RX6 31 RX1 ∈ lU := mU 120 (by decide +kernel) rfl
theorem nn_X1 : Cond.instantiable RX1 2 ∈ lU := mU 121 (by decide +kernel) rfl
theorem cl_X6_38 : Cond.classLink RX6 38 RX2 ∈ lU := mU 133 (by decide +kernel) rfl
theorem nn_X2 : Cond.instantiable RX2 2 ∈ lU := mU 134 (by decide +kernel) rfl
theorem ak_long : Cond.arrayClass .long ∈ lU := mU 147 (by decide +kernel) rfl
theorem cl_X6_45 : Cond.classLink RX6 45 RX4 ∈ lU := mU 148 (by decide +kernel) rfl
theorem nn_X4 : Cond.instantiable RX4 13 ∈ lU := mU 149 (by decide +kernel) rfl
theorem nn_X3 : Cond.instantiable RX3 4 ∈ lU := mU 211 (by decide +kernel) rfl
theorem cl_L_10 : Cond.classLink RL 10 RX7 ∈ lU := mU 688 (by decide +kernel) rfl
theorem nn_X7 : Cond.instantiable RX7 34 ∈ lU := mU 689 (by decide +kernel) rfl
end
section
/-! THE CORE: a fixed world of 57 places, one judgement TT for the methods that make nothing -/
abbrev SG : Type := (Nat → Nat → Int32) × (Nat → Nat → Int64) × (Nat × Nat × Nat)
def kdL : List Nat := [6, 10, 3, 3, 3, 3, 8, 8, 8, 8, 5, 8, 0, 1, 8, 8, 2, 9, 9, 4, 8, 8, 8, 8, 8, 8, 8, 8, 4, 8, 8, 8, 8, 8, 8, 8, 8, 7, 8, 8, 8, 8, 8, 8, 8, 8, 8, 8, 8, 8, 8, 8, 8, 9, 9, 8, 8]
def lnL : List Nat := [0, 4, 0, 0, 0, 0, 60, 60, 60, 60, 0, 0, 0, 0, 64, 8, 0, 8, 8, 0, 8, 8, 8, 8, 6, 6, 8, 8, 0, 8, 8, 8, 8, 6, 6, 8, 8, 0, 4, 4, 240, 8, 8, 8, 6, 6, 8, 8, 8, 6, 6, 64, 256, 8, 8, 8, 8]
def kd (p : Nat) : Nat := kdL.getD p 11
def ln (p : Nat) : Nat := lnL.getD p 0
def nFL : List Nat := [3, 2, 2, 4, 13, 4, 9, 34]
def nF (ci : Nat) : Nat := nFL.getD ci 0
def isRL : List (List Nat) := [[], [0, 1], [0, 1], [0], [0, 1, 2, 3, 4, 5, 6, 7], [0], [0, 1, 2, 3, 4, 5, 6], [2, 3, 4, 10, 11, 12, 13, 14, 21, 22, 23, 24, 25, 26, 27, 29, 30, 32, 33]]
def isR (ci k : Nat) : Bool := (isRL.getD ci []).elem k
def mfL : List Nat := [0, 0, 38, 39, 40, 0, 0, 0, 0, 0, 41, 42, 43, 44, 45, 0, 0, 0, 0, 0, 0, 46, 47, 48, 49, 50, 51, 52, 0, 53, 54, 0, 55, 56]
/-- where a reference field points to -/
def rf (R : Nat × Nat × Nat) (p k : Nat) : Nat :=
  if p = 0 then (if k = 5 then R.1 else if k = 6 then R.2.1 else [1, 10, 12, 13, 16].getD k 0)
  else if p < 6 then p + 4
  else if p = 10 then R.2.2
  else if p = 37 then mfL.getD k 0
  else p + 1 + k
def cv (ad : Nat → Nat) : Value → Value
  | .ref p => .ref (ad p)
  | v => v
def fv (ad : Nat → Nat) (σ : SG) (p ci k : Nat) : Value := if isR ci k then .ref (ad (rf σ.2.2 p k)) else .int (σ.1 p k)
def fvs (ad : Nat → Nat) (σ : SG) (p ci : Nat) : List Value := (List.range (nF ci)).map (fv ad σ p ci)
def cellE (ad : Nat → Nat) (cI cJ cO : ClassId) (σ : SG) (p : Nat) : va_E :=
  if kd p < 8 then .inr (kd p, fvs ad σ p (kd p))
  else if kd p = 8 then .inl (cI, ln p, .inl (σ.1 p))
  else if kd p = 9 then .inl (cJ, ln p, .inr (.inl (σ.2.1 p)))
  else .inl (cO, 4, .inr (.inr (.inr (.inr (fun i => some (ad (2 + i)))))))
def wl (ad : Nat → Nat) (cI cJ cO : ClassId) (σ : SG) : va_W := (List.range 57).map (fun p => (ad p, cellE ad cI cJ cO σ p))
def AD (ad : Nat → Nat) : Nat → Prop := fun q => ∃ p, p < 57 ∧ ad p = q
def rmD (d : Nat) : Room := { frames := d, cells := 0, slots := 0, locals := 40 * d }
abbrev tysW (cI cJ cO : ClassId) : List (ClassId × FieldType) := [(cI, .int), (cJ, .long), (cO, .object RX3)]
def WD (G : va_G) (ad : Nat → Nat) (cI cJ cO : ClassId) (σ : SG) (U : State) : Prop := va_P G vwCl (wl ad cI cJ cO σ) U.heap ∧ va_K G vwCl (tysW cI cJ cO) U ∧ ∀ w ∈ nwL, va_Nw w U
def QQ (G : va_G) (ad : Nat → Nat) (cI cJ cO : ClassId) (Q : Option Value → SG → Prop) : Array Value → State → Outcome → State → Prop := fun _ st oc t => (∃ (r : Option Value) (σ' : SG), oc = .returned (r.map (cv ad)) ∧ Q r σ' ∧ WD G ad cI cJ cO σ' t) ∧ va_F (AD ad) st t
def LH (ad : Nat → Nat) (ls : Array Slot) (nL : Nat) (lo : List (Option Value)) : Prop := ls.size = nL ∧ lv_wf ls ∧ ∀ (i : Nat) (v : Value), lo[i]? = some (some v) → ls[i]? = some (.val (cv ad v))
def inj57 (ad : Nat → Nat) : Prop := ∀ a b, a < 57 → b < 57 → ad a = ad b → a = b
def CX (M : MD) (p : Program) (s : State) (m : MethodId) (args : Array Value) (meth : Method) (c : Code) (G : va_G) (ad : Nat → Nat) (cI cJ cO : ClassId) : Prop :=
  p.tables.exec = Jvm.exec ∧ c.code = M.2.1 ∧ c.maxLocals = M.2.2.1 ∧ s.vm.findClass M.1.cls = some m.cls ∧ (∀ w ∈ lU, w.before args s = true) ∧ meth.sig.returnType = M.2.2.2 ∧ meth.locks = false ∧ va_K G vwCl (tysW cI cJ cO) s ∧ (∀ w ∈ nwL, va_Nw w s) ∧ inj57 ad
/-- from pc on, with these locals, this stack, this world, at this depth of room, the method comes to an end with Q -/
def TT (M : MD) (d pc : Nat) (lo : List (Option Value)) (st : List Value) (σ : SG) (Q : Option Value → SG → Prop) : Prop :=
  ∀ (l : Launch) (p : Program) (e : Env) (s : State) (m : MethodId) (args : Array Value) (below : List Frame) (meth : Method) (c : Code) (G : va_G) (ad : Nat → Nat) (cI cJ cO : ClassId), CX M p s m args meth c G ad cI cJ cO →
  ∀ (H : Heap) (locs : List Loc) (ls : Array Slot), va_P G vwCl (wl ad cI cJ cO σ) H → va_S (AD ad) s.heap H locs → LH ad ls M.2.2.1 lo →
  W p l e (rmD d) s m args below meth c H locs 0 0 (MQ below (QQ G ad cI cJ cO Q) args s 0 0 (AD ad)) (F0 m pc ls (st.map (cv ad)))
theorem cv_cat (ad : Nat → Nat) (v : Value) : (cv ad v).category = v.category := by cases v <;> rfl
theorem cv_sum (ad : Nat → Nat) (st : List Value) : ((st.map (cv ad)).map fun v => v.category).sum = (st.map fun v => v.category).sum := by
  rw [List.map_map]; congr 1; apply List.map_congr_left; intro v _; exact cv_cat ad v
theorem wl_get {ad : Nat → Nat} {cI cJ cO : ClassId} {σ : SG} {p : Nat} (hp : p < 57) : (wl ad cI cJ cO σ)[p]? = some (ad p, cellE ad cI cJ cO σ p) := by
  unfold wl
  rw [List.getElem?_map, List.getElem?_range hp]; rfl
theorem wl_set {ad : Nat → Nat} {cI cJ cO : ClassId} {σ σ' : SG} {p : Nat} {e : va_E} (hp : p < 57) (he : cellE ad cI cJ cO σ' p = e) (ho : ∀ q, q < 57 → q ≠ p → cellE ad cI cJ cO σ' q = cellE ad cI cJ cO σ q) : (wl ad cI cJ cO σ).set p (ad p, e) = wl ad cI cJ cO σ' := by
  apply List.ext_getElem?
  intro i
  rw [List.getElem?_set]
  by_cases hi : i < 57
  · rw [wl_get hi, wl_get hi]
    by_cases hpi : p = i
    · subst hpi
      simp [wl, hp, he]
    · rw [if_neg hpi, ho i hi (fun h => hpi h.symm)]
  · have h1 : ∀ τ : SG, (wl ad cI cJ cO τ)[i]? = none := fun τ => by
      rw [List.getElem?_eq_none_iff]; simp [wl]; omega
    have hne : ¬ p = i := fun h => hi (h ▸ hp)
    rw [if_neg hne, h1, h1]
theorem wl_D {ad : Nat → Nat} {cI cJ cO : ClassId} {σ : SG} (hinj : inj57 ad) : va_D (AD ad) (wl ad cI cJ cO σ) := by
  have key : ∀ (i : Nat) (x : Nat × va_E), (wl ad cI cJ cO σ)[i]? = some x → i < 57 ∧ x.1 = ad i := by
    intro i x h
    have hi : i < 57 := by
      have := (List.getElem?_eq_some_iff.mp h).1
      simpa [wl] using this
    rw [wl_get hi] at h
    cases h
    exact ⟨hi, rfl⟩
  refine ⟨fun i j x y hx hy e => ?_, fun k x hx => ?_⟩
  · obtain ⟨h1, h2⟩ := key i x hx
    obtain ⟨h3, h4⟩ := key j y hy
    exact hinj i j h1 h3 (by rw [← h2, ← h4, e])
  · obtain ⟨h1, h2⟩ := key k x hx
    exact ⟨k, h1, h2.symm⟩
theorem kd_lt {p k : Nat} (h : kd p = k) (hk : k < 11) : p < 57 := by
  rcases Nat.lt_or_ge p 57 with q | q
  · exact q
  · have hn : kdL[p]? = none := List.getElem?_eq_none_iff.mpr q
    have : kd p = 11 := by unfold kd; rw [List.getD_eq_getElem?_getD, hn]; rfl
    omega
theorem cell_obj {ad : Nat → Nat} {cI cJ cO : ClassId} {σ : SG} {p ci : Nat} (h : kd p = ci) (hc : ci < 8) : cellE ad cI cJ cO σ p = .inr (ci, fvs ad σ p ci) := by
  unfold cellE; rw [h, if_pos hc]
theorem cell_int {ad : Nat → Nat} {cI cJ cO : ClassId} {σ : SG} {p : Nat} (h : kd p = 8) : cellE ad cI cJ cO σ p = .inl (cI, ln p, .inl (σ.1 p)) := by
  unfold cellE; rw [h, if_neg (by decide), if_pos rfl]
theorem cell_long {ad : Nat → Nat} {cI cJ cO : ClassId} {σ : SG} {p : Nat} (h : kd p = 9) : cellE ad cI cJ cO σ p = .inl (cJ, ln p, .inr (.inl (σ.2.1 p))) := by
  unfold cellE; rw [h, if_neg (by decide), if_neg (by decide), if_pos rfl]
theorem cell_sh {ad : Nat → Nat} {cI cJ cO : ClassId} {σ : SG} {p : Nat} (h : kd p = 10) : cellE ad cI cJ cO σ p = .inl (cO, 4, .inr (.inr (.inr (.inr (fun i => some (ad (2 + i))))))) := by
  unfold cellE; rw [h, if_neg (by decide), if_neg (by decide), if_neg (by decide)]
theorem fvs_get {ad : Nat → Nat} {σ : SG} {p ci k : Nat} (hk : k < nF ci) : (fvs ad σ p ci)[k]? = some (fv ad σ p ci k) := by
  unfold fvs; rw [List.getElem?_map, List.getElem?_range hk]; rfl
theorem fvs_set {ad : Nat → Nat} {σ σ' : SG} {p ci k : Nat} {v : Value} (hk : k < nF ci) (hv : fv ad σ' p ci k = v) (ho : ∀ j, j < nF ci → j ≠ k → fv ad σ' p ci j = fv ad σ p ci j) : (fvs ad σ p ci).set k v = fvs ad σ' p ci := by
  apply List.ext_getElem?
  intro i
  rw [List.getElem?_set]
  by_cases hi : i < nF ci
  · rw [fvs_get hi, fvs_get hi]
    by_cases h : k = i
    · subst h
      rw [if_pos rfl, hv]; simp [fvs, hk]
    · rw [if_neg h, ho i hi (fun e => h e.symm)]
  · have h1 : ∀ τ : SG, (fvs ad τ p ci)[i]? = none := fun τ => by
      rw [List.getElem?_eq_none_iff]; simp [fvs]; omega
    have hne : ¬ k = i := fun h => hi (h ▸ hk)
    rw [if_neg hne, h1, h1]
/-- the world with one number changed -/
def uI (S : Nat → Nat → Int32) (p k : Nat) (x : Int32) : Nat → Nat → Int32 := fun a b => if a = p then (if b = k then x else S a b) else S a b
def uL (L : Nat → Nat → Int64) (p k : Nat) (x : Int64) : Nat → Nat → Int64 := fun a b => if a = p then (if b = k then x else L a b) else L a b
theorem uI_p {S : Nat → Nat → Int32} {p k a : Nat} {x : Int32} (h : a ≠ p) : uI S p k x a = S a := by funext b; simp [uI, h]
theorem uL_p {S : Nat → Nat → Int64} {p k a : Nat} {x : Int64} (h : a ≠ p) : uL S p k x a = S a := by funext b; simp [uL, h]
theorem uI_row {S : Nat → Nat → Int32} {p k : Nat} {x : Int32} : uI S p k x p = upd (S p) k x := by funext b; simp [uI, upd]
theorem uL_row {S : Nat → Nat → Int64} {p k : Nat} {x : Int64} : uL S p k x p = vp_updL (S p) k x := by funext b; simp [uL, vp_updL]
theorem uI_s {S : Nat → Nat → Int32} {p k : Nat} {x : Int32} : uI S p k x p k = x := by simp [uI]
theorem uI_k {S : Nat → Nat → Int32} {p k j : Nat} {x : Int32} (h : j ≠ k) : uI S p k x p j = S p j := by simp [uI, h]
theorem uL_s {S : Nat → Nat → Int64} {p k : Nat} {x : Int64} : uL S p k x p k = x := by simp [uL]
theorem uL_k {S : Nat → Nat → Int64} {p k j : Nat} {x : Int64} (h : j ≠ k) : uL S p k x p j = S p j := by simp [uL, h]
theorem cell_off {ad : Nat → Nat} {cI cJ cO : ClassId} {S S' : Nat → Nat → Int32} {L : Nat → Nat → Int64} {R : Nat × Nat × Nat} {q : Nat} (h : S' q = S q) : cellE ad cI cJ cO (S', L, R) q = cellE ad cI cJ cO (S, L, R) q := by
  unfold cellE fvs
  have h2 : ∀ ci, fv ad (S', L, R) q ci = fv ad (S, L, R) q ci := by intro ci; funext k; simp only [fv, h]
  simp only [h2, h]
theorem cell_offL {ad : Nat → Nat} {cI cJ cO : ClassId} {S : Nat → Nat → Int32} {L L' : Nat → Nat → Int64} {R : Nat × Nat × Nat} {q : Nat} (h : L' q = L q) : cellE ad cI cJ cO (S, L', R) q = cellE ad cI cJ cO (S, L, R) q := by
  unfold cellE fvs
  have h2 : ∀ ci, fv ad (S, L', R) q ci = fv ad (S, L, R) q ci := by intro ci; funext k; simp only [fv]
  simp only [h2, h]
end
section
section TROWS
variable {M : MD} {d pc : Nat} {lo : List (Option Value)} {st : List Value} {S : Nat → Nat → Int32} {L : Nat → Nat → Int64} {R : Nat × Nat × Nat} {σ : SG} {Q : Option Value → SG → Prop}
theorem T_iconst {n : Int} {v : Int32} (hd : decode M.2.1 pc = .ok (.iconst n, 1)) (hv : Int32.ofInt n = v) (k : TT M d (pc + 1) lo (.int v :: st) σ Q) : TT M d pc lo st σ Q := by
  intro l p e s m args below meth c G ad cI cJ cO C H locs ls hP hS hl
  exact lv_iconst C.1 C.2.1 hd hv (k l p e s m args below meth c G ad cI cJ cO C H locs ls hP hS hl)
theorem T_bipush {n : Int} {v : Int32} (hd : decode M.2.1 pc = .ok (.bipush n, 2)) (hv : (Int8.ofInt n).toInt32 = v) (k : TT M d (pc + 2) lo (.int v :: st) σ Q) : TT M d pc lo st σ Q := by
  intro l p e s m args below meth c G ad cI cJ cO C H locs ls hP hS hl
  exact lv_bipush C.1 C.2.1 hd hv (k l p e s m args below meth c G ad cI cJ cO C H locs ls hP hS hl)
theorem T_sipush {n : Int} {v : Int32} (hd : decode M.2.1 pc = .ok (.sipush n, 3)) (hv : (Int16.ofInt n).toInt32 = v) (k : TT M d (pc + 3) lo (.int v :: st) σ Q) : TT M d pc lo st σ Q := by
  intro l p e s m args below meth c G ad cI cJ cO C H locs ls hP hS hl
  exact lv_sipush C.1 C.2.1 hd hv (k l p e s m args below meth c G ad cI cJ cO C H locs ls hP hS hl)
theorem T_lconst {n : Fin 2} {v : Int64} (hd : decode M.2.1 pc = .ok (.lconst n, 1)) (hv : Int64.ofNat (n : Nat) = v) (k : TT M d (pc + 1) lo (.long v :: st) σ Q) : TT M d pc lo st σ Q := by
  intro l p e s m args below meth c G ad cI cJ cO C H locs ls hP hS hl
  exact lv_lconst C.1 C.2.1 hd hv (k l p e s m args below meth c G ad cI cJ cO C H locs ls hP hS hl)
theorem T_ldc {i : Nat} {v : Int32} (hc : Cond.constant M.1.cls i v ∈ lU) (hd : decode M.2.1 pc = .ok (.ldc i, 2)) (k : TT M d (pc + 2) lo (.int v :: st) σ Q) : TT M d pc lo st σ Q := by
  intro l p e s m args below meth c G ad cI cJ cO C H locs ls hP hS hl
  exact lv_ldc C.1 C.2.1 C.2.2.2.1 (C.2.2.2.2.1 _ hc) hd (k l p e s m args below meth c G ad cI cJ cO C H locs ls hP hS hl)
theorem T_ldcw {i : Nat} {v : Int32} (hc : Cond.constant M.1.cls i v ∈ lU) (hd : decode M.2.1 pc = .ok (.ldc_w i, 3)) (k : TT M d (pc + 3) lo (.int v :: st) σ Q) : TT M d pc lo st σ Q := by
  intro l p e s m args below meth c G ad cI cJ cO C H locs ls hP hS hl
  exact lv_ldcw C.1 C.2.1 C.2.2.2.1 (C.2.2.2.2.1 _ hc) hd (k l p e s m args below meth c G ad cI cJ cO C H locs ls hP hS hl)
theorem T_ldc2 {i : Nat} {v : Int64} (hc : Cond.constantLong M.1.cls i v ∈ lU) (hd : decode M.2.1 pc = .ok (.ldc2_w i, 3)) (k : TT M d (pc + 3) lo (.long v :: st) σ Q) : TT M d pc lo st σ Q := by
  intro l p e s m args below meth c G ad cI cJ cO C H locs ls hP hS hl
  exact lv_ldc2 C.1 C.2.1 C.2.2.2.1 (C.2.2.2.2.1 _ hc) hd (k l p e s m args below meth c G ad cI cJ cO C H locs ls hP hS hl)
theorem T_iadd {x y : Int32} (hd : decode M.2.1 pc = .ok (.iadd, 1))  (k : TT M d (pc + 1) lo (.int (x + y) :: st) σ Q) : TT M d pc lo (.int y :: .int x :: st) σ Q := by
  intro l p e s m args below meth c G ad cI cJ cO C H locs ls hP hS hl
  exact lv_iadd C.1 C.2.1 hd (k l p e s m args below meth c G ad cI cJ cO C H locs ls hP hS hl)
theorem T_isub {x y : Int32} (hd : decode M.2.1 pc = .ok (.isub, 1))  (k : TT M d (pc + 1) lo (.int (x - y) :: st) σ Q) : TT M d pc lo (.int y :: .int x :: st) σ Q := by
  intro l p e s m args below meth c G ad cI cJ cO C H locs ls hP hS hl
  exact lv_isub C.1 C.2.1 hd (k l p e s m args below meth c G ad cI cJ cO C H locs ls hP hS hl)
theorem T_imul {x y : Int32} (hd : decode M.2.1 pc = .ok (.imul, 1))  (k : TT M d (pc + 1) lo (.int (x * y) :: st) σ Q) : TT M d pc lo (.int y :: .int x :: st) σ Q := by
  intro l p e s m args below meth c G ad cI cJ cO C H locs ls hP hS hl
  exact lv_imul C.1 C.2.1 hd (k l p e s m args below meth c G ad cI cJ cO C H locs ls hP hS hl)
theorem T_iand {x y : Int32} (hd : decode M.2.1 pc = .ok (.iand, 1))  (k : TT M d (pc + 1) lo (.int (x &&& y) :: st) σ Q) : TT M d pc lo (.int y :: .int x :: st) σ Q := by
  intro l p e s m args below meth c G ad cI cJ cO C H locs ls hP hS hl
  exact lv_iand C.1 C.2.1 hd (k l p e s m args below meth c G ad cI cJ cO C H locs ls hP hS hl)
theorem T_ior {x y : Int32} (hd : decode M.2.1 pc = .ok (.ior, 1))  (k : TT M d (pc + 1) lo (.int (x ||| y) :: st) σ Q) : TT M d pc lo (.int y :: .int x :: st) σ Q := by
  intro l p e s m args below meth c G ad cI cJ cO C H locs ls hP hS hl
  exact lv_ior C.1 C.2.1 hd (k l p e s m args below meth c G ad cI cJ cO C H locs ls hP hS hl)
theorem T_ixor {x y : Int32} (hd : decode M.2.1 pc = .ok (.ixor, 1))  (k : TT M d (pc + 1) lo (.int (x ^^^ y) :: st) σ Q) : TT M d pc lo (.int y :: .int x :: st) σ Q := by
  intro l p e s m args below meth c G ad cI cJ cO C H locs ls hP hS hl
  exact lv_ixor C.1 C.2.1 hd (k l p e s m args below meth c G ad cI cJ cO C H locs ls hP hS hl)
theorem T_ishl {x y : Int32} (hd : decode M.2.1 pc = .ok (.ishl, 1))  (k : TT M d (pc + 1) lo (.int (x <<< (y &&& 31)) :: st) σ Q) : TT M d pc lo (.int y :: .int x :: st) σ Q := by
  intro l p e s m args below meth c G ad cI cJ cO C H locs ls hP hS hl
  exact lv_ishl C.1 C.2.1 hd (k l p e s m args below meth c G ad cI cJ cO C H locs ls hP hS hl)
theorem T_ishr {x y : Int32} (hd : decode M.2.1 pc = .ok (.ishr, 1))  (k : TT M d (pc + 1) lo (.int (x >>> (y &&& 31)) :: st) σ Q) : TT M d pc lo (.int y :: .int x :: st) σ Q := by
  intro l p e s m args below meth c G ad cI cJ cO C H locs ls hP hS hl
  exact lv_ishr C.1 C.2.1 hd (k l p e s m args below meth c G ad cI cJ cO C H locs ls hP hS hl)
theorem T_iushr {x y : Int32} (hd : decode M.2.1 pc = .ok (.iushr, 1))  (k : TT M d (pc + 1) lo (.int ((x.toUInt32 >>> (y.toUInt32 &&& Int32.toUInt32 31)).toInt32) :: st) σ Q) : TT M d pc lo (.int y :: .int x :: st) σ Q := by
  intro l p e s m args below meth c G ad cI cJ cO C H locs ls hP hS hl
  exact lv_iushr C.1 C.2.1 hd rfl (k l p e s m args below meth c G ad cI cJ cO C H locs ls hP hS hl)
theorem T_idiv {x y : Int32} (hd : decode M.2.1 pc = .ok (.idiv, 1)) (hne : ¬ y = 0) (k : TT M d (pc + 1) lo (.int (x / y) :: st) σ Q) : TT M d pc lo (.int y :: .int x :: st) σ Q := by
  intro l p e s m args below meth c G ad cI cJ cO C H locs ls hP hS hl
  exact lv_idiv C.1 C.2.1 hd hne (k l p e s m args below meth c G ad cI cJ cO C H locs ls hP hS hl)
theorem T_irem {x y : Int32} (hd : decode M.2.1 pc = .ok (.irem, 1)) (hne : ¬ y = 0) (k : TT M d (pc + 1) lo (.int (x - x / y * y) :: st) σ Q) : TT M d pc lo (.int y :: .int x :: st) σ Q := by
  intro l p e s m args below meth c G ad cI cJ cO C H locs ls hP hS hl
  exact lv_irem C.1 C.2.1 hd hne (k l p e s m args below meth c G ad cI cJ cO C H locs ls hP hS hl)
theorem T_ineg {x : Int32} (hd : decode M.2.1 pc = .ok (.ineg, 1))  (k : TT M d (pc + 1) lo (.int (-x) :: st) σ Q) : TT M d pc lo (.int x :: st) σ Q := by
  intro l p e s m args below meth c G ad cI cJ cO C H locs ls hP hS hl
  exact lv_ineg C.1 C.2.1 hd (k l p e s m args below meth c G ad cI cJ cO C H locs ls hP hS hl)
theorem T_ladd {x y : Int64} (hd : decode M.2.1 pc = .ok (.ladd, 1))  (k : TT M d (pc + 1) lo (.long (x + y) :: st) σ Q) : TT M d pc lo (.long y :: .long x :: st) σ Q := by
  intro l p e s m args below meth c G ad cI cJ cO C H locs ls hP hS hl
  exact lv_ladd C.1 C.2.1 hd (k l p e s m args below meth c G ad cI cJ cO C H locs ls hP hS hl)
theorem T_lsub {x y : Int64} (hd : decode M.2.1 pc = .ok (.lsub, 1))  (k : TT M d (pc + 1) lo (.long (x - y) :: st) σ Q) : TT M d pc lo (.long y :: .long x :: st) σ Q := by
  intro l p e s m args below meth c G ad cI cJ cO C H locs ls hP hS hl
  exact lv_lsub C.1 C.2.1 hd (k l p e s m args below meth c G ad cI cJ cO C H locs ls hP hS hl)
theorem T_lmul {x y : Int64} (hd : decode M.2.1 pc = .ok (.lmul, 1))  (k : TT M d (pc + 1) lo (.long (x * y) :: st) σ Q) : TT M d pc lo (.long y :: .long x :: st) σ Q := by
  intro l p e s m args below meth c G ad cI cJ cO C H locs ls hP hS hl
  exact lv_lmul C.1 C.2.1 hd (k l p e s m args below meth c G ad cI cJ cO C H locs ls hP hS hl)
theorem T_ldiv {x y : Int64} (hd : decode M.2.1 pc = .ok (.ldiv, 1)) (hne : ¬ y = 0) (k : TT M d (pc + 1) lo (.long (x / y) :: st) σ Q) : TT M d pc lo (.long y :: .long x :: st) σ Q := by
  intro l p e s m args below meth c G ad cI cJ cO C H locs ls hP hS hl
  exact lv_ldiv C.1 C.2.1 hd hne (k l p e s m args below meth c G ad cI cJ cO C H locs ls hP hS hl)
theorem T_lrem {x y : Int64} (hd : decode M.2.1 pc = .ok (.lrem, 1)) (hne : ¬ y = 0) (k : TT M d (pc + 1) lo (.long (x - x / y * y) :: st) σ Q) : TT M d pc lo (.long y :: .long x :: st) σ Q := by
  intro l p e s m args below meth c G ad cI cJ cO C H locs ls hP hS hl
  exact lv_lrem C.1 C.2.1 hd hne (k l p e s m args below meth c G ad cI cJ cO C H locs ls hP hS hl)
theorem T_lcmp {x y : Int64} (hd : decode M.2.1 pc = .ok (.lcmp, 1))  (k : TT M d (pc + 1) lo (.int (lg_cmp x y) :: st) σ Q) : TT M d pc lo (.long y :: .long x :: st) σ Q := by
  intro l p e s m args below meth c G ad cI cJ cO C H locs ls hP hS hl
  exact W.lcmp C.1 C.2.1 hd (k l p e s m args below meth c G ad cI cJ cO C H locs ls hP hS hl)
theorem T_lshl {x : Int64} {y : Int32} (hd : decode M.2.1 pc = .ok (.lshl, 1))  (k : TT M d (pc + 1) lo (.long (x <<< (y.toInt64 &&& 63)) :: st) σ Q) : TT M d pc lo (.int y :: .long x :: st) σ Q := by
  intro l p e s m args below meth c G ad cI cJ cO C H locs ls hP hS hl
  exact lv_lshl C.1 C.2.1 hd rfl (k l p e s m args below meth c G ad cI cJ cO C H locs ls hP hS hl)
theorem T_i2l {x : Int32} (hd : decode M.2.1 pc = .ok (.i2l, 1))  (k : TT M d (pc + 1) lo (.long x.toInt64 :: st) σ Q) : TT M d pc lo (.int x :: st) σ Q := by
  intro l p e s m args below meth c G ad cI cJ cO C H locs ls hP hS hl
  exact lv_i2l C.1 C.2.1 hd rfl (k l p e s m args below meth c G ad cI cJ cO C H locs ls hP hS hl)
theorem T_i2b {x : Int32} (hd : decode M.2.1 pc = .ok (.i2b, 1))  (k : TT M d (pc + 1) lo (.int x.toInt8.toInt32 :: st) σ Q) : TT M d pc lo (.int x :: st) σ Q := by
  intro l p e s m args below meth c G ad cI cJ cO C H locs ls hP hS hl
  exact lv_i2b C.1 C.2.1 hd rfl (k l p e s m args below meth c G ad cI cJ cO C H locs ls hP hS hl)
theorem T_i2s {x : Int32} (hd : decode M.2.1 pc = .ok (.i2s, 1))  (k : TT M d (pc + 1) lo (.int x.toInt16.toInt32 :: st) σ Q) : TT M d pc lo (.int x :: st) σ Q := by
  intro l p e s m args below meth c G ad cI cJ cO C H locs ls hP hS hl
  exact lv_i2s C.1 C.2.1 hd rfl (k l p e s m args below meth c G ad cI cJ cO C H locs ls hP hS hl)
theorem T_dup {a : Value} (hd : decode M.2.1 pc = .ok (.dup, 1)) (ha : a.category = 1) (k : TT M d (pc + 1) lo (a :: a :: st) σ Q) : TT M d pc lo (a :: st) σ Q := by
  intro l p e s m args below meth c G ad cI cJ cO C H locs ls hP hS hl
  exact lv_dup C.1 C.2.1 hd (by rw [cv_cat]; exact ha) (k l p e s m args below meth c G ad cI cJ cO C H locs ls hP hS hl)
theorem T_dup2 {a b : Value} (hd : decode M.2.1 pc = .ok (.dup2, 1)) (ha : a.category = 1) (hb : b.category = 1) (k : TT M d (pc + 1) lo (a :: b :: a :: b :: st) σ Q) : TT M d pc lo (a :: b :: st) σ Q := by
  intro l p e s m args below meth c G ad cI cJ cO C H locs ls hP hS hl
  exact lv_dup2_11 C.1 C.2.1 hd (by rw [cv_cat]; exact ha) (by rw [cv_cat]; exact hb) (k l p e s m args below meth c G ad cI cJ cO C H locs ls hP hS hl)
theorem T_pop {a : Value} (hd : decode M.2.1 pc = .ok (.pop, 1)) (ha : a.category = 1) (k : TT M d (pc + 1) lo (st) σ Q) : TT M d pc lo (a :: st) σ Q := by
  intro l p e s m args below meth c G ad cI cJ cO C H locs ls hP hS hl
  exact lv_pop C.1 C.2.1 hd (by rw [cv_cat]; exact ha) (k l p e s m args below meth c G ad cI cJ cO C H locs ls hP hS hl)
theorem T_goto {off : Int} {tgt : Nat} (hd : decode M.2.1 pc = .ok (.goto off, 3)) (ht : (pc : Int) + off = (tgt : Int)) (k : TT M d tgt lo st σ Q) : TT M d pc lo st σ Q := by
  intro l p e s m args below meth c G ad cI cJ cO C H locs ls hP hS hl
  exact lv_goto C.1 C.2.1 hd ht (k l p e s m args below meth c G ad cI cJ cO C H locs ls hP hS hl)
theorem T_ifeq {x : Int32} {off : Int} {tgt : Nat} (hd : decode M.2.1 pc = .ok (.ifCond .eq off, 3)) (ht : (pc : Int) + off = (tgt : Int)) (kt : x = 0 → TT M d tgt lo st σ Q) (kf : ¬ x = 0 → TT M d (pc + 3) lo st σ Q) : TT M d pc lo (.int x :: st) σ Q := by
  intro l p e s m args below meth c G ad cI cJ cO C H locs ls hP hS hl
  exact lv_if_eq C.1 C.2.1 hd ht (fun h => kt h l p e s m args below meth c G ad cI cJ cO C H locs ls hP hS hl) (fun h => kf h l p e s m args below meth c G ad cI cJ cO C H locs ls hP hS hl)
theorem T_ifne {x : Int32} {off : Int} {tgt : Nat} (hd : decode M.2.1 pc = .ok (.ifCond .ne off, 3)) (ht : (pc : Int) + off = (tgt : Int)) (kt : ¬ x = 0 → TT M d tgt lo st σ Q) (kf : x = 0 → TT M d (pc + 3) lo st σ Q) : TT M d pc lo (.int x :: st) σ Q := by
  intro l p e s m args below meth c G ad cI cJ cO C H locs ls hP hS hl
  exact lv_if_ne C.1 C.2.1 hd ht (fun h => kt h l p e s m args below meth c G ad cI cJ cO C H locs ls hP hS hl) (fun h => kf h l p e s m args below meth c G ad cI cJ cO C H locs ls hP hS hl)
theorem T_iflt {x : Int32} {off : Int} {tgt : Nat} (hd : decode M.2.1 pc = .ok (.ifCond .lt off, 3)) (ht : (pc : Int) + off = (tgt : Int)) (kt : x < 0 → TT M d tgt lo st σ Q) (kf : ¬ x < 0 → TT M d (pc + 3) lo st σ Q) : TT M d pc lo (.int x :: st) σ Q := by
  intro l p e s m args below meth c G ad cI cJ cO C H locs ls hP hS hl
  exact lv_if_lt C.1 C.2.1 hd ht (fun h => kt h l p e s m args below meth c G ad cI cJ cO C H locs ls hP hS hl) (fun h => kf h l p e s m args below meth c G ad cI cJ cO C H locs ls hP hS hl)
theorem T_ifge {x : Int32} {off : Int} {tgt : Nat} (hd : decode M.2.1 pc = .ok (.ifCond .ge off, 3)) (ht : (pc : Int) + off = (tgt : Int)) (kt : 0 ≤ x → TT M d tgt lo st σ Q) (kf : ¬ 0 ≤ x → TT M d (pc + 3) lo st σ Q) : TT M d pc lo (.int x :: st) σ Q := by
  intro l p e s m args below meth c G ad cI cJ cO C H locs ls hP hS hl
  exact lv_if_ge C.1 C.2.1 hd ht (fun h => kt h l p e s m args below meth c G ad cI cJ cO C H locs ls hP hS hl) (fun h => kf h l p e s m args below meth c G ad cI cJ cO C H locs ls hP hS hl)
theorem T_ifgt {x : Int32} {off : Int} {tgt : Nat} (hd : decode M.2.1 pc = .ok (.ifCond .gt off, 3)) (ht : (pc : Int) + off = (tgt : Int)) (kt : 0 < x → TT M d tgt lo st σ Q) (kf : ¬ 0 < x → TT M d (pc + 3) lo st σ Q) : TT M d pc lo (.int x :: st) σ Q := by
  intro l p e s m args below meth c G ad cI cJ cO C H locs ls hP hS hl
  exact lv_if_gt C.1 C.2.1 hd ht (fun h => kt h l p e s m args below meth c G ad cI cJ cO C H locs ls hP hS hl) (fun h => kf h l p e s m args below meth c G ad cI cJ cO C H locs ls hP hS hl)
theorem T_ifle {x : Int32} {off : Int} {tgt : Nat} (hd : decode M.2.1 pc = .ok (.ifCond .le off, 3)) (ht : (pc : Int) + off = (tgt : Int)) (kt : x ≤ 0 → TT M d tgt lo st σ Q) (kf : ¬ x ≤ 0 → TT M d (pc + 3) lo st σ Q) : TT M d pc lo (.int x :: st) σ Q := by
  intro l p e s m args below meth c G ad cI cJ cO C H locs ls hP hS hl
  exact lv_if_le C.1 C.2.1 hd ht (fun h => kt h l p e s m args below meth c G ad cI cJ cO C H locs ls hP hS hl) (fun h => kf h l p e s m args below meth c G ad cI cJ cO C H locs ls hP hS hl)
theorem T_ceq {x y : Int32} {off : Int} {tgt : Nat} (hd : decode M.2.1 pc = .ok (.if_icmp .eq off, 3)) (ht : (pc : Int) + off = (tgt : Int)) (kt : x = y → TT M d tgt lo st σ Q) (kf : ¬ x = y → TT M d (pc + 3) lo st σ Q) : TT M d pc lo (.int y :: .int x :: st) σ Q := by
  intro l p e s m args below meth c G ad cI cJ cO C H locs ls hP hS hl
  exact lv_icmp_eq C.1 C.2.1 hd ht (fun h => kt h l p e s m args below meth c G ad cI cJ cO C H locs ls hP hS hl) (fun h => kf h l p e s m args below meth c G ad cI cJ cO C H locs ls hP hS hl)
theorem T_cne {x y : Int32} {off : Int} {tgt : Nat} (hd : decode M.2.1 pc = .ok (.if_icmp .ne off, 3)) (ht : (pc : Int) + off = (tgt : Int)) (kt : ¬ x = y → TT M d tgt lo st σ Q) (kf : x = y → TT M d (pc + 3) lo st σ Q) : TT M d pc lo (.int y :: .int x :: st) σ Q := by
  intro l p e s m args below meth c G ad cI cJ cO C H locs ls hP hS hl
  exact lv_icmp_ne C.1 C.2.1 hd ht (fun h => kt h l p e s m args below meth c G ad cI cJ cO C H locs ls hP hS hl) (fun h => kf h l p e s m args below meth c G ad cI cJ cO C H locs ls hP hS hl)
theorem T_clt {x y : Int32} {off : Int} {tgt : Nat} (hd : decode M.2.1 pc = .ok (.if_icmp .lt off, 3)) (ht : (pc : Int) + off = (tgt : Int)) (kt : x < y → TT M d tgt lo st σ Q) (kf : ¬ x < y → TT M d (pc + 3) lo st σ Q) : TT M d pc lo (.int y :: .int x :: st) σ Q := by
  intro l p e s m args below meth c G ad cI cJ cO C H locs ls hP hS hl
  exact lv_icmp_lt C.1 C.2.1 hd ht (fun h => kt h l p e s m args below meth c G ad cI cJ cO C H locs ls hP hS hl) (fun h => kf h l p e s m args below meth c G ad cI cJ cO C H locs ls hP hS hl)
theorem T_cge {x y : Int32} {off : Int} {tgt : Nat} (hd : decode M.2.1 pc = .ok (.if_icmp .ge off, 3)) (ht : (pc : Int) + off = (tgt : Int)) (kt : y ≤ x → TT M d tgt lo st σ Q) (kf : ¬ y ≤ x → TT M d (pc + 3) lo st σ Q) : TT M d pc lo (.int y :: .int x :: st) σ Q := by
  intro l p e s m args below meth c G ad cI cJ cO C H locs ls hP hS hl
  exact lv_icmp_ge C.1 C.2.1 hd ht (fun h => kt h l p e s m args below meth c G ad cI cJ cO C H locs ls hP hS hl) (fun h => kf h l p e s m args below meth c G ad cI cJ cO C H locs ls hP hS hl)
theorem T_cgt {x y : Int32} {off : Int} {tgt : Nat} (hd : decode M.2.1 pc = .ok (.if_icmp .gt off, 3)) (ht : (pc : Int) + off = (tgt : Int)) (kt : y < x → TT M d tgt lo st σ Q) (kf : ¬ y < x → TT M d (pc + 3) lo st σ Q) : TT M d pc lo (.int y :: .int x :: st) σ Q := by
  intro l p e s m args below meth c G ad cI cJ cO C H locs ls hP hS hl
  exact lv_icmp_gt C.1 C.2.1 hd ht (fun h => kt h l p e s m args below meth c G ad cI cJ cO C H locs ls hP hS hl) (fun h => kf h l p e s m args below meth c G ad cI cJ cO C H locs ls hP hS hl)
theorem T_cle {x y : Int32} {off : Int} {tgt : Nat} (hd : decode M.2.1 pc = .ok (.if_icmp .le off, 3)) (ht : (pc : Int) + off = (tgt : Int)) (kt : x ≤ y → TT M d tgt lo st σ Q) (kf : ¬ x ≤ y → TT M d (pc + 3) lo st σ Q) : TT M d pc lo (.int y :: .int x :: st) σ Q := by
  intro l p e s m args below meth c G ad cI cJ cO C H locs ls hP hS hl
  exact lv_icmp_le C.1 C.2.1 hd ht (fun h => kt h l p e s m args below meth c G ad cI cJ cO C H locs ls hP hS hl) (fun h => kf h l p e s m args below meth c G ad cI cJ cO C H locs ls hP hS hl)
theorem T_swIn {dflt a b : Int} {offs : Array Int} {len : Nat} {x : Int32} {off : Int} {tgt : Nat} (hd : decode M.2.1 pc = .ok (.tableswitch dflt a b offs, len)) (h1 : ¬ x.toInt < a) (h2 : ¬ b < x.toInt) (ho : offs[(x.toInt - a).toNat]? = some off) (ht : (pc : Int) + off = (tgt : Int)) (k : TT M d tgt lo st σ Q) : TT M d pc lo (.int x :: st) σ Q := by
  intro l p e s m args below meth c G ad cI cJ cO C H locs ls hP hS hl
  exact lv_tableIn C.1 C.2.1 hd h1 h2 ho ht (k l p e s m args below meth c G ad cI cJ cO C H locs ls hP hS hl)
theorem T_swOut {dflt a b : Int} {offs : Array Int} {len : Nat} {x : Int32} {tgt : Nat} (hd : decode M.2.1 pc = .ok (.tableswitch dflt a b offs, len)) (h : x.toInt < a ∨ b < x.toInt) (ht : (pc : Int) + dflt = (tgt : Int)) (k : TT M d tgt lo st σ Q) : TT M d pc lo (.int x :: st) σ Q := by
  intro l p e s m args below meth c G ad cI cJ cO C H locs ls hP hS hl
  exact lv_tableOut C.1 C.2.1 hd h ht (k l p e s m args below meth c G ad cI cJ cO C H locs ls hP hS hl)
theorem T_look {dflt : Int} {ps : Array (Int × Int)} {len : Nat} {x : Int32} {off : Int} {tgt : Nat} (hd : decode M.2.1 pc = .ok (.lookupswitch dflt ps, len)) (hp : (ps.toList.zip (ps.toList.drop 1)).all (fun (a, next) => a.1 < next.1) = true) (ho : Op.lookupswitch.offset ps.toList dflt x.toInt = off) (ht : (pc : Int) + off = (tgt : Int)) (k : TT M d tgt lo st σ Q) : TT M d pc lo (.int x :: st) σ Q := by
  intro l p e s m args below meth c G ad cI cJ cO C H locs ls hP hS hl
  exact lv_lookup C.1 C.2.1 hd hp ho ht (k l p e s m args below meth c G ad cI cJ cO C H locs ls hP hS hl)
def asc (ad : Nat → Nat) (lo : List (Option Value)) : List (Nat × Value) := (List.range lo.length).filterMap (fun j => (lo.getD j none).map (fun v => (j, cv ad v)))
theorem asc_mem {ad : Nat → Nat} {lo : List (Option Value)} {q : Nat × Value} : q ∈ asc ad lo ↔ ∃ v, lo[q.1]? = some (some v) ∧ q.2 = cv ad v := by
  unfold asc
  rw [List.mem_filterMap]
  constructor
  · rintro ⟨j, hj, h⟩
    have hj := List.mem_range.mp hj
    rw [List.getD_eq_getElem?_getD, List.getElem?_eq_getElem hj] at h
    cases hv : lo[j] with
    | none => simp [hv] at h
    | some v =>
      simp [hv] at h
      subst h
      exact ⟨v, by rw [List.getElem?_eq_getElem hj, hv], rfl⟩
  · rintro ⟨v, h1, h2⟩
    have hj := (List.getElem?_eq_some_iff.mp h1).1
    refine ⟨q.1, List.mem_range.mpr hj, ?_⟩
    rw [List.getD_eq_getElem?_getD, h1]
    show some (q.1, cv ad v) = some q
    rw [← h2]
theorem LH.has {ad : Nat → Nat} {ls : Array Slot} {nL : Nat} (h : LH ad ls nL lo) : lv_has ls nL (asc ad lo) := by
  refine ⟨h.1, h.2.1, fun q hq => ?_⟩
  obtain ⟨v, h1, h2⟩ := asc_mem.mp hq
  rw [h2]; exact h.2.2 _ _ h1
def noL (lo : List (Option Value)) (i : Nat) : Bool := match i with
  | 0 => true
  | j + 1 => match lo[j]? with
    | some (some (.long _)) => false
    | some (some (.double _)) => false
    | _ => true
theorem noL_cat {i j : Nat} {v : Value} (h : noL lo i = true) (hj : j + 1 = i) (hv : lo[j]? = some (some v)) : ¬ v.category = 2 := by
  subst hj
  simp only [noL, hv] at h
  cases v <;> simp_all [Value.category]
theorem LH.set1 {ad : Nat → Nat} {ls : Array Slot} {nL i : Nat} {v : Value} {f : Nat × Value → Bool} (hf : f = fun q => !(q.1 == i) && !(q.1 + 1 == i && q.2.category == 2)) (hn : noL lo i = true) (h : lv_has ls nL ((i, cv ad v) :: (asc ad lo).filter f)) : LH ad ls nL (lo.set i (some v)) := by
  refine ⟨h.1, h.2.1, fun j w hw => ?_⟩
  rw [List.getElem?_set] at hw
  by_cases hij : i = j
  · subst hij
    rw [if_pos rfl] at hw
    split at hw
    · cases hw
      exact h.2.2 (i, cv ad v) List.mem_cons_self
    · cases hw
  · rw [if_neg hij] at hw
    refine h.2.2 (j, cv ad w) (List.mem_cons_of_mem _ (List.mem_filter.mpr ⟨asc_mem.mpr ⟨w, hw, rfl⟩, ?_⟩))
    subst hf
    simp only [Bool.and_eq_true, Bool.not_eq_true', beq_eq_false_iff_ne, Bool.and_eq_false_iff]
    refine ⟨fun e => hij e.symm, ?_⟩
    by_cases h1 : j + 1 = i
    · right; rw [cv_cat]; simpa using noL_cat hn h1 hw
    · left; simpa using h1
theorem LH.set2 {ad : Nat → Nat} {ls : Array Slot} {nL i : Nat} {v : Value} {f : Nat × Value → Bool} (hf : f = fun q => !(q.1 == i) && (!(q.1 == i + 1) && !(q.1 + 1 == i && q.2.category == 2))) (hn : noL lo i = true) (h : lv_has ls nL ((i, cv ad v) :: (asc ad lo).filter f)) : LH ad ls nL ((lo.set i (some v)).set (i + 1) none) := by
  refine ⟨h.1, h.2.1, fun j w hw => ?_⟩
  rw [List.getElem?_set] at hw
  by_cases hij1 : i + 1 = j
  · rw [if_pos hij1] at hw
    split at hw <;> cases hw
  rw [if_neg hij1, List.getElem?_set] at hw
  by_cases hij : i = j
  · subst hij
    rw [if_pos rfl] at hw
    split at hw
    · cases hw
      exact h.2.2 (i, cv ad v) List.mem_cons_self
    · cases hw
  · rw [if_neg hij] at hw
    refine h.2.2 (j, cv ad w) (List.mem_cons_of_mem _ (List.mem_filter.mpr ⟨asc_mem.mpr ⟨w, hw, rfl⟩, ?_⟩))
    subst hf
    simp only [Bool.and_eq_true, Bool.not_eq_true', beq_eq_false_iff_ne, Bool.and_eq_false_iff]
    refine ⟨fun e => hij e.symm, fun e => hij1 e.symm, ?_⟩
    by_cases h1 : j + 1 = i
    · right; rw [cv_cat]; simpa using noL_cat hn h1 hw
    · left; simpa using h1
theorem T_iload_n {n : Fin 4} {i : Nat} {x : Int32} (hd : decode M.2.1 pc = .ok (.iload_n n, 1)) (hi : (n : Nat) = i) (hv : lo[i]? = some (some (.int x))) (k : TT M d (pc + 1) lo (.int x :: st) σ Q) : TT M d pc lo st σ Q := by
  intro l p e s m args below meth c G ad cI cJ cO C H locs ls hP hS hl
  exact lv_iload_n C.1 C.2.1 hd hi (hl.2.2 _ _ hv) (k l p e s m args below meth c G ad cI cJ cO C H locs ls hP hS hl)
theorem T_iload {i : Nat} {x : Int32} (hd : decode M.2.1 pc = .ok (.iload i, 2)) (hv : lo[i]? = some (some (.int x))) (k : TT M d (pc + 2) lo (.int x :: st) σ Q) : TT M d pc lo st σ Q := by
  intro l p e s m args below meth c G ad cI cJ cO C H locs ls hP hS hl
  exact lv_iload C.1 C.2.1 hd (hl.2.2 _ _ hv) (k l p e s m args below meth c G ad cI cJ cO C H locs ls hP hS hl)
theorem T_istore_n {n : Fin 4} {i : Nat} {x : Int32} (hd : decode M.2.1 pc = .ok (.istore_n n, 1)) (hi : (n : Nat) = i) (hn : i < M.2.2.1) (ho : noL lo i = true) (k : TT M d (pc + 1) (lo.set i (some (.int x))) st σ Q) : TT M d pc lo (.int x :: st) σ Q := by
  intro l p e s m args below meth c G ad cI cJ cO C H locs ls hP hS hl
  exact lv_istore_n C.1 C.2.1 hd hi hl.has hn rfl (fun ls hl => k l p e s m args below meth c G ad cI cJ cO C H locs ls hP hS (LH.set1 (v := .int x) rfl ho hl))
theorem T_istore {i : Nat} {x : Int32} (hd : decode M.2.1 pc = .ok (.istore i, 2)) (hn : i < M.2.2.1) (ho : noL lo i = true) (k : TT M d (pc + 2) (lo.set i (some (.int x))) st σ Q) : TT M d pc lo (.int x :: st) σ Q := by
  intro l p e s m args below meth c G ad cI cJ cO C H locs ls hP hS hl
  exact lv_istore C.1 C.2.1 hd hl.has hn rfl (fun ls hl => k l p e s m args below meth c G ad cI cJ cO C H locs ls hP hS (LH.set1 (v := .int x) rfl ho hl))
theorem T_lload_n {n : Fin 4} {i : Nat} {x : Int64} (hd : decode M.2.1 pc = .ok (.lload_n n, 1)) (hi : (n : Nat) = i) (hv : lo[i]? = some (some (.long x))) (k : TT M d (pc + 1) lo (.long x :: st) σ Q) : TT M d pc lo st σ Q := by
  intro l p e s m args below meth c G ad cI cJ cO C H locs ls hP hS hl
  exact lv_lload_n C.1 C.2.1 hd hi (hl.2.2 _ _ hv) (k l p e s m args below meth c G ad cI cJ cO C H locs ls hP hS hl)
theorem T_lload {i : Nat} {x : Int64} (hd : decode M.2.1 pc = .ok (.lload i, 2)) (hv : lo[i]? = some (some (.long x))) (k : TT M d (pc + 2) lo (.long x :: st) σ Q) : TT M d pc lo st σ Q := by
  intro l p e s m args below meth c G ad cI cJ cO C H locs ls hP hS hl
  exact lv_lload C.1 C.2.1 hd (hl.2.2 _ _ hv) (k l p e s m args below meth c G ad cI cJ cO C H locs ls hP hS hl)
theorem T_lstore_n {n : Fin 4} {i : Nat} {x : Int64} (hd : decode M.2.1 pc = .ok (.lstore_n n, 1)) (hi : (n : Nat) = i) (hn : i + 1 < M.2.2.1) (ho : noL lo i = true) (k : TT M d (pc + 1) ((lo.set i (some (.long x))).set (i + 1) none) st σ Q) : TT M d pc lo (.long x :: st) σ Q := by
  intro l p e s m args below meth c G ad cI cJ cO C H locs ls hP hS hl
  exact lv_lstore_n C.1 C.2.1 hd hi hl.has hn rfl (fun ls hl => k l p e s m args below meth c G ad cI cJ cO C H locs ls hP hS (LH.set2 (v := .long x) rfl ho hl))
theorem T_lstore {i : Nat} {x : Int64} (hd : decode M.2.1 pc = .ok (.lstore i, 2)) (hn : i + 1 < M.2.2.1) (ho : noL lo i = true) (k : TT M d (pc + 2) ((lo.set i (some (.long x))).set (i + 1) none) st σ Q) : TT M d pc lo (.long x :: st) σ Q := by
  intro l p e s m args below meth c G ad cI cJ cO C H locs ls hP hS hl
  exact lv_lstore C.1 C.2.1 hd hl.has hn rfl (fun ls hl => k l p e s m args below meth c G ad cI cJ cO C H locs ls hP hS (LH.set2 (v := .long x) rfl ho hl))
theorem T_aload_n {n : Fin 4} {i : Nat} {x : Nat} (hd : decode M.2.1 pc = .ok (.aload_n n, 1)) (hi : (n : Nat) = i) (hv : lo[i]? = some (some (.ref x))) (k : TT M d (pc + 1) lo (.ref x :: st) σ Q) : TT M d pc lo st σ Q := by
  intro l p e s m args below meth c G ad cI cJ cO C H locs ls hP hS hl
  exact lv_aload_n C.1 C.2.1 hd hi (hl.2.2 _ _ hv) (k l p e s m args below meth c G ad cI cJ cO C H locs ls hP hS hl)
theorem T_aload {i : Nat} {x : Nat} (hd : decode M.2.1 pc = .ok (.aload i, 2)) (hv : lo[i]? = some (some (.ref x))) (k : TT M d (pc + 2) lo (.ref x :: st) σ Q) : TT M d pc lo st σ Q := by
  intro l p e s m args below meth c G ad cI cJ cO C H locs ls hP hS hl
  exact lv_aload C.1 C.2.1 hd (hl.2.2 _ _ hv) (k l p e s m args below meth c G ad cI cJ cO C H locs ls hP hS hl)
theorem T_astore_n {n : Fin 4} {i : Nat} {x : Nat} (hd : decode M.2.1 pc = .ok (.astore_n n, 1)) (hi : (n : Nat) = i) (hn : i < M.2.2.1) (ho : noL lo i = true) (k : TT M d (pc + 1) (lo.set i (some (.ref x))) st σ Q) : TT M d pc lo (.ref x :: st) σ Q := by
  intro l p e s m args below meth c G ad cI cJ cO C H locs ls hP hS hl
  exact lv_astore_n C.1 C.2.1 hd hi hl.has hn rfl (fun ls hl => k l p e s m args below meth c G ad cI cJ cO C H locs ls hP hS (LH.set1 (v := .ref x) rfl ho hl))
theorem T_astore {i : Nat} {x : Nat} (hd : decode M.2.1 pc = .ok (.astore i, 2)) (hn : i < M.2.2.1) (ho : noL lo i = true) (k : TT M d (pc + 2) (lo.set i (some (.ref x))) st σ Q) : TT M d pc lo (.ref x :: st) σ Q := by
  intro l p e s m args below meth c G ad cI cJ cO C H locs ls hP hS hl
  exact lv_astore C.1 C.2.1 hd hl.has hn rfl (fun ls hl => k l p e s m args below meth c G ad cI cJ cO C H locs ls hP hS (LH.set1 (v := .ref x) rfl ho hl))
theorem T_iinc {i : Nat} {n : Int} {x : Int32} (hd : decode M.2.1 pc = .ok (.iinc i n, 3)) (hv : lo[i]? = some (some (.int x))) (hn : i < M.2.2.1) (ho : noL lo i = true) (k : TT M d (pc + 3) (lo.set i (some (.int (x + Int32.ofInt n)))) st σ Q) : TT M d pc lo st σ Q := by
  intro l p e s m args below meth c G ad cI cJ cO C H locs ls hP hS hl
  obtain ⟨j, hj⟩ := List.getElem?_of_mem (asc_mem.mpr ⟨_, hv, rfl⟩ : (i, cv ad (.int x)) ∈ asc ad lo)
  exact lv_iinc C.1 C.2.1 hd hl.has hj rfl hn rfl (fun ls hl => k l p e s m args below meth c G ad cI cJ cO C H locs ls hP hS (LH.set1 (v := .int (x + Int32.ofInt n)) rfl ho hl))
end TROWS
section TPAT
variable {M : MD} {d pc : Nat} {lo : List (Option Value)} {st : List Value} {S : Nat → Nat → Int32} {L : Nat → Nat → Int64} {R : Nat × Nat × Nat} {σ : SG} {Q : Option Value → SG → Prop}
variable {t : List (Option Value)}
theorem T_ild0  {x : Int32} (hd : decode M.2.1 pc = .ok (.iload_n 0, 1)) (k : TT M d (pc + 1) (some (.int x) :: t) (.int x :: st) σ Q) : TT M d pc (some (.int x) :: t) st σ Q := T_iload_n hd (i := 0) rfl rfl k
theorem T_ist0 {a0 : Option Value} {x : Int32} (hd : decode M.2.1 pc = .ok (.istore_n 0, 1)) (hn : 0 < M.2.2.1) (ho : noL (a0 :: t) 0 = true) (k : TT M d (pc + 1) (some (.int x) :: t) st σ Q) : TT M d pc (a0 :: t) (.int x :: st) σ Q := T_istore_n hd (i := 0) rfl hn ho k
theorem T_lld0  {x : Int64} (hd : decode M.2.1 pc = .ok (.lload_n 0, 1)) (k : TT M d (pc + 1) (some (.long x) :: t) (.long x :: st) σ Q) : TT M d pc (some (.long x) :: t) st σ Q := T_lload_n hd (i := 0) rfl rfl k
theorem T_lst0 {a0 b : Option Value} {x : Int64} (hd : decode M.2.1 pc = .ok (.lstore_n 0, 1)) (hn : 0 + 1 < M.2.2.1) (ho : noL (a0 :: b :: t) 0 = true) (k : TT M d (pc + 1) (some (.long x) :: none :: t) st σ Q) : TT M d pc (a0 :: b :: t) (.long x :: st) σ Q := T_lstore_n hd (i := 0) rfl hn ho k
theorem T_ald0  {x : Nat} (hd : decode M.2.1 pc = .ok (.aload_n 0, 1)) (k : TT M d (pc + 1) (some (.ref x) :: t) (.ref x :: st) σ Q) : TT M d pc (some (.ref x) :: t) st σ Q := T_aload_n hd (i := 0) rfl rfl k
theorem T_ast0 {a0 : Option Value} {x : Nat} (hd : decode M.2.1 pc = .ok (.astore_n 0, 1)) (hn : 0 < M.2.2.1) (ho : noL (a0 :: t) 0 = true) (k : TT M d (pc + 1) (some (.ref x) :: t) st σ Q) : TT M d pc (a0 :: t) (.ref x :: st) σ Q := T_astore_n hd (i := 0) rfl hn ho k
theorem T_inc0  {x : Int32} {n : Int} (hd : decode M.2.1 pc = .ok (.iinc 0 n, 3)) (hn : 0 < M.2.2.1) (ho : noL (some (.int x) :: t) 0 = true) (k : TT M d (pc + 3) (some (.int (x + Int32.ofInt n)) :: t) st σ Q) : TT M d pc (some (.int x) :: t) st σ Q := T_iinc hd rfl hn ho k
theorem T_ild1 {a0 : Option Value} {x : Int32} (hd : decode M.2.1 pc = .ok (.iload_n 1, 1)) (k : TT M d (pc + 1) (a0 :: some (.int x) :: t) (.int x :: st) σ Q) : TT M d pc (a0 :: some (.int x) :: t) st σ Q := T_iload_n hd (i := 1) rfl rfl k
theorem T_ist1 {a0 a1 : Option Value} {x : Int32} (hd : decode M.2.1 pc = .ok (.istore_n 1, 1)) (hn : 1 < M.2.2.1) (ho : noL (a0 :: a1 :: t) 1 = true) (k : TT M d (pc + 1) (a0 :: some (.int x) :: t) st σ Q) : TT M d pc (a0 :: a1 :: t) (.int x :: st) σ Q := T_istore_n hd (i := 1) rfl hn ho k
theorem T_lld1 {a0 : Option Value} {x : Int64} (hd : decode M.2.1 pc = .ok (.lload_n 1, 1)) (k : TT M d (pc + 1) (a0 :: some (.long x) :: t) (.long x :: st) σ Q) : TT M d pc (a0 :: some (.long x) :: t) st σ Q := T_lload_n hd (i := 1) rfl rfl k
theorem T_lst1 {a0 a1 b : Option Value} {x : Int64} (hd : decode M.2.1 pc = .ok (.lstore_n 1, 1)) (hn : 1 + 1 < M.2.2.1) (ho : noL (a0 :: a1 :: b :: t) 1 = true) (k : TT M d (pc + 1) (a0 :: some (.long x) :: none :: t) st σ Q) : TT M d pc (a0 :: a1 :: b :: t) (.long x :: st) σ Q := T_lstore_n hd (i := 1) rfl hn ho k
theorem T_ald1 {a0 : Option Value} {x : Nat} (hd : decode M.2.1 pc = .ok (.aload_n 1, 1)) (k : TT M d (pc + 1) (a0 :: some (.ref x) :: t) (.ref x :: st) σ Q) : TT M d pc (a0 :: some (.ref x) :: t) st σ Q := T_aload_n hd (i := 1) rfl rfl k
theorem T_ast1 {a0 a1 : Option Value} {x : Nat} (hd : decode M.2.1 pc = .ok (.astore_n 1, 1)) (hn : 1 < M.2.2.1) (ho : noL (a0 :: a1 :: t) 1 = true) (k : TT M d (pc + 1) (a0 :: some (.ref x) :: t) st σ Q) : TT M d pc (a0 :: a1 :: t) (.ref x :: st) σ Q := T_astore_n hd (i := 1) rfl hn ho k
theorem T_inc1 {a0 : Option Value} {x : Int32} {n : Int} (hd : decode M.2.1 pc = .ok (.iinc 1 n, 3)) (hn : 1 < M.2.2.1) (ho : noL (a0 :: some (.int x) :: t) 1 = true) (k : TT M d (pc + 3) (a0 :: some (.int (x + Int32.ofInt n)) :: t) st σ Q) : TT M d pc (a0 :: some (.int x) :: t) st σ Q := T_iinc hd rfl hn ho k
theorem T_ild2 {a0 a1 : Option Value} {x : Int32} (hd : decode M.2.1 pc = .ok (.iload_n 2, 1)) (k : TT M d (pc + 1) (a0 :: a1 :: some (.int x) :: t) (.int x :: st) σ Q) : TT M d pc (a0 :: a1 :: some (.int x) :: t) st σ Q := T_iload_n hd (i := 2) rfl rfl k
theorem T_ist2 {a0 a1 a2 : Option Value} {x : Int32} (hd : decode M.2.1 pc = .ok (.istore_n 2, 1)) (hn : 2 < M.2.2.1) (ho : noL (a0 :: a1 :: a2 :: t) 2 = true) (k : TT M d (pc + 1) (a0 :: a1 :: some (.int x) :: t) st σ Q) : TT M d pc (a0 :: a1 :: a2 :: t) (.int x :: st) σ Q := T_istore_n hd (i := 2) rfl hn ho k
theorem T_lld2 {a0 a1 : Option Value} {x : Int64} (hd : decode M.2.1 pc = .ok (.lload_n 2, 1)) (k : TT M d (pc + 1) (a0 :: a1 :: some (.long x) :: t) (.long x :: st) σ Q) : TT M d pc (a0 :: a1 :: some (.long x) :: t) st σ Q := T_lload_n hd (i := 2) rfl rfl k
theorem T_lst2 {a0 a1 a2 b : Option Value} {x : Int64} (hd : decode M.2.1 pc = .ok (.lstore_n 2, 1)) (hn : 2 + 1 < M.2.2.1) (ho : noL (a0 :: a1 :: a2 :: b :: t) 2 = true) (k : TT M d (pc + 1) (a0 :: a1 :: some (.long x) :: none :: t) st σ Q) : TT M d pc (a0 :: a1 :: a2 :: b :: t) (.long x :: st) σ Q := T_lstore_n hd (i := 2) rfl hn ho k
theorem T_ald2 {a0 a1 : Option Value} {x : Nat} (hd : decode M.2.1 pc = .ok (.aload_n 2, 1)) (k : TT M d (pc + 1) (a0 :: a1 :: some (.ref x) :: t) (.ref x :: st) σ Q) : TT M d pc (a0 :: a1 :: some (.ref x) :: t) st σ Q := T_aload_n hd (i := 2) rfl rfl k
theorem T_ast2 {a0 a1 a2 : Option Value} {x : Nat} (hd : decode M.2.1 pc = .ok (.astore_n 2, 1)) (hn : 2 < M.2.2.1) (ho : noL (a0 :: a1 :: a2 :: t) 2 = true) (k : TT M d (pc + 1) (a0 :: a1 :: some (.ref x) :: t) st σ Q) : TT M d pc (a0 :: a1 :: a2 :: t) (.ref x :: st) σ Q := T_astore_n hd (i := 2) rfl hn ho k
theorem T_inc2 {a0 a1 : Option Value} {x : Int32} {n : Int} (hd : decode M.2.1 pc = .ok (.iinc 2 n, 3)) (hn : 2 < M.2.2.1) (ho : noL (a0 :: a1 :: some (.int x) :: t) 2 = true) (k : TT M d (pc + 3) (a0 :: a1 :: some (.int (x + Int32.ofInt n)) :: t) st σ Q) : TT M d pc (a0 :: a1 :: some (.int x) :: t) st σ Q := T_iinc hd rfl hn ho k
theorem T_ild3 {a0 a1 a2 : Option Value} {x : Int32} (hd : decode M.2.1 pc = .ok (.iload_n 3, 1)) (k : TT M d (pc + 1) (a0 :: a1 :: a2 :: some (.int x) :: t) (.int x :: st) σ Q) : TT M d pc (a0 :: a1 :: a2 :: some (.int x) :: t) st σ Q := T_iload_n hd (i := 3) rfl rfl k
theorem T_ist3 {a0 a1 a2 a3 : Option Value} {x : Int32} (hd : decode M.2.1 pc = .ok (.istore_n 3, 1)) (hn : 3 < M.2.2.1) (ho : noL (a0 :: a1 :: a2 :: a3 :: t) 3 = true) (k : TT M d (pc + 1) (a0 :: a1 :: a2 :: some (.int x) :: t) st σ Q) : TT M d pc (a0 :: a1 :: a2 :: a3 :: t) (.int x :: st) σ Q := T_istore_n hd (i := 3) rfl hn ho k
theorem T_lld3 {a0 a1 a2 : Option Value} {x : Int64} (hd : decode M.2.1 pc = .ok (.lload_n 3, 1)) (k : TT M d (pc + 1) (a0 :: a1 :: a2 :: some (.long x) :: t) (.long x :: st) σ Q) : TT M d pc (a0 :: a1 :: a2 :: some (.long x) :: t) st σ Q := T_lload_n hd (i := 3) rfl rfl k
theorem T_lst3 {a0 a1 a2 a3 b : Option Value} {x : Int64} (hd : decode M.2.1 pc = .ok (.lstore_n 3, 1)) (hn : 3 + 1 < M.2.2.1) (ho : noL (a0 :: a1 :: a2 :: a3 :: b :: t) 3 = true) (k : TT M d (pc + 1) (a0 :: a1 :: a2 :: some (.long x) :: none :: t) st σ Q) : TT M d pc (a0 :: a1 :: a2 :: a3 :: b :: t) (.long x :: st) σ Q := T_lstore_n hd (i := 3) rfl hn ho k
theorem T_ald3 {a0 a1 a2 : Option Value} {x : Nat} (hd : decode M.2.1 pc = .ok (.aload_n 3, 1)) (k : TT M d (pc + 1) (a0 :: a1 :: a2 :: some (.ref x) :: t) (.ref x :: st) σ Q) : TT M d pc (a0 :: a1 :: a2 :: some (.ref x) :: t) st σ Q := T_aload_n hd (i := 3) rfl rfl k
theorem T_ast3 {a0 a1 a2 a3 : Option Value} {x : Nat} (hd : decode M.2.1 pc = .ok (.astore_n 3, 1)) (hn : 3 < M.2.2.1) (ho : noL (a0 :: a1 :: a2 :: a3 :: t) 3 = true) (k : TT M d (pc + 1) (a0 :: a1 :: a2 :: some (.ref x) :: t) st σ Q) : TT M d pc (a0 :: a1 :: a2 :: a3 :: t) (.ref x :: st) σ Q := T_astore_n hd (i := 3) rfl hn ho k
theorem T_inc3 {a0 a1 a2 : Option Value} {x : Int32} {n : Int} (hd : decode M.2.1 pc = .ok (.iinc 3 n, 3)) (hn : 3 < M.2.2.1) (ho : noL (a0 :: a1 :: a2 :: some (.int x) :: t) 3 = true) (k : TT M d (pc + 3) (a0 :: a1 :: a2 :: some (.int (x + Int32.ofInt n)) :: t) st σ Q) : TT M d pc (a0 :: a1 :: a2 :: some (.int x) :: t) st σ Q := T_iinc hd rfl hn ho k
theorem T_ild4 {a0 a1 a2 a3 : Option Value} {x : Int32} (hd : decode M.2.1 pc = .ok (.iload 4, 2)) (k : TT M d (pc + 2) (a0 :: a1 :: a2 :: a3 :: some (.int x) :: t) (.int x :: st) σ Q) : TT M d pc (a0 :: a1 :: a2 :: a3 :: some (.int x) :: t) st σ Q := T_iload hd rfl k
theorem T_ist4 {a0 a1 a2 a3 a4 : Option Value} {x : Int32} (hd : decode M.2.1 pc = .ok (.istore 4, 2)) (hn : 4 < M.2.2.1) (ho : noL (a0 :: a1 :: a2 :: a3 :: a4 :: t) 4 = true) (k : TT M d (pc + 2) (a0 :: a1 :: a2 :: a3 :: some (.int x) :: t) st σ Q) : TT M d pc (a0 :: a1 :: a2 :: a3 :: a4 :: t) (.int x :: st) σ Q := T_istore hd hn ho k
theorem T_lld4 {a0 a1 a2 a3 : Option Value} {x : Int64} (hd : decode M.2.1 pc = .ok (.lload 4, 2)) (k : TT M d (pc + 2) (a0 :: a1 :: a2 :: a3 :: some (.long x) :: t) (.long x :: st) σ Q) : TT M d pc (a0 :: a1 :: a2 :: a3 :: some (.long x) :: t) st σ Q := T_lload hd rfl k
theorem T_lst4 {a0 a1 a2 a3 a4 b : Option Value} {x : Int64} (hd : decode M.2.1 pc = .ok (.lstore 4, 2)) (hn : 4 + 1 < M.2.2.1) (ho : noL (a0 :: a1 :: a2 :: a3 :: a4 :: b :: t) 4 = true) (k : TT M d (pc + 2) (a0 :: a1 :: a2 :: a3 :: some (.long x) :: none :: t) st σ Q) : TT M d pc (a0 :: a1 :: a2 :: a3 :: a4 :: b :: t) (.long x :: st) σ Q := T_lstore hd hn ho k
theorem T_ald4 {a0 a1 a2 a3 : Option Value} {x : Nat} (hd : decode M.2.1 pc = .ok (.aload 4, 2)) (k : TT M d (pc + 2) (a0 :: a1 :: a2 :: a3 :: some (.ref x) :: t) (.ref x :: st) σ Q) : TT M d pc (a0 :: a1 :: a2 :: a3 :: some (.ref x) :: t) st σ Q := T_aload hd rfl k
theorem T_ast4 {a0 a1 a2 a3 a4 : Option Value} {x : Nat} (hd : decode M.2.1 pc = .ok (.astore 4, 2)) (hn : 4 < M.2.2.1) (ho : noL (a0 :: a1 :: a2 :: a3 :: a4 :: t) 4 = true) (k : TT M d (pc + 2) (a0 :: a1 :: a2 :: a3 :: some (.ref x) :: t) st σ Q) : TT M d pc (a0 :: a1 :: a2 :: a3 :: a4 :: t) (.ref x :: st) σ Q := T_astore hd hn ho k
theorem T_inc4 {a0 a1 a2 a3 : Option Value} {x : Int32} {n : Int} (hd : decode M.2.1 pc = .ok (.iinc 4 n, 3)) (hn : 4 < M.2.2.1) (ho : noL (a0 :: a1 :: a2 :: a3 :: some (.int x) :: t) 4 = true) (k : TT M d (pc + 3) (a0 :: a1 :: a2 :: a3 :: some (.int (x + Int32.ofInt n)) :: t) st σ Q) : TT M d pc (a0 :: a1 :: a2 :: a3 :: some (.int x) :: t) st σ Q := T_iinc hd rfl hn ho k
theorem T_ild5 {a0 a1 a2 a3 a4 : Option Value} {x : Int32} (hd : decode M.2.1 pc = .ok (.iload 5, 2)) (k : TT M d (pc + 2) (a0 :: a1 :: a2 :: a3 :: a4 :: some (.int x) :: t) (.int x :: st) σ Q) : TT M d pc (a0 :: a1 :: a2 :: a3 :: a4 :: some (.int x) :: t) st σ Q := T_iload hd rfl k
theorem T_ist5 {a0 a1 a2 a3 a4 a5 : Option Value} {x : Int32} (hd : decode M.2.1 pc = .ok (.istore 5, 2)) (hn : 5 < M.2.2.1) (ho : noL (a0 :: a1 :: a2 :: a3 :: a4 :: a5 :: t) 5 = true) (k : TT M d (pc + 2) (a0 :: a1 :: a2 :: a3 :: a4 :: some (.int x) :: t) st σ Q) : TT M d pc (a0 :: a1 :: a2 :: a3 :: a4 :: a5 :: t) (.int x :: st) σ Q := T_istore hd hn ho k
theorem T_lld5 {a0 a1 a2 a3 a4 : Option Value} {x : Int64} (hd : decode M.2.1 pc = .ok (.lload 5, 2)) (k : TT M d (pc + 2) (a0 :: a1 :: a2 :: a3 :: a4 :: some (.long x) :: t) (.long x :: st) σ Q) : TT M d pc (a0 :: a1 :: a2 :: a3 :: a4 :: some (.long x) :: t) st σ Q := T_lload hd rfl k
theorem T_lst5 {a0 a1 a2 a3 a4 a5 b : Option Value} {x : Int64} (hd : decode M.2.1 pc = .ok (.lstore 5, 2)) (hn : 5 + 1 < M.2.2.1) (ho : noL (a0 :: a1 :: a2 :: a3 :: a4 :: a5 :: b :: t) 5 = true) (k : TT M d (pc + 2) (a0 :: a1 :: a2 :: a3 :: a4 :: some (.long x) :: none :: t) st σ Q) : TT M d pc (a0 :: a1 :: a2 :: a3 :: a4 :: a5 :: b :: t) (.long x :: st) σ Q := T_lstore hd hn ho k
theorem T_ald5 {a0 a1 a2 a3 a4 : Option Value} {x : Nat} (hd : decode M.2.1 pc = .ok (.aload 5, 2)) (k : TT M d (pc + 2) (a0 :: a1 :: a2 :: a3 :: a4 :: some (.ref x) :: t) (.ref x :: st) σ Q) : TT M d pc (a0 :: a1 :: a2 :: a3 :: a4 :: some (.ref x) :: t) st σ Q := T_aload hd rfl k
theorem T_ast5 {a0 a1 a2 a3 a4 a5 : Option Value} {x : Nat} (hd : decode M.2.1 pc = .ok (.astore 5, 2)) (hn : 5 < M.2.2.1) (ho : noL (a0 :: a1 :: a2 :: a3 :: a4 :: a5 :: t) 5 = true) (k : TT M d (pc + 2) (a0 :: a1 :: a2 :: a3 :: a4 :: some (.ref x) :: t) st σ Q) : TT M d pc (a0 :: a1 :: a2 :: a3 :: a4 :: a5 :: t) (.ref x :: st) σ Q := T_astore hd hn ho k
theorem T_inc5 {a0 a1 a2 a3 a4 : Option Value} {x : Int32} {n : Int} (hd : decode M.2.1 pc = .ok (.iinc 5 n, 3)) (hn : 5 < M.2.2.1) (ho : noL (a0 :: a1 :: a2 :: a3 :: a4 :: some (.int x) :: t) 5 = true) (k : TT M d (pc + 3) (a0 :: a1 :: a2 :: a3 :: a4 :: some (.int (x + Int32.ofInt n)) :: t) st σ Q) : TT M d pc (a0 :: a1 :: a2 :: a3 :: a4 :: some (.int x) :: t) st σ Q := T_iinc hd rfl hn ho k
theorem T_ild6 {a0 a1 a2 a3 a4 a5 : Option Value} {x : Int32} (hd : decode M.2.1 pc = .ok (.iload 6, 2)) (k : TT M d (pc + 2) (a0 :: a1 :: a2 :: a3 :: a4 :: a5 :: some (.int x) :: t) (.int x :: st) σ Q) : TT M d pc (a0 :: a1 :: a2 :: a3 :: a4 :: a5 :: some (.int x) :: t) st σ Q := T_iload hd rfl k
theorem T_ist6 {a0 a1 a2 a3 a4 a5 a6 : Option Value} {x : Int32} (hd : decode M.2.1 pc = .ok (.istore 6, 2)) (hn : 6 < M.2.2.1) (ho : noL (a0 :: a1 :: a2 :: a3 :: a4 :: a5 :: a6 :: t) 6 = true) (k : TT M d (pc + 2) (a0 :: a1 :: a2 :: a3 :: a4 :: a5 :: some (.int x) :: t) st σ Q) : TT M d pc (a0 :: a1 :: a2 :: a3 :: a4 :: a5 :: a6 :: t) (.int x :: st) σ Q := T_istore hd hn ho k
theorem T_lld6 {a0 a1 a2 a3 a4 a5 : Option Value} {x : Int64} (hd : decode M.2.1 pc = .ok (.lload 6, 2)) (k : TT M d (pc + 2) (a0 :: a1 :: a2 :: a3 :: a4 :: a5 :: some (.long x) :: t) (.long x :: st) σ Q) : TT M d pc (a0 :: a1 :: a2 :: a3 :: a4 :: a5 :: some (.long x) :: t) st σ Q := T_lload hd rfl k
theorem T_lst6 {a0 a1 a2 a3 a4 a5 a6 b : Option Value} {x : Int64} (hd : decode M.2.1 pc = .ok (.lstore 6, 2)) (hn : 6 + 1 < M.2.2.1) (ho : noL (a0 :: a1 :: a2 :: a3 :: a4 :: a5 :: a6 :: b :: t) 6 = true) (k : TT M d (pc + 2) (a0 :: a1 :: a2 :: a3 :: a4 :: a5 :: some (.long x) :: none :: t) st σ Q) : TT M d pc (a0 :: a1 :: a2 :: a3 :: a4 :: a5 :: a6 :: b :: t) (.long x :: st) σ Q := T_lstore hd hn ho k
theorem T_ald6 {a0 a1 a2 a3 a4 a5 : Option Value} {x : Nat} (hd : decode M.2.1 pc = .ok (.aload 6, 2)) (k : TT M d (pc + 2) (a0 :: a1 :: a2 :: a3 :: a4 :: a5 :: some (.ref x) :: t) (.ref x :: st) σ Q) : TT M d pc (a0 :: a1 :: a2 :: a3 :: a4 :: a5 :: some (.ref x) :: t) st σ Q := T_aload hd rfl k
theorem T_ast6 {a0 a1 a2 a3 a4 a5 a6 : Option Value} {x : Nat} (hd : decode M.2.1 pc = .ok (.astore 6, 2)) (hn : 6 < M.2.2.1) (ho : noL (a0 :: a1 :: a2 :: a3 :: a4 :: a5 :: a6 :: t) 6 = true) (k : TT M d (pc + 2) (a0 :: a1 :: a2 :: a3 :: a4 :: a5 :: some (.ref x) :: t) st σ Q) : TT M d pc (a0 :: a1 :: a2 :: a3 :: a4 :: a5 :: a6 :: t) (.ref x :: st) σ Q := T_astore hd hn ho k
theorem T_inc6 {a0 a1 a2 a3 a4 a5 : Option Value} {x : Int32} {n : Int} (hd : decode M.2.1 pc = .ok (.iinc 6 n, 3)) (hn : 6 < M.2.2.1) (ho : noL (a0 :: a1 :: a2 :: a3 :: a4 :: a5 :: some (.int x) :: t) 6 = true) (k : TT M d (pc + 3) (a0 :: a1 :: a2 :: a3 :: a4 :: a5 :: some (.int (x + Int32.ofInt n)) :: t) st σ Q) : TT M d pc (a0 :: a1 :: a2 :: a3 :: a4 :: a5 :: some (.int x) :: t) st σ Q := T_iinc hd rfl hn ho k
theorem T_ild7 {a0 a1 a2 a3 a4 a5 a6 : Option Value} {x : Int32} (hd : decode M.2.1 pc = .ok (.iload 7, 2)) (k : TT M d (pc + 2) (a0 :: a1 :: a2 :: a3 :: a4 :: a5 :: a6 :: some (.int x) :: t) (.int x :: st) σ Q) : TT M d pc (a0 :: a1 :: a2 :: a3 :: a4 :: a5 :: a6 :: some (.int x) :: t) st σ Q := T_iload hd rfl k
theorem T_ist7 {a0 a1 a2 a3 a4 a5 a6 a7 : Option Value} {x : Int32} (hd : decode M.2.1 pc = .ok (.istore 7, 2)) (hn : 7 < M.2.2.1) (ho : noL (a0 :: a1 :: a2 :: a3 :: a4 :: a5 :: a6 :: a7 :: t) 7 = true) (k : TT M d (pc + 2) (a0 :: a1 :: a2 :: a3 :: a4 :: a5 :: a6 :: some (.int x) :: t) st σ Q) : TT M d pc (a0 :: a1 :: a2 :: a3 :: a4 :: a5 :: a6 :: a7 :: t) (.int x :: st) σ Q := T_istore hd hn ho k
theorem T_lld7 {a0 a1 a2 a3 a4 a5 a6 : Option Value} {x : Int64} (hd : decode M.2.1 pc = .ok (.lload 7, 2)) (k : TT M d (pc + 2) (a0 :: a1 :: a2 :: a3 :: a4 :: a5 :: a6 :: some (.long x) :: t) (.long x :: st) σ Q) : TT M d pc (a0 :: a1 :: a2 :: a3 :: a4 :: a5 :: a6 :: some (.long x) :: t) st σ Q := T_lload hd rfl k
theorem T_lst7 {a0 a1 a2 a3 a4 a5 a6 a7 b : Option Value} {x : Int64} (hd : decode M.2.1 pc = .ok (.lstore 7, 2)) (hn : 7 + 1 < M.2.2.1) (ho : noL (a0 :: a1 :: a2 :: a3 :: a4 :: a5 :: a6 :: a7 :: b :: t) 7 = true) (k : TT M d (pc + 2) (a0 :: a1 :: a2 :: a3 :: a4 :: a5 :: a6 :: some (.long x) :: none :: t) st σ Q) : TT M d pc (a0 :: a1 :: a2 :: a3 :: a4 :: a5 :: a6 :: a7 :: b :: t) (.long x :: st) σ Q := T_lstore hd hn ho k
theorem T_ald7 {a0 a1 a2 a3 a4 a5 a6 : Option Value} {x : Nat} (hd : decode M.2.1 pc = .ok (.aload 7, 2)) (k : TT M d (pc + 2) (a0 :: a1 :: a2 :: a3 :: a4 :: a5 :: a6 :: some (.ref x) :: t) (.ref x :: st) σ Q) : TT M d pc (a0 :: a1 :: a2 :: a3 :: a4 :: a5 :: a6 :: some (.ref x) :: t) st σ Q := T_aload hd rfl k
theorem T_ast7 {a0 a1 a2 a3 a4 a5 a6 a7 : Option Value} {x : Nat} (hd : decode M.2.1 pc = .ok (.astore 7, 2)) (hn : 7 < M.2.2.1) (ho : noL (a0 :: a1 :: a2 :: a3 :: a4 :: a5 :: a6 :: a7 :: t) 7 = true) (k : TT M d (pc + 2) (a0 :: a1 :: a2 :: a3 :: a4 :: a5 :: a6 :: some (.ref x) :: t) st σ Q) : TT M d pc (a0 :: a1 :: a2 :: a3 :: a4 :: a5 :: a6 :: a7 :: t) (.ref x :: st) σ Q := T_astore hd hn ho k
theorem T_inc7 {a0 a1 a2 a3 a4 a5 a6 : Option Value} {x : Int32} {n : Int} (hd : decode M.2.1 pc = .ok (.iinc 7 n, 3)) (hn : 7 < M.2.2.1) (ho : noL (a0 :: a1 :: a2 :: a3 :: a4 :: a5 :: a6 :: some (.int x) :: t) 7 = true) (k : TT M d (pc + 3) (a0 :: a1 :: a2 :: a3 :: a4 :: a5 :: a6 :: some (.int (x + Int32.ofInt n)) :: t) st σ Q) : TT M d pc (a0 :: a1 :: a2 :: a3 :: a4 :: a5 :: a6 :: some (.int x) :: t) st σ Q := T_iinc hd rfl hn ho k
theorem T_ild8 {a0 a1 a2 a3 a4 a5 a6 a7 : Option Value} {x : Int32} (hd : decode M.2.1 pc = .ok (.iload 8, 2)) (k : TT M d (pc + 2) (a0 :: a1 :: a2 :: a3 :: a4 :: a5 :: a6 :: a7 :: some (.int x) :: t) (.int x :: st) σ Q) : TT M d pc (a0 :: a1 :: a2 :: a3 :: a4 :: a5 :: a6 :: a7 :: some (.int x) :: t) st σ Q := T_iload hd rfl k
theorem T_ist8 {a0 a1 a2 a3 a4 a5 a6 a7 a8 : Option Value} {x : Int32} (hd : decode M.2.1 pc = .ok (.istore 8, 2)) (hn : 8 < M.2.2.1) (ho : noL (a0 :: a1 :: a2 :: a3 :: a4 :: a5 :: a6 :: a7 :: a8 :: t) 8 = true) (k : TT M d (pc + 2) (a0 :: a1 :: a2 :: a3 :: a4 :: a5 :: a6 :: a7 :: some (.int x) :: t) st σ Q) : TT M d pc (a0 :: a1 :: a2 :: a3 :: a4 :: a5 :: a6 :: a7 :: a8 :: t) (.int x :: st) σ Q := T_istore hd hn ho k
theorem T_lld8 {a0 a1 a2 a3 a4 a5 a6 a7 : Option Value} {x : Int64} (hd : decode M.2.1 pc = .ok (.lload 8, 2)) (k : TT M d (pc + 2) (a0 :: a1 :: a2 :: a3 :: a4 :: a5 :: a6 :: a7 :: some (.long x) :: t) (.long x :: st) σ Q) : TT M d pc (a0 :: a1 :: a2 :: a3 :: a4 :: a5 :: a6 :: a7 :: some (.long x) :: t) st σ Q := T_lload hd rfl k
theorem T_lst8 {a0 a1 a2 a3 a4 a5 a6 a7 a8 b : Option Value} {x : Int64} (hd : decode M.2.1 pc = .ok (.lstore 8, 2)) (hn : 8 + 1 < M.2.2.1) (ho : noL (a0 :: a1 :: a2 :: a3 :: a4 :: a5 :: a6 :: a7 :: a8 :: b :: t) 8 = true) (k : TT M d (pc + 2) (a0 :: a1 :: a2 :: a3 :: a4 :: a5 :: a6 :: a7 :: some (.long x) :: none :: t) st σ Q) : TT M d pc (a0 :: a1 :: a2 :: a3 :: a4 :: a5 :: a6 :: a7 :: a8 :: b :: t) (.long x :: st) σ Q := T_lstore hd hn ho k
theorem T_ald8 {a0 a1 a2 a3 a4 a5 a6 a7 : Option Value} {x : Nat} (hd : decode M.2.1 pc = .ok (.aload 8, 2)) (k : TT M d (pc + 2) (a0 :: a1 :: a2 :: a3 :: a4 :: a5 :: a6 :: a7 :: some (.ref x) :: t) (.ref x :: st) σ Q) : TT M d pc (a0 :: a1 :: a2 :: a3 :: a4 :: a5 :: a6 :: a7 :: some (.ref x) :: t) st σ Q := T_aload hd rfl k
theorem T_ast8 {a0 a1 a2 a3 a4 a5 a6 a7 a8 : Option Value} {x : Nat} (hd : decode M.2.1 pc = .ok (.astore 8, 2)) (hn : 8 < M.2.2.1) (ho : noL (a0 :: a1 :: a2 :: a3 :: a4 :: a5 :: a6 :: a7 :: a8 :: t) 8 = true) (k : TT M d (pc + 2) (a0 :: a1 :: a2 :: a3 :: a4 :: a5 :: a6 :: a7 :: some (.ref x) :: t) st σ Q) : TT M d pc (a0 :: a1 :: a2 :: a3 :: a4 :: a5 :: a6 :: a7 :: a8 :: t) (.ref x :: st) σ Q := T_astore hd hn ho k
theorem T_inc8 {a0 a1 a2 a3 a4 a5 a6 a7 : Option Value} {x : Int32} {n : Int} (hd : decode M.2.1 pc = .ok (.iinc 8 n, 3)) (hn : 8 < M.2.2.1) (ho : noL (a0 :: a1 :: a2 :: a3 :: a4 :: a5 :: a6 :: a7 :: some (.int x) :: t) 8 = true) (k : TT M d (pc + 3) (a0 :: a1 :: a2 :: a3 :: a4 :: a5 :: a6 :: a7 :: some (.int (x + Int32.ofInt n)) :: t) st σ Q) : TT M d pc (a0 :: a1 :: a2 :: a3 :: a4 :: a5 :: a6 :: a7 :: some (.int x) :: t) st σ Q := T_iinc hd rfl hn ho k
theorem T_ild9 {a0 a1 a2 a3 a4 a5 a6 a7 a8 : Option Value} {x : Int32} (hd : decode M.2.1 pc = .ok (.iload 9, 2)) (k : TT M d (pc + 2) (a0 :: a1 :: a2 :: a3 :: a4 :: a5 :: a6 :: a7 :: a8 :: some (.int x) :: t) (.int x :: st) σ Q) : TT M d pc (a0 :: a1 :: a2 :: a3 :: a4 :: a5 :: a6 :: a7 :: a8 :: some (.int x) :: t) st σ Q := T_iload hd rfl k
theorem T_ist9 {a0 a1 a2 a3 a4 a5 a6 a7 a8 a9 : Option Value} {x : Int32} (hd : decode M.2.1 pc = .ok (.istore 9, 2)) (hn : 9 < M.2.2.1) (ho : noL (a0 :: a1 :: a2 :: a3 :: a4 :: a5 :: a6 :: a7 :: a8 :: a9 :: t) 9 = true) (k : TT M d (pc + 2) (a0 :: a1 :: a2 :: a3 :: a4 :: a5 :: a6 :: a7 :: a8 :: some (.int x) :: t) st σ Q) : TT M d pc (a0 :: a1 :: a2 :: a3 :: a4 :: a5 :: a6 :: a7 :: a8 :: a9 :: t) (.int x :: st) σ Q := T_istore hd hn ho k
theorem T_lld9 {a0 a1 a2 a3 a4 a5 a6 a7 a8 : Option Value} {x : Int64} (hd : decode M.2.1 pc = .ok (.lload 9, 2)) (k : TT M d (pc + 2) (a0 :: a1 :: a2 :: a3 :: a4 :: a5 :: a6 :: a7 :: a8 :: some (.long x) :: t) (.long x :: st) σ Q) : TT M d pc (a0 :: a1 :: a2 :: a3 :: a4 :: a5 :: a6 :: a7 :: a8 :: some (.long x) :: t) st σ Q := T_lload hd rfl k
theorem T_lst9 {a0 a1 a2 a3 a4 a5 a6 a7 a8 a9 b : Option Value} {x : Int64} (hd : decode M.2.1 pc = .ok (.lstore 9, 2)) (hn : 9 + 1 < M.2.2.1) (ho : noL (a0 :: a1 :: a2 :: a3 :: a4 :: a5 :: a6 :: a7 :: a8 :: a9 :: b :: t) 9 = true) (k : TT M d (pc + 2) (a0 :: a1 :: a2 :: a3 :: a4 :: a5 :: a6 :: a7 :: a8 :: some (.long x) :: none :: t) st σ Q) : TT M d pc (a0 :: a1 :: a2 :: a3 :: a4 :: a5 :: a6 :: a7 :: a8 :: a9 :: b :: t) (.long x :: st) σ Q := T_lstore hd hn ho k
theorem T_ald9 {a0 a1 a2 a3 a4 a5 a6 a7 a8 : Option Value} {x : Nat} (hd : decode M.2.1 pc = .ok (.aload 9, 2)) (k : TT M d (pc + 2) (a0 :: a1 :: a2 :: a3 :: a4 :: a5 :: a6 :: a7 :: a8 :: some (.ref x) :: t) (.ref x :: st) σ Q) : TT M d pc (a0 :: a1 :: a2 :: a3 :: a4 :: a5 :: a6 :: a7 :: a8 :: some (.ref x) :: t) st σ Q := T_aload hd rfl k
theorem T_ast9 {a0 a1 a2 a3 a4 a5 a6 a7 a8 a9 : Option Value} {x : Nat} (hd : decode M.2.1 pc = .ok (.astore 9, 2)) (hn : 9 < M.2.2.1) (ho : noL (a0 :: a1 :: a2 :: a3 :: a4 :: a5 :: a6 :: a7 :: a8 :: a9 :: t) 9 = true) (k : TT M d (pc + 2) (a0 :: a1 :: a2 :: a3 :: a4 :: a5 :: a6 :: a7 :: a8 :: some (.ref x) :: t) st σ Q) : TT M d pc (a0 :: a1 :: a2 :: a3 :: a4 :: a5 :: a6 :: a7 :: a8 :: a9 :: t) (.ref x :: st) σ Q := T_astore hd hn ho k
theorem T_inc9 {a0 a1 a2 a3 a4 a5 a6 a7 a8 : Option Value} {x : Int32} {n : Int} (hd : decode M.2.1 pc = .ok (.iinc 9 n, 3)) (hn : 9 < M.2.2.1) (ho : noL (a0 :: a1 :: a2 :: a3 :: a4 :: a5 :: a6 :: a7 :: a8 :: some (.int x) :: t) 9 = true) (k : TT M d (pc + 3) (a0 :: a1 :: a2 :: a3 :: a4 :: a5 :: a6 :: a7 :: a8 :: some (.int (x + Int32.ofInt n)) :: t) st σ Q) : TT M d pc (a0 :: a1 :: a2 :: a3 :: a4 :: a5 :: a6 :: a7 :: a8 :: some (.int x) :: t) st σ Q := T_iinc hd rfl hn ho k
theorem T_ild10 {a0 a1 a2 a3 a4 a5 a6 a7 a8 a9 : Option Value} {x : Int32} (hd : decode M.2.1 pc = .ok (.iload 10, 2)) (k : TT M d (pc + 2) (a0 :: a1 :: a2 :: a3 :: a4 :: a5 :: a6 :: a7 :: a8 :: a9 :: some (.int x) :: t) (.int x :: st) σ Q) : TT M d pc (a0 :: a1 :: a2 :: a3 :: a4 :: a5 :: a6 :: a7 :: a8 :: a9 :: some (.int x) :: t) st σ Q := T_iload hd rfl k
theorem T_ist10 {a0 a1 a2 a3 a4 a5 a6 a7 a8 a9 a10 : Option Value} {x : Int32} (hd : decode M.2.1 pc = .ok (.istore 10, 2)) (hn : 10 < M.2.2.1) (ho : noL (a0 :: a1 :: a2 :: a3 :: a4 :: a5 :: a6 :: a7 :: a8 :: a9 :: a10 :: t) 10 = true) (k : TT M d (pc + 2) (a0 :: a1 :: a2 :: a3 :: a4 :: a5 :: a6 :: a7 :: a8 :: a9 :: some (.int x) :: t) st σ Q) : TT M d pc (a0 :: a1 :: a2 :: a3 :: a4 :: a5 :: a6 :: a7 :: a8 :: a9 :: a10 :: t) (.int x :: st) σ Q := T_istore hd hn ho k
theorem T_lld10 {a0 a1 a2 a3 a4 a5 a6 a7 a8 a9 : Option Value} {x : Int64} (hd : decode M.2.1 pc = .ok (.lload 10, 2)) (k : TT M d (pc + 2) (a0 :: a1 :: a2 :: a3 :: a4 :: a5 :: a6 :: a7 :: a8 :: a9 :: some (.long x) :: t) (.long x :: st) σ Q) : TT M d pc (a0 :: a1 :: a2 :: a3 :: a4 :: a5 :: a6 :: a7 :: a8 :: a9 :: some (.long x) :: t) st σ Q := T_lload hd rfl k
theorem T_lst10 {a0 a1 a2 a3 a4 a5 a6 a7 a8 a9 a10 b : Option Value} {x : Int64} (hd : decode M.2.1 pc = .ok (.lstore 10, 2)) (hn : 10 + 1 < M.2.2.1) (ho : noL (a0 :: a1 :: a2 :: a3 :: a4 :: a5 :: a6 :: a7 :: a8 :: a9 :: a10 :: b :: t) 10 = true) (k : TT M d (pc + 2) (a0 :: a1 :: a2 :: a3 :: a4 :: a5 :: a6 :: a7 :: a8 :: a9 :: some (.long x) :: none :: t) st σ Q) : TT M d pc (a0 :: a1 :: a2 :: a3 :: a4 :: a5 :: a6 :: a7 :: a8 :: a9 :: a10 :: b :: t) (.long x :: st) σ Q := T_lstore hd hn ho k
theorem T_ald10 {a0 a1 a2 a3 a4 a5 a6 a7 a8 a9 : Option Value} {x : Nat} (hd : decode M.2.1 pc = .ok (.aload 10, 2)) (k : TT M d (pc + 2) (a0 :: a1 :: a2 :: a3 :: a4 :: a5 :: a6 :: a7 :: a8 :: a9 :: some (.ref x) :: t) (.ref x :: st) σ Q) : TT M d pc (a0 :: a1 :: a2 :: a3 :: a4 :: a5 :: a6 :: a7 :: a8 :: a9 :: some (.ref x) :: t) st σ Q := T_aload hd rfl k
theorem T_ast10 {a0 a1 a2 a3 a4 a5 a6 a7 a8 a9 a10 : Option Value} {x : Nat} (hd : decode M.2.1 pc = .ok (.astore 10, 2)) (hn : 10 < M.2.2.1) (ho : noL (a0 :: a1 :: a2 :: a3 :: a4 :: a5 :: a6 :: a7 :: a8 :: a9 :: a10 :: t) 10 = true) (k : TT M d (pc + 2) (a0 :: a1 :: a2 :: a3 :: a4 :: a5 :: a6 :: a7 :: a8 :: a9 :: some (.ref x) :: t) st σ Q) : TT M d pc (a0 :: a1 :: a2 :: a3 :: a4 :: a5 :: a6 :: a7 :: a8 :: a9 :: a10 :: t) (.ref x :: st) σ Q := T_astore hd hn ho k
theorem T_inc10 {a0 a1 a2 a3 a4 a5 a6 a7 a8 a9 : Option Value} {x : Int32} {n : Int} (hd : decode M.2.1 pc = .ok (.iinc 10 n, 3)) (hn : 10 < M.2.2.1) (ho : noL (a0 :: a1 :: a2 :: a3 :: a4 :: a5 :: a6 :: a7 :: a8 :: a9 :: some (.int x) :: t) 10 = true) (k : TT M d (pc + 3) (a0 :: a1 :: a2 :: a3 :: a4 :: a5 :: a6 :: a7 :: a8 :: a9 :: some (.int (x + Int32.ofInt n)) :: t) st σ Q) : TT M d pc (a0 :: a1 :: a2 :: a3 :: a4 :: a5 :: a6 :: a7 :: a8 :: a9 :: some (.int x) :: t) st σ Q := T_iinc hd rfl hn ho k
end TPAT
end
section
/-! rows of TT: fields, arrays, returns, calls -/
def cC (ci : Nat) : String := match ci with
  | 0 => RX0 | 1 => RX1 | 2 => RX2 | 3 => RX3 | 4 => RX4 | 5 => RX5 | 6 => RX6 | _ => RX7
def cT (ci : Nat) : u_T := match ci with
  | 0 => TX0 | 1 => TX1 | 2 => TX2 | 3 => TX3 | 4 => TX4 | 5 => TX5 | 6 => TX6 | _ => TX7
def cTy (ci : Nat) : Nat → FieldType := match ci with
  | 0 => tyX0 | 1 => tyX1 | 2 => tyX2 | 3 => tyX3 | 4 => tyX4 | 5 => tyX5 | 6 => tyX6 | _ => tyX7
theorem c_get {ci : Nat} (h : ci < 8) : vwCl[ci]? = some (cC ci, cT ci, nF ci) := by
  match ci, h with
  | 0, _ => rfl | 1, _ => rfl | 2, _ => rfl | 3, _ => rfl | 4, _ => rfl | 5, _ => rfl | 6, _ => rfl | 7, _ => rfl
  | k + 8, h => exact absurd h (by omega)
theorem c_in {ci : Nat} (h : ci < 8) : ∀ w ∈ u_ws (cC ci) (cT ci) (nF ci), w ∈ lU := by
  match ci, h with
  | 0, _ => exact inX0 | 1, _ => exact inX1 | 2, _ => exact inX2 | 3, _ => exact inX3 | 4, _ => exact inX4 | 5, _ => exact inX5 | 6, _ => exact inX6 | 7, _ => exact inX7
  | k + 8, h => exact absurd h (by omega)
theorem c_ty {ci : Nat} (h : ci < 8) : ∀ k, k < nF ci → parseFieldDescriptor (cT ci k).2.2.1 = some (cTy ci k) := by
  match ci, h with
  | 0, _ => exact tyX0_ok | 1, _ => exact tyX1_ok | 2, _ => exact tyX2_ok | 3, _ => exact tyX3_ok | 4, _ => exact tyX4_ok | 5, _ => exact tyX5_ok | 6, _ => exact tyX6_ok | 7, _ => exact tyX7_ok
  | k + 8, h => exact absurd h (by omega)
theorem c_nm {ci : Nat} (h : ci < 8) : ∀ a, a < nF ci → ∀ b, b < nF ci → a ≠ b → (cT ci a).2.1 ≠ (cT ci b).2.1 := by
  match ci, h with
  | 0, _ => exact nmX0 | 1, _ => exact nmX1 | 2, _ => exact nmX2 | 3, _ => exact nmX3 | 4, _ => exact nmX4 | 5, _ => exact nmX5 | 6, _ => exact nmX6 | 7, _ => exact nmX7
  | k + 8, h => exact absurd h (by omega)
def FL (own : String) (idx ci k : Nat) : Prop := ci < 8 ∧ k < nF ci ∧ Cond.fieldLink own idx (cT ci k).1 (cT ci k).2.1 (cT ci k).2.2.1 ∈ lU
def FLN (own : String) (idx ci k : Nat) : Prop := ci < 8 ∧ k < nF ci ∧ Cond.fieldLinkNest own idx (cT ci k).1 (cT ci k).2.1 (cT ci k).2.2.1 RX6 ∈ nwL
theorem ln_le (p : Nat) : ln p ≤ 256 := by
  unfold ln
  rw [List.getD_eq_getElem?_getD]
  cases h : lnL[p]? with
  | none => exact Nat.zero_le _
  | some v =>
    have hm := List.mem_of_getElem? h
    have : ∀ w ∈ lnL, w ≤ 256 := by decide +kernel
    exact this v hm
theorem nest_on {w : Cond} (h : isNest w = true) : w.onTables = true := by
  cases w <;> first | rfl | (simp [isNest] at h)
theorem nw_on {w : Cond} (h : w ∈ nwL) : w.onTables = true := nest_on (List.mem_filter.mp h).2
theorem nw_warm {s U : State} (hW : s.WarmedH U.vm) (h : ∀ w ∈ nwL, va_Nw w s) : ∀ w ∈ nwL, va_Nw w U := by
  intro w hw
  have h1 := h w hw
  have h2 := (List.mem_filter.mp hw).2
  cases w <;> first | exact va_Nw.warmF hW h1 | exact va_Nw.warmM hW h1 | (simp [isNest] at h2)
section THEAP
variable {M : MD} {d pc : Nat} {lo : List (Option Value)} {st : List Value} {S : Nat → Nat → Int32} {L : Nat → Nat → Int64} {R : Nat × Nat × Nat} {σ : SG} {Q : Option Value → SG → Prop}
theorem obj_at {ad : Nat → Nat} {cI cJ cO : ClassId} {p ci : Nat} (hk : kd p = ci) (hc : ci < 8) : (wl ad cI cJ cO σ)[p]? = some (ad p, .inr (ci, fvs ad σ p ci)) := by
  rw [wl_get (kd_lt hk (by omega)), cell_obj hk hc]
theorem T_getI {p ci k idx : Nat} (hd : decode M.2.1 pc = .ok (.getfield idx, 3)) (hf : FL M.1.cls idx ci k) (hk : kd p = ci) (hr : isR ci k = false) (kk : TT M d (pc + 3) lo (.int (S p k) :: st) (S, L, R) Q) : TT M d pc lo (.ref p :: st) (S, L, R) Q := by
  intro l p' e s m args below meth c G ad cI cJ cO C H locs ls hP hS hl
  have C0 := C
  obtain ⟨hx, hb, hml, hown, hts, hrt, hlk, hK, hN, hinj⟩ := C
  exact va_get hx hb hts (c_in hf.1) hown hK hP p (obj_at hk hf.1) (c_get hf.1) k hf.2.1 (hts _ hf.2.2) (fun _ h => h) (v := .int (S p k)) (by rw [fvs_get hf.2.1]; simp [fv, hr]) hd (kk l p' e s m args below meth c G ad cI cJ cO C0 H locs ls hP hS hl)
theorem T_getR {p ci k idx q : Nat} (hd : decode M.2.1 pc = .ok (.getfield idx, 3)) (hf : FL M.1.cls idx ci k) (hk : kd p = ci) (hr : isR ci k = true) (hq : rf R p k = q) (kk : TT M d (pc + 3) lo (.ref q :: st) (S, L, R) Q) : TT M d pc lo (.ref p :: st) (S, L, R) Q := by
  intro l p' e s m args below meth c G ad cI cJ cO C H locs ls hP hS hl
  have C0 := C
  obtain ⟨hx, hb, hml, hown, hts, hrt, hlk, hK, hN, hinj⟩ := C
  exact va_get hx hb hts (c_in hf.1) hown hK hP p (obj_at hk hf.1) (c_get hf.1) k hf.2.1 (hts _ hf.2.2) (fun _ h => h) (v := .ref (ad q)) (by rw [fvs_get hf.2.1]; simp [fv, hr, hq]) hd (kk l p' e s m args below meth c G ad cI cJ cO C0 H locs ls hP hS hl)
theorem T_getIN {p ci k idx : Nat} (hd : decode M.2.1 pc = .ok (.getfield idx, 3)) (hf : FLN M.1.cls idx ci k) (hk : kd p = ci) (hr : isR ci k = false) (kk : TT M d (pc + 3) lo (.int (S p k) :: st) (S, L, R) Q) : TT M d pc lo (.ref p :: st) (S, L, R) Q := by
  intro l p' e s m args below meth c G ad cI cJ cO C H locs ls hP hS hl
  have C0 := C
  obtain ⟨hx, hb, hml, hown, hts, hrt, hlk, hK, hN, hinj⟩ := C
  exact va_getN hx hb hts (c_in hf.1) hown hK hP p (obj_at hk hf.1) (c_get hf.1) k hf.2.1 (va_Nw.use (nw_on hf.2.2) (hN _ hf.2.2)) (fun _ h => h) (v := .int (S p k)) (by rw [fvs_get hf.2.1]; simp [fv, hr]) hd (kk l p' e s m args below meth c G ad cI cJ cO C0 H locs ls hP hS hl)
theorem set_fld {ad : Nat → Nat} {cI cJ cO : ClassId} {p ci k : Nat} {x : Int32} (hk : kd p = ci) (hc : ci < 8) (hf : k < nF ci) (hr : isR ci k = false) : (wl ad cI cJ cO (S, L, R)).set p (ad p, .inr (ci, (fvs ad (S, L, R) p ci).set k (.int x))) = wl ad cI cJ cO (uI S p k x, L, R) := by
  refine wl_set (kd_lt hk (by omega)) ?_ (fun q _ hqp => cell_off (uI_p hqp))
  rw [cell_obj hk hc, fvs_set hf]
  · simp [fv, hr, uI]
  · intro j _ hj
    simp [fv, uI, hj]
theorem T_put {p ci k idx : Nat} {x : Int32} {ty : FieldType} (hd : decode M.2.1 pc = .ok (.putfield idx, 3)) (hf : FL M.1.cls idx ci k) (hk : kd p = ci) (hr : isR ci k = false) (hfin : (cT ci k).2.2.2 = false) (hty : parseFieldDescriptor (cT ci k).2.2.1 = some ty) (hn : narrow ty (.int x) = .int x) (hft : fits ty (.int x) = true) (kk : TT M d (pc + 3) lo st (uI S p k x, L, R) Q) : TT M d pc lo (.int x :: .ref p :: st) (S, L, R) Q := by
  intro l p' e s m args below meth c G ad cI cJ cO C H locs ls hP hS hl
  have C0 := C
  obtain ⟨hx, hb, hml, hown, hts, hrt, hlk, hK, hN, hinj⟩ := C
  refine va_put hx hb hts (c_in hf.1) (cTy ci) (c_ty hf.1) (c_nm hf.1) hown hK hP (wl_D hinj) hS p (obj_at hk hf.1) (c_get hf.1) k hf.2.1 (hts _ hf.2.2) (fun _ h => h) hfin (v := .int x) hty hn hft (by simp [fvs, hf.2.1]) hd (fun H1 locs1 h1 h2 h3 => ?_)
  rw [set_fld hk hf.1 hf.2.1 hr] at h1
  exact kk l p' e s m args below meth c G ad cI cJ cO C0 H1 locs1 ls h1 h3 hl
theorem T_putI {p ci k idx : Nat} {x : Int32} (hd : decode M.2.1 pc = .ok (.putfield idx, 3)) (hf : FL M.1.cls idx ci k) (hk : kd p = ci) (hr : isR ci k = false) (hds : (cT ci k).2.2.1 = "I") (hfin : (cT ci k).2.2.2 = false) (kk : TT M d (pc + 3) lo st (uI S p k x, L, R) Q) : TT M d pc lo (.int x :: .ref p :: st) (S, L, R) Q :=
  T_put (ty := .int) hd hf hk hr hfin (by rw [hds]; decide) rfl rfl kk
theorem T_putZ {p ci k idx : Nat} {x : Int32} (hd : decode M.2.1 pc = .ok (.putfield idx, 3)) (hf : FL M.1.cls idx ci k) (hk : kd p = ci) (hr : isR ci k = false) (hds : (cT ci k).2.2.1 = "Z") (hfin : (cT ci k).2.2.2 = false) (hx : x = 0 ∨ x = 1) (kk : TT M d (pc + 3) lo st (uI S p k x, L, R) Q) : TT M d pc lo (.int x :: .ref p :: st) (S, L, R) Q :=
  T_put (ty := .boolean) hd hf hk hr hfin (by rw [hds]; decide) (by rcases hx with rfl | rfl <;> decide) (by rcases hx with rfl | rfl <;> decide) kk
theorem cell_offR {ad : Nat → Nat} {cI cJ cO : ClassId} {R' : Nat × Nat × Nat} {q : Nat} (h : ∀ k, rf R' q k = rf R q k) : cellE ad cI cJ cO (S, L, R') q = cellE ad cI cJ cO (S, L, R) q := by
  unfold cellE fvs
  have h2 : ∀ ci, fv ad (S, L, R') q ci = fv ad (S, L, R) q ci := by intro ci; funext k; simp only [fv, h]
  simp only [h2]
theorem T_putR {p ci k idx q : Nat} {R' : Nat × Nat × Nat} {ty : FieldType} (hd : decode M.2.1 pc = .ok (.putfield idx, 3)) (hf : FL M.1.cls idx ci k) (hk : kd p = ci) (hr : isR ci k = true) (hfin : (cT ci k).2.2.2 = false) (hty : parseFieldDescriptor (cT ci k).2.2.1 = some ty) (hn : ∀ a, narrow ty (.ref a) = .ref a) (hft : ∀ a, fits ty (.ref a) = true) (h1 : rf R' p k = q) (h2 : ∀ j, isR ci j = true → j ≠ k → rf R' p j = rf R p j) (h3 : ∀ a, a ≠ p → ∀ j, rf R' a j = rf R a j) (kk : TT M d (pc + 3) lo st (S, L, R') Q) : TT M d pc lo (.ref q :: .ref p :: st) (S, L, R) Q := by
  intro l p' e s m args below meth c G ad cI cJ cO C H locs ls hP hS hl
  have C0 := C
  obtain ⟨hx, hb, hml, hown, hts, hrt, hlk, hK, hN, hinj⟩ := C
  refine va_put hx hb hts (c_in hf.1) (cTy ci) (c_ty hf.1) (c_nm hf.1) hown hK hP (wl_D hinj) hS p (obj_at hk hf.1) (c_get hf.1) k hf.2.1 (hts _ hf.2.2) (fun _ h => h) hfin (v := .ref (ad q)) hty (hn _) (hft _) (by simp [fvs, hf.2.1]) hd (fun H1 locs1 g1 g2 g3 => ?_)
  have e1 : (wl ad cI cJ cO (S, L, R)).set p (ad p, .inr (ci, (fvs ad (S, L, R) p ci).set k (.ref (ad q)))) = wl ad cI cJ cO (S, L, R') := by
    have h8 : ci < 8 := hf.1
    refine wl_set (kd_lt hk (by omega)) ?_ (fun a _ hap => cell_offR (h3 a hap))
    rw [cell_obj hk hf.1, fvs_set hf.2.1]
    · simp [fv, hr, h1]
    · intro j _ hj
      cases hj2 : isR ci j with
      | true => simp [fv, h2 j hj2 hj]
      | false => simp [fv, hj2]
  rw [e1] at g1
  exact kk l p' e s m args below meth c G ad cI cJ cO C0 H1 locs1 ls g1 g3 hl
theorem T_putNow {idx q : Nat} (hd : decode M.2.1 pc = .ok (.putfield idx, 3)) (hf : FL M.1.cls idx 6 5) (kk : TT M d (pc + 3) lo st (S, L, (q, R.2.1, R.2.2)) Q) : TT M d pc lo (.ref q :: .ref 0 :: st) (S, L, R) Q :=
  T_putR (ty := .object "SaltBorder$Table") hd hf rfl rfl rfl (by decide +kernel) (fun _ => rfl) (fun _ => rfl) rfl (fun j _ hj => by simp [rf, hj]) (fun a ha j => by simp [rf, ha]) kk
theorem T_putSpare {idx q : Nat} (hd : decode M.2.1 pc = .ok (.putfield idx, 3)) (hf : FL M.1.cls idx 6 6) (kk : TT M d (pc + 3) lo st (S, L, (R.1, q, R.2.2)) Q) : TT M d pc lo (.ref q :: .ref 0 :: st) (S, L, R) Q :=
  T_putR (ty := .object "SaltBorder$Table") hd hf rfl rfl rfl (by decide +kernel) (fun _ => rfl) (fun _ => rfl) rfl (fun j _ hj => by simp [rf, hj]) (fun a ha j => by simp [rf, ha]) kk
theorem T_putCodes {idx q : Nat} (hd : decode M.2.1 pc = .ok (.putfield idx, 3)) (hf : FL M.1.cls idx 5 0) (kk : TT M d (pc + 3) lo st (S, L, (R.1, R.2.1, q)) Q) : TT M d pc lo (.ref q :: .ref 10 :: st) (S, L, R) Q := by
  refine T_putR (p := 10) (ty := .array .int) hd hf rfl rfl rfl (by decide +kernel) (fun _ => rfl) (fun _ => rfl) rfl (fun j h0 hj => ?_) (fun a ha j => ?_) kk
  · have : j = 0 := by simpa [isR, isRL] using h0
    exact absurd this hj
  · unfold rf; split <;> simp_all
end THEAP
end
section
/-! rows of TT: arrays, returns, calls; Met out of TT -/
section TARR
variable {M : MD} {d pc : Nat} {lo : List (Option Value)} {st : List Value} {S : Nat → Nat → Int32} {L : Nat → Nat → Int64} {R : Nat × Nat × Nat} {σ : SG} {Q : Option Value → SG → Prop}
theorem int_at {ad : Nat → Nat} {cI cJ cO : ClassId} {p : Nat} (hk : kd p = 8) : (wl ad cI cJ cO (S, L, R))[p]? = some (ad p, .inl (cI, ln p, .inl (S p))) := by
  rw [wl_get (kd_lt hk (by omega)), cell_int hk]
theorem long_at {ad : Nat → Nat} {cI cJ cO : ClassId} {p : Nat} (hk : kd p = 9) : (wl ad cI cJ cO (S, L, R))[p]? = some (ad p, .inl (cJ, ln p, .inr (.inl (L p)))) := by
  rw [wl_get (kd_lt hk (by omega)), cell_long hk]
theorem in_ln {p j : Nat} {i : Int32} (hj : j < ln p) (hi : i = nI j) : vp_in i (ln p) := by
  rw [hi]; exact vp_in_nI hj (by have := ln_le p; omega)
theorem cl_ln {p j : Nat} {i : Int32} (hj : j < ln p) (hi : i = nI j) : i.toNatClampNeg = j := by
  rw [hi]; exact nI_clamp (by have := ln_le p; omega)
theorem T_iald {p j : Nat} {i : Int32} (hd : decode M.2.1 pc = .ok (.iaload, 1)) (hk : kd p = 8) (hj : j < ln p) (hi : i = nI j) (kk : TT M d (pc + 1) lo (.int (S p j) :: st) (S, L, R) Q) : TT M d pc lo (.int i :: .ref p :: st) (S, L, R) Q := by
  intro l p' e s m args below meth c G ad cI cJ cO C H locs ls hP hS hl
  have C0 := C
  obtain ⟨hx, hb, hml, hown, hts, hrt, hlk, hK, hN, hinj⟩ := C
  have h := kk l p' e s m args below meth c G ad cI cJ cO C0 H locs ls hP hS hl
  refine va_iald hx hb hK hP p 0 (int_at hk) rfl (in_ln hj hi) hd ?_
  rw [cl_ln hj hi]; exact h
theorem T_lald {p j : Nat} {i : Int32} (hd : decode M.2.1 pc = .ok (.laload, 1)) (hk : kd p = 9) (hj : j < ln p) (hi : i = nI j) (kk : TT M d (pc + 1) lo (.long (L p j) :: st) (S, L, R) Q) : TT M d pc lo (.int i :: .ref p :: st) (S, L, R) Q := by
  intro l p' e s m args below meth c G ad cI cJ cO C H locs ls hP hS hl
  have C0 := C
  obtain ⟨hx, hb, hml, hown, hts, hrt, hlk, hK, hN, hinj⟩ := C
  have h := kk l p' e s m args below meth c G ad cI cJ cO C0 H locs ls hP hS hl
  refine va_lald hx hb hK hP p 1 (long_at hk) rfl (in_ln hj hi) hd ?_
  rw [cl_ln hj hi]; exact h
theorem T_aald {j : Nat} {i : Int32} (hd : decode M.2.1 pc = .ok (.aaload, 1)) (hj : j < 4) (hi : i = nI j) (kk : TT M d (pc + 1) lo (.ref (2 + j) :: st) σ Q) : TT M d pc lo (.int i :: .ref 1 :: st) σ Q := by
  intro l p' e s m args below meth c G ad cI cJ cO C H locs ls hP hS hl
  have C0 := C
  obtain ⟨hx, hb, hml, hown, hts, hrt, hlk, hK, hN, hinj⟩ := C
  have h := kk l p' e s m args below meth c G ad cI cJ cO C0 H locs ls hP hS hl
  have ha : (wl ad cI cJ cO σ)[1]? = some (ad 1, .inl (cO, 4, .inr (.inr (.inr (.inr (fun i => some (ad (2 + i)))))))) := by
    rw [wl_get (by decide), cell_sh rfl]
  refine va_aldq hx hb hK hP 1 2 ha rfl (by rw [hi]; exact vp_in_nI hj (by decide)) hd ?_
  rw [hi, nI_clamp (by omega)]; exact h
theorem T_iast {p j : Nat} {i x : Int32} (hd : decode M.2.1 pc = .ok (.iastore, 1)) (hk : kd p = 8) (hj : j < ln p) (hi : i = nI j) (kk : TT M d (pc + 1) lo st (uI S p j x, L, R) Q) : TT M d pc lo (.int x :: .int i :: .ref p :: st) (S, L, R) Q := by
  intro l p' e s m args below meth c G ad cI cJ cO C H locs ls hP hS hl
  have C0 := C
  obtain ⟨hx, hb, hml, hown, hts, hrt, hlk, hK, hN, hinj⟩ := C
  refine va_iast hx hb hK hP (wl_D hinj) hS p 0 (int_at hk) rfl (in_ln hj hi) hd (fun H1 locs1 h1 h2 h3 => ?_)
  rw [cl_ln hj hi, wl_set (σ' := (uI S p j x, L, R)) (kd_lt hk (by omega)) (by rw [cell_int hk]; show Sum.inl (cI, ln p, Sum.inl (uI S p j x p)) = _; rw [uI_row]) (fun q _ hqp => cell_off (uI_p hqp))] at h1
  exact kk l p' e s m args below meth c G ad cI cJ cO C0 H1 locs1 ls h1 h3 hl
theorem T_last {p j : Nat} {i : Int32} {x : Int64} (hd : decode M.2.1 pc = .ok (.lastore, 1)) (hk : kd p = 9) (hj : j < ln p) (hi : i = nI j) (kk : TT M d (pc + 1) lo st (S, uL L p j x, R) Q) : TT M d pc lo (.long x :: .int i :: .ref p :: st) (S, L, R) Q := by
  intro l p' e s m args below meth c G ad cI cJ cO C H locs ls hP hS hl
  have C0 := C
  obtain ⟨hx, hb, hml, hown, hts, hrt, hlk, hK, hN, hinj⟩ := C
  refine va_last hx hb hK hP (wl_D hinj) hS p 1 (long_at hk) rfl (in_ln hj hi) hd (fun H1 locs1 h1 h2 h3 => ?_)
  rw [cl_ln hj hi, wl_set (σ' := (S, uL L p j x, R)) (kd_lt hk (by omega)) (by rw [cell_long hk]; show Sum.inl (cJ, ln p, Sum.inr (Sum.inl (uL L p j x p))) = _; rw [uL_row]) (fun q _ hqp => cell_offL (uL_p hqp))] at h1
  exact kk l p' e s m args below meth c G ad cI cJ cO C0 H1 locs1 ls h1 h3 hl
theorem T_alen {p : Nat} (hd : decode M.2.1 pc = .ok (.arraylength, 1)) (hk : kd p = 8) (kk : TT M d (pc + 1) lo (.int (nI (ln p)) :: st) (S, L, R) Q) : TT M d pc lo (.ref p :: st) (S, L, R) Q := by
  intro l p' e s m args below meth c G ad cI cJ cO C H locs ls hP hS hl
  have C0 := C
  obtain ⟨hx, hb, hml, hown, hts, hrt, hlk, hK, hN, hinj⟩ := C
  exact va_alen hx hb hK hP p 0 (int_at hk) (ty := .int) rfl rfl hd (kk l p' e s m args below meth c G ad cI cJ cO C0 H locs ls hP hS hl)
theorem T_alenL {p : Nat} (hd : decode M.2.1 pc = .ok (.arraylength, 1)) (hk : kd p = 9) (kk : TT M d (pc + 1) lo (.int (nI (ln p)) :: st) (S, L, R) Q) : TT M d pc lo (.ref p :: st) (S, L, R) Q := by
  intro l p' e s m args below meth c G ad cI cJ cO C H locs ls hP hS hl
  have C0 := C
  obtain ⟨hx, hb, hml, hown, hts, hrt, hlk, hK, hN, hinj⟩ := C
  exact va_alen hx hb hK hP p 1 (long_at hk) (ty := .long) rfl rfl hd (kk l p' e s m args below meth c G ad cI cJ cO C0 H locs ls hP hS hl)
def uR (S : Nat → Nat → Int32) (p : Nat) (f : Nat → Int32) : Nat → Nat → Int32 := fun a => if a = p then f else S a
def uRL (S : Nat → Nat → Int64) (p : Nat) (f : Nat → Int64) : Nat → Nat → Int64 := fun a => if a = p then f else S a
theorem nn_ge {k : Nat} (h : k < 2 ^ 31) : ¬ nI k < 0 := nI_pos h
theorem T_copyI {p q idx sp dp n : Nat} {xs xd xn : Int32} (hd : decode M.2.1 pc = .ok (.invokestatic idx, 3)) (hl0 : Cond.methodLink M.1.cls idx arraycopyName ∈ lU) (hkp : kd p = 8) (hkq : kd q = 8) (h1 : xs = nI sp) (h2 : xd = nI dp) (h3 : xn = nI n) (h4 : sp + n ≤ ln p) (h5 : dp + n ≤ ln q) (hst : (st.map fun v => v.category).sum ≤ 8) (kk : TT M (d + 1) (pc + 3) lo st (uR S q (va_cpy (S p) (S q) sp dp n), L, R) Q) : TT M (d + 1) pc lo (.int xn :: .int xd :: .ref q :: .int xs :: .ref p :: st) (S, L, R) Q := by
  intro l p' e s m args below meth c G ad cI cJ cO C H locs ls hP hS hl
  have C0 := C
  obtain ⟨hx, hb, hml, hown, hts, hrt, hlk, hK, hN, hinj⟩ := C
  have b1 := ln_le p
  have b2 := ln_le q
  have c1 : xs.toNatClampNeg = sp := by rw [h1]; exact nI_clamp (by omega)
  have c2 : xd.toNatClampNeg = dp := by rw [h2]; exact nI_clamp (by omega)
  have c3 : xn.toNatClampNeg = n := by rw [h3]; exact nI_clamp (by omega)
  refine va_copyi hx hb (by rw [hml, hl.1]) hown (hts _ hl0) (hts _ ac_native) (hts _ ac_static) (hts _ ac_initialized) hK hP (wl_D hinj) hS p q 0 0 (int_at hkp) (int_at hkq) rfl rfl rfl (by rw [h1]; exact nn_ge (by omega)) (by rw [h2]; exact nn_ge (by omega)) (by rw [h3]; exact nn_ge (by omega)) (by rw [c1, c3]; exact h4) (by rw [c2, c3]; exact h5) (fun _ _ => rfl) (by show 1 ≤ d + 1; omega) (by show _ + (7 + 11) ≤ 40 * (d + 1); rw [cv_sum]; omega) hd (fun H1 locs1 g1 g2 g3 => ?_)
  rw [c1, c2, c3, wl_set (σ' := (uR S q (va_cpy (S p) (S q) sp dp n), L, R)) (kd_lt hkq (by omega)) (by rw [cell_int hkq]; simp [uR]) (fun a _ hap => cell_off (by simp [uR, hap]))] at g1
  exact kk l p' e s m args below meth c G ad cI cJ cO C0 H1 locs1 ls g1 g3 hl
theorem T_copyL {p q idx sp dp n : Nat} {xs xd xn : Int32} (hd : decode M.2.1 pc = .ok (.invokestatic idx, 3)) (hl0 : Cond.methodLink M.1.cls idx arraycopyName ∈ lU) (hkp : kd p = 9) (hkq : kd q = 9) (h1 : xs = nI sp) (h2 : xd = nI dp) (h3 : xn = nI n) (h4 : sp + n ≤ ln p) (h5 : dp + n ≤ ln q) (hst : (st.map fun v => v.category).sum ≤ 8) (kk : TT M (d + 1) (pc + 3) lo st (S, uRL L q (va_cpy (L p) (L q) sp dp n), R) Q) : TT M (d + 1) pc lo (.int xn :: .int xd :: .ref q :: .int xs :: .ref p :: st) (S, L, R) Q := by
  intro l p' e s m args below meth c G ad cI cJ cO C H locs ls hP hS hl
  have C0 := C
  obtain ⟨hx, hb, hml, hown, hts, hrt, hlk, hK, hN, hinj⟩ := C
  have b1 := ln_le p
  have b2 := ln_le q
  have c1 : xs.toNatClampNeg = sp := by rw [h1]; exact nI_clamp (by omega)
  have c2 : xd.toNatClampNeg = dp := by rw [h2]; exact nI_clamp (by omega)
  have c3 : xn.toNatClampNeg = n := by rw [h3]; exact nI_clamp (by omega)
  refine va_copyl hx hb (by rw [hml, hl.1]) hown (hts _ hl0) (hts _ ac_native) (hts _ ac_static) (hts _ ac_initialized) hK hP (wl_D hinj) hS p q 1 1 (long_at hkp) (long_at hkq) rfl rfl rfl (by rw [h1]; exact nn_ge (by omega)) (by rw [h2]; exact nn_ge (by omega)) (by rw [h3]; exact nn_ge (by omega)) (by rw [c1, c3]; exact h4) (by rw [c2, c3]; exact h5) (fun _ _ => rfl) (by show 1 ≤ d + 1; omega) (by show _ + (7 + 11) ≤ 40 * (d + 1); rw [cv_sum]; omega) hd (fun H1 locs1 g1 g2 g3 => ?_)
  rw [c1, c2, c3, wl_set (σ' := (S, uRL L q (va_cpy (L p) (L q) sp dp n), R)) (kd_lt hkq (by omega)) (by rw [cell_long hkq]; simp [uRL]) (fun a _ hap => cell_offL (by simp [uRL, hap]))] at g1
  exact kk l p' e s m args below meth c G ad cI cJ cO C0 H1 locs1 ls g1 g3 hl
theorem T_max {idx : Nat} {x y : Int32} (hd : decode M.2.1 pc = .ok (.invokestatic idx, 3)) (hl0 : Cond.methodLink M.1.cls idx Lib.Math.max.name ∈ lU) (hst : (st.map fun v => v.category).sum ≤ 8) (kk : TT M (d + 1) (pc + 3) lo (.int (if x < y then y else x) :: st) σ Q) : TT M (d + 1) pc lo (.int y :: .int x :: st) σ Q := by
  intro l p' e s m args below meth c G ad cI cJ cO C H locs ls hP hS hl
  have C0 := C
  obtain ⟨hx, hb, hml, hown, hts, hrt, hlk, hK, hN, hinj⟩ := C
  exact va_mmax hx hb (by rw [hml, hl.1]) hown (hts _ hl0) (hts _ mm_max_st) (hts _ mm_max_ini) (hts _ mm_max_code) (by show 1 ≤ d + 1; omega) (by show _ + 13 ≤ 40 * (d + 1); rw [cv_sum]; omega) (Nat.le_refl 0) (Nat.le_refl 0) hd (kk l p' e s m args below meth c G ad cI cJ cO C0 H locs ls hP hS hl)
theorem T_min {idx : Nat} {x y : Int32} (hd : decode M.2.1 pc = .ok (.invokestatic idx, 3)) (hl0 : Cond.methodLink M.1.cls idx Lib.Math.min.name ∈ lU) (hst : (st.map fun v => v.category).sum ≤ 8) (kk : TT M (d + 1) (pc + 3) lo (.int (if y < x then y else x) :: st) σ Q) : TT M (d + 1) pc lo (.int y :: .int x :: st) σ Q := by
  intro l p' e s m args below meth c G ad cI cJ cO C H locs ls hP hS hl
  have C0 := C
  obtain ⟨hx, hb, hml, hown, hts, hrt, hlk, hK, hN, hinj⟩ := C
  exact va_mmin hx hb (by rw [hml, hl.1]) hown (hts _ hl0) (hts _ mm_min_st) (hts _ mm_min_ini) (hts _ mm_min_code) (by show 1 ≤ d + 1; omega) (by show _ + 13 ≤ 40 * (d + 1); rw [cv_sum]; omega) (Nat.le_refl 0) (Nat.le_refl 0) hd (kk l p' e s m args below meth c G ad cI cJ cO C0 H locs ls hP hS hl)
theorem T_zret {v : Int32} {ty : FieldType} (hd : decode M.2.1 pc = .ok (.ireturn, 1)) (hr : M.2.2.2 = some ty) (hn : narrow ty (.int v) = .int v) (hq : Q (some (.int v)) σ) : TT M d pc lo [.int v] σ Q := by
  intro l p' e s m args below meth c G ad cI cJ cO C H locs ls hP hS hl
  obtain ⟨hx, hb, hml, hown, hts, hrt, hlk, hK, hN, hinj⟩ := C
  exact W.zret hx hb (hrt.trans hr) hn (fun t ht hW => ⟨⟨some (.int v), σ, rfl, hq, by rw [ht]; exact hP, va_K.moved hW.alike hK, nw_warm hW hN⟩, hS.F ht⟩) hS.2.2 hd hlk
theorem T_iret {v : Int32} (hd : decode M.2.1 pc = .ok (.ireturn, 1)) (hr : M.2.2.2 = some .int) (hq : Q (some (.int v)) σ) : TT M d pc lo [.int v] σ Q := T_zret hd hr rfl hq
theorem T_bret {v : Int32} (hd : decode M.2.1 pc = .ok (.ireturn, 1)) (hr : M.2.2.2 = some .boolean) (hv : v = 0 ∨ v = 1) (hq : Q (some (.int v)) σ) : TT M d pc lo [.int v] σ Q := T_zret hd hr (by rcases hv with rfl | rfl <;> decide) hq
theorem T_lret {v : Int64} (hd : decode M.2.1 pc = .ok (.lreturn, 1)) (hr : M.2.2.2 = some .long) (hq : Q (some (.long v)) σ) : TT M d pc lo [.long v] σ Q := by
  intro l p' e s m args below meth c G ad cI cJ cO C H locs ls hP hS hl
  obtain ⟨hx, hb, hml, hown, hts, hrt, hlk, hK, hN, hinj⟩ := C
  exact W.lret hx hb (hrt.trans hr) (fun t ht hW => ⟨⟨some (.long v), σ, rfl, hq, by rw [ht]; exact hP, va_K.moved hW.alike hK, nw_warm hW hN⟩, hS.F ht⟩) hS.2.2 hd hlk
theorem T_vret (hd : decode M.2.1 pc = .ok (.return_, 1)) (hr : M.2.2.2 = none) (hq : Q none σ) : TT M d pc lo [] σ Q := by
  intro l p' e s m args below meth c G ad cI cJ cO C H locs ls hP hS hl
  obtain ⟨hx, hb, hml, hown, hts, hrt, hlk, hK, hN, hinj⟩ := C
  exact W.vret hx hb (hrt.trans hr) (fun t ht hW => ⟨⟨none, σ, rfl, hq, by rw [ht]; exact hP, va_K.moved hW.alike hK, nw_warm hW hN⟩, hS.F ht⟩) hS.2.2 hd hlk
end TARR
/-! calls -/
def entL : List Value → List (Option Value)
  | [] => []
  | v :: vs => if v.category = 2 then some v :: none :: entL vs else some v :: entL vs
theorem entL_mem {ad : Nat → Nat} : ∀ (vs : List Value) (b i : Nat) (v : Value), (entL vs)[i]? = some (some v) → (b + i, cv ad v) ∈ lv_args b (vs.map (cv ad))
  | [], b, i, v, h => by simp [entL] at h
  | w :: vs, b, i, v, h => by
    show (b + i, cv ad v) ∈ (b, cv ad w) :: lv_args (if (cv ad w).category = 2 then b + 2 else b + 1) (vs.map (cv ad))
    rw [cv_cat]
    unfold entL at h
    by_cases hc : w.category = 2
    · rw [if_pos hc] at h ⊢
      match i, h with
      | 0, h => cases h; exact List.mem_cons_self
      | 1, h => cases h
      | i + 2, h =>
        have := entL_mem (ad := ad) vs (b + 2) i v h
        rw [show b + (i + 2) = b + 2 + i by omega]
        exact List.mem_cons_of_mem _ this
    · rw [if_neg hc] at h ⊢
      match i, h with
      | 0, h => cases h; exact List.mem_cons_self
      | i + 1, h =>
        have := entL_mem (ad := ad) vs (b + 1) i v h
        rw [show b + (i + 1) = b + 1 + i by omega]
        exact List.mem_cons_of_mem _ this
theorem entL_len {ad : Nat → Nat} : ∀ vs : List Value, (lg_sl (vs.map (cv ad))).length = (entL vs).length
  | [] => rfl
  | w :: vs => by
    have ih := entL_len (ad := ad) vs
    unfold lg_sl at ih ⊢
    rw [List.map_cons, List.flatMap_cons, List.length_append, cv_cat]
    unfold entL
    by_cases hc : w.category = 2
    · rw [if_pos hc, if_pos hc]; simp only [List.length_cons, List.length_nil]; omega
    · rw [if_neg hc, if_neg hc]; simp only [List.length_cons, List.length_nil]; omega
def codeW (M : MD) : Cond := Cond.code M.1 M.2.1 M.2.2.1 M.2.2.2
theorem lo_pad {As : List Value} {n i : Nat} {v : Value} (h : (entL As ++ List.replicate n none)[i]? = some (some v)) : (entL As)[i]? = some (some v) := by
  rcases Nat.lt_or_ge i (entL As).length with q | q
  · rw [List.getElem?_append_left q] at h; exact h
  · rw [List.getElem?_append_right q] at h
    have := List.mem_of_getElem? h
    rw [List.mem_replicate] at this
    cases this.2
/-- a method's contract as the kit has it, out of TT at its entry -/
theorem TT.met {M : MD} {d : Nat} {As : List Value} {lo : List (Option Value)} {σ : SG} {Q : Option Value → SG → Prop} (hpl : plainName M.1.cls = true) (hlen : (entL As).length ≤ M.2.2.1) (hlo : lo = entL As ++ List.replicate (M.2.2.1 - (entL As).length) none) (h : TT M d 0 lo [] σ Q) (l : Launch) (G : va_G) (ad : Nat → Nat) (cI cJ cO : ClassId) (hinj : inj57 ad) : Met l M.1 (codeW M :: lU) (rmD d) (va_Pc (As.map (cv ad)) (WD G ad cI cJ cO σ)) (QQ G ad cI cJ cO Q) 0 0 (AD ad) := by
  refine Met.ofW (cc := M.2.1) (maxL := M.2.2.1) (ret := M.2.2.2) hpl rfl ?_
  intro p e s m args below meth c s₁ B hml hv
  obtain ⟨rfl, hP, hK, hN⟩ := hv
  have hts := atoms_spec (ws := codeW M :: lU) B.pre
  have hown : s.vm.findClass M.1.cls = some m.cls := findClass_of_methodNamed B.named
  have hl := lv_entry (As.map (cv ad)) (n := M.2.2.1) (by rw [entL_len]; exact hlen)
  rw [lg_entry_eq]
  generalize (lg_sl (As.map (cv ad)) ++ List.replicate (M.2.2.1 - (lg_sl (As.map (cv ad))).length) Slot.unset).toArray = ls at hl ⊢
  refine h l p e s m _ below meth c G ad cI cJ cO ⟨B.exec, B.bytes, hml, hown, fun w hw => hts w (List.mem_cons_of_mem _ hw), B.returns, B.notSynchronized, hK, hN, hinj⟩ s.heap [] ls hP va_S.rf ⟨hl.1, hl.2.1, fun i v hv => ?_⟩
  rw [hlo] at hv
  have := entL_mem (ad := ad) As 0 i v (lo_pad hv)
  rw [Nat.zero_add] at this
  exact hl.2.2 _ this
end
section
/-! rows of TT: invocations -/
theorem WD_blind {G : va_G} {ad : Nat → Nat} {cI cJ cO : ClassId} {σ : SG} {av : List Value} : FrameBlind (va_Pc av (WD G ad cI cJ cO σ)) := by
  rintro a U g mk ⟨h1, hP, hK, hN⟩
  exact ⟨h1, hP, va_K.moved (u := U) (U := U.calling g mk a) (Vm.Alike.refl U.vm) hK, fun w hw => va_Nw.same (nw_on hw) (u := U) (U := U.calling g mk a) rfl (hN w hw)⟩
theorem WD_go {p : Program} {l : Launch} {e : Env} {Rm : Room} {s : State} {m : MethodId} {args a : Array Value} {below : List Frame} {meth : Method} {c : Code} {H H0 : Heap} {locs : List Loc} {Z : State → Prop} {G : va_G} {ad : Nat → Nat} {cI cJ cO : ClassId} {Q' : Option Value → SG → Prop} {pc : Nat} {ls : Array Slot} {st0 rest : List Value} {cells slots : Nat}
    (hr : va_Run p l e Rm s m args below meth c H locs cells slots 0 0 (F0 m pc ls st0) rest (QQ G ad cI cJ cO Q' a) (AD ad)) (hS : va_S (AD ad) H0 H locs)
    (kk : ∀ (r : Option Value) (σ' : SG) (H1 : Heap) (locs1 : List Loc), Q' r σ' → va_P G vwCl (wl ad cI cJ cO σ') H1 → va_S (AD ad) H0 H1 locs1 → W p l e Rm s m args below meth c H1 locs1 cells slots Z (F0 m (pc + 3) ls ((r.map (cv ad)).toList ++ rest))) : W p l e Rm s m args below meth c H locs cells slots Z (F0 m pc ls st0) := by
  intro T hT X
  obtain ⟨v, st₀, t, T', L, h0, X', hL, e1, e2, ⟨⟨r, σ', hv, hq, hP, -, -⟩, hz, hk⟩, stp⟩ := hr T hT X
  cases hv
  rw [h0] at hz hk
  have hS1 : va_S (AD ad) H0 T'.heap (locs ++ L) := by
    refine ⟨Nat.le_trans hS.1 (by rw [e1]; exact hz), fun q h1 h2 => ?_, fun q hq => ?_⟩
    · rw [e1, hk q (Nat.lt_of_lt_of_le h1 hS.1) h2]; exact hS.2.1 q h1 h2
    · rcases List.mem_append.mp hq with h | h
      · exact hS.2.2 q h
      · exact hL q h
  obtain ⟨t2, a1, b1⟩ := kk r σ' T'.heap (locs ++ L) hq (by rw [e1]; exact hP) hS1 T' rfl X'
  exact ⟨t2, stp t2 a1, b1⟩
theorem good_ws {M' : MD} (hc : codeW M' ∈ lU) : GoodIn lU (codeW M' :: lU) := by
  intro w hw
  rcases List.mem_cons.mp hw with rfl | h
  · exact lU_good _ hc
  · exact lU_good _ h
section TINV
variable {M M' : MD} {d pc : Nat} {lo lo' : List (Option Value)} {st : List Value} {σ : SG} {Q Q' : Option Value → SG → Prop}
theorem st_cv {ad : Nat → Nat} {r : Option Value} {st : List Value} : (r.map (cv ad)).toList ++ st.map (cv ad) = (r.toList ++ st).map (cv ad) := by
  cases r <;> rfl
/-- invokevirtual -/
theorem T_invV {n idx b ci : Nat} {As : List Value} (hd : decode M.2.1 pc = .ok (.invokevirtual idx, 3)) (hl0 : Cond.methodLink M.1.cls idx M'.1 ∈ lU) (hi : MIV M' n) (hn : As.length = n) (hk : kd b = ci) (hc : ci < 8) (hcl : M'.1.cls = cC ci) (hlen : (entL (.ref b :: As)).length ≤ M'.2.2.1) (hlo : lo' = entL (.ref b :: As) ++ List.replicate (M'.2.2.1 - (entL (.ref b :: As)).length) none) (hst : (st.map fun v => v.category).sum ≤ 8)
    (hcall : TT M' d 0 lo' [] σ Q') (kk : ∀ (r : Option Value) (σ' : SG), Q' r σ' → TT M (d + 1) (pc + 3) lo (r.toList ++ st) σ' Q) : TT M (d + 1) pc lo (As.reverse ++ .ref b :: st) σ Q := by
  intro l p e s m args below meth c G ad cI cJ cO C H locs ls hP hS hl
  have C0 := C
  obtain ⟨hx, hb, hml, hown, hts, hrt, hlk, hK, hN, hinj⟩ := C
  obtain ⟨i1, i2, i3, i4, i5, i6, i7⟩ := hi
  have hM := TT.met i7 hlen hlo hcall l G ad cI cJ cO hinj
  refine WD_go (va_runV (As := As.map (cv ad)) (rest := st.map (cv ad)) (b := ad b) (C := M'.1.cls) (cc := M.2.1) (nL := M.2.2.1) (Ts := lU) (own := M.1.cls) (n := n) ⟨hx, hb, hml, hown, hts⟩ hM
    ⟨callB_of n hts (good_ws i4) rfl rfl rfl (hts _ i3) (hts _ hl0) i5 ⟨by show d + 1 ≤ d + 1; omega, by show 8 + (M'.2.2.1 + 11) + 40 * d ≤ 40 * (d + 1); omega⟩, hts _ i1, hts _ i2⟩
    ⟨WD_blind, by have := va_recv (hK := hK) (hP := hP) (c_get hc) (obj_at hk hc); rw [hcl]; exact this, fun U hU hW => ⟨rfl, by rw [hU]; exact hP, va_K.moved hW.alike hK, nw_warm hW hN⟩⟩ rfl (by rw [List.length_map]; exact hn) hl.1 (by simp [List.map_append, List.map_reverse, cv]) (lv_room (by rw [cv_sum]; exact hst)) hd ⟨Nat.le_refl 0, Nat.le_refl 0⟩) hS (fun r σ' H1 locs1 hq h1 h2 => ?_)
  rw [st_cv]
  exact kk r σ' hq l p e s m args below meth c G ad cI cJ cO C0 H1 locs1 ls h1 h2 hl
/-- invokevirtual of a nest mate's private method -/
theorem T_invVN {n idx b ci : Nat} {As : List Value} (hd : decode M.2.1 pc = .ok (.invokevirtual idx, 3)) (hl0 : Cond.methodLinkNest M.1.cls idx M'.1 RX6 ∈ nwL) (hi : MIV M' n) (hn : As.length = n) (hk : kd b = ci) (hc : ci < 8) (hcl : M'.1.cls = cC ci) (hlen : (entL (.ref b :: As)).length ≤ M'.2.2.1) (hlo : lo' = entL (.ref b :: As) ++ List.replicate (M'.2.2.1 - (entL (.ref b :: As)).length) none) (hst : (st.map fun v => v.category).sum ≤ 8)
    (hcall : TT M' d 0 lo' [] σ Q') (kk : ∀ (r : Option Value) (σ' : SG), Q' r σ' → TT M (d + 1) (pc + 3) lo (r.toList ++ st) σ' Q) : TT M (d + 1) pc lo (As.reverse ++ .ref b :: st) σ Q := by
  intro l p e s m args below meth c G ad cI cJ cO C H locs ls hP hS hl
  have C0 := C
  obtain ⟨hx, hb, hml, hown, hts, hrt, hlk, hK, hN, hinj⟩ := C
  obtain ⟨i1, i2, i3, i4, i5, i6, i7⟩ := hi
  have hM := TT.met i7 hlen hlo hcall l G ad cI cJ cO hinj
  refine WD_go (va_runVN (As := As.map (cv ad)) (rest := st.map (cv ad)) (b := ad b) (C := M'.1.cls) (cc := M.2.1) (nL := M.2.2.1) (Ts := lU) (own := M.1.cls) (n := n) (host := RX6) ⟨hx, hb, hml, hown, hts⟩ hM
    ⟨va_cnB n hts (good_ws i4) rfl rfl rfl (hN _ hl0) (hts _ i3) i5 ⟨by show d + 1 ≤ d + 1; omega, by show 8 + (M'.2.2.1 + 11) + 40 * d ≤ 40 * (d + 1); omega⟩, hts _ i1, hts _ i2⟩
    ⟨WD_blind, by have := va_recv (hK := hK) (hP := hP) (c_get hc) (obj_at hk hc); rw [hcl]; exact this, fun U hU hW => ⟨rfl, by rw [hU]; exact hP, va_K.moved hW.alike hK, nw_warm hW hN⟩⟩ rfl (by rw [List.length_map]; exact hn) hl.1 (by simp [List.map_append, List.map_reverse, cv]) (lv_room (by rw [cv_sum]; exact hst)) hd ⟨Nat.le_refl 0, Nat.le_refl 0⟩) hS (fun r σ' H1 locs1 hq h1 h2 => ?_)
  rw [st_cv]
  exact kk r σ' hq l p e s m args below meth c G ad cI cJ cO C0 H1 locs1 ls h1 h2 hl
/-- invokestatic -/
theorem T_invS {n idx : Nat} {As : List Value} (hd : decode M.2.1 pc = .ok (.invokestatic idx, 3)) (hl0 : Cond.methodLink M.1.cls idx M'.1 ∈ lU) (hi : MIS M' n) (hn : As.length = n) (hlen : (entL As).length ≤ M'.2.2.1) (hlo : lo' = entL As ++ List.replicate (M'.2.2.1 - (entL As).length) none) (hst : (st.map fun v => v.category).sum ≤ 8)
    (hcall : TT M' d 0 lo' [] σ Q') (kk : ∀ (r : Option Value) (σ' : SG), Q' r σ' → TT M (d + 1) (pc + 3) lo (r.toList ++ st) σ' Q) : TT M (d + 1) pc lo (As.reverse ++ st) σ Q := by
  intro l p e s m args below meth c G ad cI cJ cO C H locs ls hP hS hl
  have C0 := C
  obtain ⟨hx, hb, hml, hown, hts, hrt, hlk, hK, hN, hinj⟩ := C
  obtain ⟨i1, i3, i4, i5, i6, i7⟩ := hi
  have hM := TT.met i7 hlen hlo hcall l G ad cI cJ cO hinj
  refine WD_go (va_runS (As := As.map (cv ad)) (rest := st.map (cv ad)) (cc := M.2.1) (nL := M.2.2.1) (Ts := lU) (own := M.1.cls) (n := n) ⟨hx, hb, hml, hown, hts⟩ hM
    ⟨callB_of n hts (good_ws i4) rfl rfl rfl (hts _ i3) (hts _ hl0) i5 ⟨by show d + 1 ≤ d + 1; omega, by show 8 + (M'.2.2.1 + 11) + 40 * d ≤ 40 * (d + 1); omega⟩, hts _ i1⟩
    ⟨WD_blind, fun U hU hW => ⟨rfl, by rw [hU]; exact hP, va_K.moved hW.alike hK, nw_warm hW hN⟩⟩ rfl (by rw [List.length_map]; exact hn) hl.1 (by simp [List.map_append, List.map_reverse]) (lv_room (by rw [cv_sum]; exact hst)) hd ⟨Nat.le_refl 0, Nat.le_refl 0⟩) hS (fun r σ' H1 locs1 hq h1 h2 => ?_)
  rw [st_cv]
  exact kk r σ' hq l p e s m args below meth c G ad cI cJ cO C0 H1 locs1 ls h1 h2 hl
theorem T_invSN {n idx : Nat} {As : List Value} (hd : decode M.2.1 pc = .ok (.invokestatic idx, 3)) (hl0 : Cond.methodLinkNest M.1.cls idx M'.1 RX6 ∈ nwL) (hi : MIS M' n) (hn : As.length = n) (hlen : (entL As).length ≤ M'.2.2.1) (hlo : lo' = entL As ++ List.replicate (M'.2.2.1 - (entL As).length) none) (hst : (st.map fun v => v.category).sum ≤ 8)
    (hcall : TT M' d 0 lo' [] σ Q') (kk : ∀ (r : Option Value) (σ' : SG), Q' r σ' → TT M (d + 1) (pc + 3) lo (r.toList ++ st) σ' Q) : TT M (d + 1) pc lo (As.reverse ++ st) σ Q := by
  intro l p e s m args below meth c G ad cI cJ cO C H locs ls hP hS hl
  have C0 := C
  obtain ⟨hx, hb, hml, hown, hts, hrt, hlk, hK, hN, hinj⟩ := C
  obtain ⟨i1, i3, i4, i5, i6, i7⟩ := hi
  have hM := TT.met i7 hlen hlo hcall l G ad cI cJ cO hinj
  refine WD_go (va_runSN (As := As.map (cv ad)) (rest := st.map (cv ad)) (cc := M.2.1) (nL := M.2.2.1) (Ts := lU) (own := M.1.cls) (n := n) (host := RX6) ⟨hx, hb, hml, hown, hts⟩ hM
    ⟨va_cnB n hts (good_ws i4) rfl rfl rfl (hN _ hl0) (hts _ i3) i5 ⟨by show d + 1 ≤ d + 1; omega, by show 8 + (M'.2.2.1 + 11) + 40 * d ≤ 40 * (d + 1); omega⟩, hts _ i1, trivial⟩
    ⟨WD_blind, fun U hU hW => ⟨rfl, by rw [hU]; exact hP, va_K.moved hW.alike hK, nw_warm hW hN⟩⟩ rfl (by rw [List.length_map]; exact hn) hl.1 (by simp [List.map_append, List.map_reverse]) (lv_room (by rw [cv_sum]; exact hst)) hd ⟨Nat.le_refl 0, Nat.le_refl 0⟩) hS (fun r σ' H1 locs1 hq h1 h2 => ?_)
  rw [st_cv]
  exact kk r σ' hq l p e s m args below meth c G ad cI cJ cO C0 H1 locs1 ls h1 h2 hl
theorem T_mono {Q0 : Option Value → SG → Prop} (h : TT M d pc lo st σ Q0) (hq : ∀ r σ', Q0 r σ' → Q r σ') : TT M d pc lo st σ Q := by
  intro l p e s m args below meth c G ad cI cJ cO C H locs ls hP hS hl T hT X
  obtain ⟨t, h1, o, h2, h3, ⟨⟨r, σ', h4, h5, h6⟩, h7⟩, h8⟩ := h l p e s m args below meth c G ad cI cJ cO C H locs ls hP hS hl T hT X
  exact ⟨t, h1, o, h2, h3, ⟨⟨r, σ', h4, hq r σ' h5, h6⟩, h7⟩, h8⟩
end TINV
section TINVP
variable {M M' : MD} {d pc : Nat} {lo lo' : List (Option Value)} {st : List Value} {σ : SG} {Q Q' : Option Value → SG → Prop}
theorem T_invV0 {idx b ci : Nat}  (hd : decode M.2.1 pc = .ok (.invokevirtual idx, 3)) (hl0 : Cond.methodLink M.1.cls idx M'.1 ∈ lU) (hi : MIV M' 0) (hk : kd b = ci) (hc : ci < 8) (hcl : M'.1.cls = cC ci) (hlen : (entL (.ref b :: [])).length ≤ M'.2.2.1) (hlo : lo' = entL (.ref b :: []) ++ List.replicate (M'.2.2.1 - (entL (.ref b :: [])).length) none) (hst : (st.map fun v => v.category).sum ≤ 8) (hcall : TT M' d 0 lo' [] σ Q') (kk : ∀ (r : Option Value) (σ' : SG), Q' r σ' → TT M (d + 1) (pc + 3) lo (r.toList ++ st) σ' Q) : TT M (d + 1) pc lo (.ref b :: st) σ Q := T_invV (As := []) hd hl0 hi rfl hk hc hcl hlen hlo hst hcall kk
theorem T_invV1 {idx b ci : Nat} {x1 : Value} (hd : decode M.2.1 pc = .ok (.invokevirtual idx, 3)) (hl0 : Cond.methodLink M.1.cls idx M'.1 ∈ lU) (hi : MIV M' 1) (hk : kd b = ci) (hc : ci < 8) (hcl : M'.1.cls = cC ci) (hlen : (entL (.ref b :: [x1])).length ≤ M'.2.2.1) (hlo : lo' = entL (.ref b :: [x1]) ++ List.replicate (M'.2.2.1 - (entL (.ref b :: [x1])).length) none) (hst : (st.map fun v => v.category).sum ≤ 8) (hcall : TT M' d 0 lo' [] σ Q') (kk : ∀ (r : Option Value) (σ' : SG), Q' r σ' → TT M (d + 1) (pc + 3) lo (r.toList ++ st) σ' Q) : TT M (d + 1) pc lo (x1 :: .ref b :: st) σ Q := T_invV (As := [x1]) hd hl0 hi rfl hk hc hcl hlen hlo hst hcall kk
theorem T_invV2 {idx b ci : Nat} {x1 x2 : Value} (hd : decode M.2.1 pc = .ok (.invokevirtual idx, 3)) (hl0 : Cond.methodLink M.1.cls idx M'.1 ∈ lU) (hi : MIV M' 2) (hk : kd b = ci) (hc : ci < 8) (hcl : M'.1.cls = cC ci) (hlen : (entL (.ref b :: [x1, x2])).length ≤ M'.2.2.1) (hlo : lo' = entL (.ref b :: [x1, x2]) ++ List.replicate (M'.2.2.1 - (entL (.ref b :: [x1, x2])).length) none) (hst : (st.map fun v => v.category).sum ≤ 8) (hcall : TT M' d 0 lo' [] σ Q') (kk : ∀ (r : Option Value) (σ' : SG), Q' r σ' → TT M (d + 1) (pc + 3) lo (r.toList ++ st) σ' Q) : TT M (d + 1) pc lo (x2 :: x1 :: .ref b :: st) σ Q := T_invV (As := [x1, x2]) hd hl0 hi rfl hk hc hcl hlen hlo hst hcall kk
theorem T_invV3 {idx b ci : Nat} {x1 x2 x3 : Value} (hd : decode M.2.1 pc = .ok (.invokevirtual idx, 3)) (hl0 : Cond.methodLink M.1.cls idx M'.1 ∈ lU) (hi : MIV M' 3) (hk : kd b = ci) (hc : ci < 8) (hcl : M'.1.cls = cC ci) (hlen : (entL (.ref b :: [x1, x2, x3])).length ≤ M'.2.2.1) (hlo : lo' = entL (.ref b :: [x1, x2, x3]) ++ List.replicate (M'.2.2.1 - (entL (.ref b :: [x1, x2, x3])).length) none) (hst : (st.map fun v => v.category).sum ≤ 8) (hcall : TT M' d 0 lo' [] σ Q') (kk : ∀ (r : Option Value) (σ' : SG), Q' r σ' → TT M (d + 1) (pc + 3) lo (r.toList ++ st) σ' Q) : TT M (d + 1) pc lo (x3 :: x2 :: x1 :: .ref b :: st) σ Q := T_invV (As := [x1, x2, x3]) hd hl0 hi rfl hk hc hcl hlen hlo hst hcall kk
theorem T_invV4 {idx b ci : Nat} {x1 x2 x3 x4 : Value} (hd : decode M.2.1 pc = .ok (.invokevirtual idx, 3)) (hl0 : Cond.methodLink M.1.cls idx M'.1 ∈ lU) (hi : MIV M' 4) (hk : kd b = ci) (hc : ci < 8) (hcl : M'.1.cls = cC ci) (hlen : (entL (.ref b :: [x1, x2, x3, x4])).length ≤ M'.2.2.1) (hlo : lo' = entL (.ref b :: [x1, x2, x3, x4]) ++ List.replicate (M'.2.2.1 - (entL (.ref b :: [x1, x2, x3, x4])).length) none) (hst : (st.map fun v => v.category).sum ≤ 8) (hcall : TT M' d 0 lo' [] σ Q') (kk : ∀ (r : Option Value) (σ' : SG), Q' r σ' → TT M (d + 1) (pc + 3) lo (r.toList ++ st) σ' Q) : TT M (d + 1) pc lo (x4 :: x3 :: x2 :: x1 :: .ref b :: st) σ Q := T_invV (As := [x1, x2, x3, x4]) hd hl0 hi rfl hk hc hcl hlen hlo hst hcall kk
theorem T_invV5 {idx b ci : Nat} {x1 x2 x3 x4 x5 : Value} (hd : decode M.2.1 pc = .ok (.invokevirtual idx, 3)) (hl0 : Cond.methodLink M.1.cls idx M'.1 ∈ lU) (hi : MIV M' 5) (hk : kd b = ci) (hc : ci < 8) (hcl : M'.1.cls = cC ci) (hlen : (entL (.ref b :: [x1, x2, x3, x4, x5])).length ≤ M'.2.2.1) (hlo : lo' = entL (.ref b :: [x1, x2, x3, x4, x5]) ++ List.replicate (M'.2.2.1 - (entL (.ref b :: [x1, x2, x3, x4, x5])).length) none) (hst : (st.map fun v => v.category).sum ≤ 8) (hcall : TT M' d 0 lo' [] σ Q') (kk : ∀ (r : Option Value) (σ' : SG), Q' r σ' → TT M (d + 1) (pc + 3) lo (r.toList ++ st) σ' Q) : TT M (d + 1) pc lo (x5 :: x4 :: x3 :: x2 :: x1 :: .ref b :: st) σ Q := T_invV (As := [x1, x2, x3, x4, x5]) hd hl0 hi rfl hk hc hcl hlen hlo hst hcall kk
theorem T_invV6 {idx b ci : Nat} {x1 x2 x3 x4 x5 x6 : Value} (hd : decode M.2.1 pc = .ok (.invokevirtual idx, 3)) (hl0 : Cond.methodLink M.1.cls idx M'.1 ∈ lU) (hi : MIV M' 6) (hk : kd b = ci) (hc : ci < 8) (hcl : M'.1.cls = cC ci) (hlen : (entL (.ref b :: [x1, x2, x3, x4, x5, x6])).length ≤ M'.2.2.1) (hlo : lo' = entL (.ref b :: [x1, x2, x3, x4, x5, x6]) ++ List.replicate (M'.2.2.1 - (entL (.ref b :: [x1, x2, x3, x4, x5, x6])).length) none) (hst : (st.map fun v => v.category).sum ≤ 8) (hcall : TT M' d 0 lo' [] σ Q') (kk : ∀ (r : Option Value) (σ' : SG), Q' r σ' → TT M (d + 1) (pc + 3) lo (r.toList ++ st) σ' Q) : TT M (d + 1) pc lo (x6 :: x5 :: x4 :: x3 :: x2 :: x1 :: .ref b :: st) σ Q := T_invV (As := [x1, x2, x3, x4, x5, x6]) hd hl0 hi rfl hk hc hcl hlen hlo hst hcall kk
theorem T_invVN0 {idx b ci : Nat}  (hd : decode M.2.1 pc = .ok (.invokevirtual idx, 3)) (hl0 : Cond.methodLinkNest M.1.cls idx M'.1 RX6 ∈ nwL) (hi : MIV M' 0) (hk : kd b = ci) (hc : ci < 8) (hcl : M'.1.cls = cC ci) (hlen : (entL (.ref b :: [])).length ≤ M'.2.2.1) (hlo : lo' = entL (.ref b :: []) ++ List.replicate (M'.2.2.1 - (entL (.ref b :: [])).length) none) (hst : (st.map fun v => v.category).sum ≤ 8) (hcall : TT M' d 0 lo' [] σ Q') (kk : ∀ (r : Option Value) (σ' : SG), Q' r σ' → TT M (d + 1) (pc + 3) lo (r.toList ++ st) σ' Q) : TT M (d + 1) pc lo (.ref b :: st) σ Q := T_invVN (As := []) hd hl0 hi rfl hk hc hcl hlen hlo hst hcall kk
theorem T_invVN1 {idx b ci : Nat} {x1 : Value} (hd : decode M.2.1 pc = .ok (.invokevirtual idx, 3)) (hl0 : Cond.methodLinkNest M.1.cls idx M'.1 RX6 ∈ nwL) (hi : MIV M' 1) (hk : kd b = ci) (hc : ci < 8) (hcl : M'.1.cls = cC ci) (hlen : (entL (.ref b :: [x1])).length ≤ M'.2.2.1) (hlo : lo' = entL (.ref b :: [x1]) ++ List.replicate (M'.2.2.1 - (entL (.ref b :: [x1])).length) none) (hst : (st.map fun v => v.category).sum ≤ 8) (hcall : TT M' d 0 lo' [] σ Q') (kk : ∀ (r : Option Value) (σ' : SG), Q' r σ' → TT M (d + 1) (pc + 3) lo (r.toList ++ st) σ' Q) : TT M (d + 1) pc lo (x1 :: .ref b :: st) σ Q := T_invVN (As := [x1]) hd hl0 hi rfl hk hc hcl hlen hlo hst hcall kk
theorem T_invVN2 {idx b ci : Nat} {x1 x2 : Value} (hd : decode M.2.1 pc = .ok (.invokevirtual idx, 3)) (hl0 : Cond.methodLinkNest M.1.cls idx M'.1 RX6 ∈ nwL) (hi : MIV M' 2) (hk : kd b = ci) (hc : ci < 8) (hcl : M'.1.cls = cC ci) (hlen : (entL (.ref b :: [x1, x2])).length ≤ M'.2.2.1) (hlo : lo' = entL (.ref b :: [x1, x2]) ++ List.replicate (M'.2.2.1 - (entL (.ref b :: [x1, x2])).length) none) (hst : (st.map fun v => v.category).sum ≤ 8) (hcall : TT M' d 0 lo' [] σ Q') (kk : ∀ (r : Option Value) (σ' : SG), Q' r σ' → TT M (d + 1) (pc + 3) lo (r.toList ++ st) σ' Q) : TT M (d + 1) pc lo (x2 :: x1 :: .ref b :: st) σ Q := T_invVN (As := [x1, x2]) hd hl0 hi rfl hk hc hcl hlen hlo hst hcall kk
theorem T_invVN3 {idx b ci : Nat} {x1 x2 x3 : Value} (hd : decode M.2.1 pc = .ok (.invokevirtual idx, 3)) (hl0 : Cond.methodLinkNest M.1.cls idx M'.1 RX6 ∈ nwL) (hi : MIV M' 3) (hk : kd b = ci) (hc : ci < 8) (hcl : M'.1.cls = cC ci) (hlen : (entL (.ref b :: [x1, x2, x3])).length ≤ M'.2.2.1) (hlo : lo' = entL (.ref b :: [x1, x2, x3]) ++ List.replicate (M'.2.2.1 - (entL (.ref b :: [x1, x2, x3])).length) none) (hst : (st.map fun v => v.category).sum ≤ 8) (hcall : TT M' d 0 lo' [] σ Q') (kk : ∀ (r : Option Value) (σ' : SG), Q' r σ' → TT M (d + 1) (pc + 3) lo (r.toList ++ st) σ' Q) : TT M (d + 1) pc lo (x3 :: x2 :: x1 :: .ref b :: st) σ Q := T_invVN (As := [x1, x2, x3]) hd hl0 hi rfl hk hc hcl hlen hlo hst hcall kk
theorem T_invVN4 {idx b ci : Nat} {x1 x2 x3 x4 : Value} (hd : decode M.2.1 pc = .ok (.invokevirtual idx, 3)) (hl0 : Cond.methodLinkNest M.1.cls idx M'.1 RX6 ∈ nwL) (hi : MIV M' 4) (hk : kd b = ci) (hc : ci < 8) (hcl : M'.1.cls = cC ci) (hlen : (entL (.ref b :: [x1, x2, x3, x4])).length ≤ M'.2.2.1) (hlo : lo' = entL (.ref b :: [x1, x2, x3, x4]) ++ List.replicate (M'.2.2.1 - (entL (.ref b :: [x1, x2, x3, x4])).length) none) (hst : (st.map fun v => v.category).sum ≤ 8) (hcall : TT M' d 0 lo' [] σ Q') (kk : ∀ (r : Option Value) (σ' : SG), Q' r σ' → TT M (d + 1) (pc + 3) lo (r.toList ++ st) σ' Q) : TT M (d + 1) pc lo (x4 :: x3 :: x2 :: x1 :: .ref b :: st) σ Q := T_invVN (As := [x1, x2, x3, x4]) hd hl0 hi rfl hk hc hcl hlen hlo hst hcall kk
theorem T_invVN5 {idx b ci : Nat} {x1 x2 x3 x4 x5 : Value} (hd : decode M.2.1 pc = .ok (.invokevirtual idx, 3)) (hl0 : Cond.methodLinkNest M.1.cls idx M'.1 RX6 ∈ nwL) (hi : MIV M' 5) (hk : kd b = ci) (hc : ci < 8) (hcl : M'.1.cls = cC ci) (hlen : (entL (.ref b :: [x1, x2, x3, x4, x5])).length ≤ M'.2.2.1) (hlo : lo' = entL (.ref b :: [x1, x2, x3, x4, x5]) ++ List.replicate (M'.2.2.1 - (entL (.ref b :: [x1, x2, x3, x4, x5])).length) none) (hst : (st.map fun v => v.category).sum ≤ 8) (hcall : TT M' d 0 lo' [] σ Q') (kk : ∀ (r : Option Value) (σ' : SG), Q' r σ' → TT M (d + 1) (pc + 3) lo (r.toList ++ st) σ' Q) : TT M (d + 1) pc lo (x5 :: x4 :: x3 :: x2 :: x1 :: .ref b :: st) σ Q := T_invVN (As := [x1, x2, x3, x4, x5]) hd hl0 hi rfl hk hc hcl hlen hlo hst hcall kk
theorem T_invVN6 {idx b ci : Nat} {x1 x2 x3 x4 x5 x6 : Value} (hd : decode M.2.1 pc = .ok (.invokevirtual idx, 3)) (hl0 : Cond.methodLinkNest M.1.cls idx M'.1 RX6 ∈ nwL) (hi : MIV M' 6) (hk : kd b = ci) (hc : ci < 8) (hcl : M'.1.cls = cC ci) (hlen : (entL (.ref b :: [x1, x2, x3, x4, x5, x6])).length ≤ M'.2.2.1) (hlo : lo' = entL (.ref b :: [x1, x2, x3, x4, x5, x6]) ++ List.replicate (M'.2.2.1 - (entL (.ref b :: [x1, x2, x3, x4, x5, x6])).length) none) (hst : (st.map fun v => v.category).sum ≤ 8) (hcall : TT M' d 0 lo' [] σ Q') (kk : ∀ (r : Option Value) (σ' : SG), Q' r σ' → TT M (d + 1) (pc + 3) lo (r.toList ++ st) σ' Q) : TT M (d + 1) pc lo (x6 :: x5 :: x4 :: x3 :: x2 :: x1 :: .ref b :: st) σ Q := T_invVN (As := [x1, x2, x3, x4, x5, x6]) hd hl0 hi rfl hk hc hcl hlen hlo hst hcall kk
theorem T_invS0 {idx : Nat}  (hd : decode M.2.1 pc = .ok (.invokestatic idx, 3)) (hl0 : Cond.methodLink M.1.cls idx M'.1 ∈ lU) (hi : MIS M' 0) (hlen : (entL []).length ≤ M'.2.2.1) (hlo : lo' = entL [] ++ List.replicate (M'.2.2.1 - (entL []).length) none) (hst : (st.map fun v => v.category).sum ≤ 8) (hcall : TT M' d 0 lo' [] σ Q') (kk : ∀ (r : Option Value) (σ' : SG), Q' r σ' → TT M (d + 1) (pc + 3) lo (r.toList ++ st) σ' Q) : TT M (d + 1) pc lo (st) σ Q := T_invS (As := []) hd hl0 hi rfl hlen hlo hst hcall kk
theorem T_invS1 {idx : Nat} {x1 : Value} (hd : decode M.2.1 pc = .ok (.invokestatic idx, 3)) (hl0 : Cond.methodLink M.1.cls idx M'.1 ∈ lU) (hi : MIS M' 1) (hlen : (entL [x1]).length ≤ M'.2.2.1) (hlo : lo' = entL [x1] ++ List.replicate (M'.2.2.1 - (entL [x1]).length) none) (hst : (st.map fun v => v.category).sum ≤ 8) (hcall : TT M' d 0 lo' [] σ Q') (kk : ∀ (r : Option Value) (σ' : SG), Q' r σ' → TT M (d + 1) (pc + 3) lo (r.toList ++ st) σ' Q) : TT M (d + 1) pc lo (x1 :: st) σ Q := T_invS (As := [x1]) hd hl0 hi rfl hlen hlo hst hcall kk
theorem T_invS2 {idx : Nat} {x1 x2 : Value} (hd : decode M.2.1 pc = .ok (.invokestatic idx, 3)) (hl0 : Cond.methodLink M.1.cls idx M'.1 ∈ lU) (hi : MIS M' 2) (hlen : (entL [x1, x2]).length ≤ M'.2.2.1) (hlo : lo' = entL [x1, x2] ++ List.replicate (M'.2.2.1 - (entL [x1, x2]).length) none) (hst : (st.map fun v => v.category).sum ≤ 8) (hcall : TT M' d 0 lo' [] σ Q') (kk : ∀ (r : Option Value) (σ' : SG), Q' r σ' → TT M (d + 1) (pc + 3) lo (r.toList ++ st) σ' Q) : TT M (d + 1) pc lo (x2 :: x1 :: st) σ Q := T_invS (As := [x1, x2]) hd hl0 hi rfl hlen hlo hst hcall kk
theorem T_invS3 {idx : Nat} {x1 x2 x3 : Value} (hd : decode M.2.1 pc = .ok (.invokestatic idx, 3)) (hl0 : Cond.methodLink M.1.cls idx M'.1 ∈ lU) (hi : MIS M' 3) (hlen : (entL [x1, x2, x3]).length ≤ M'.2.2.1) (hlo : lo' = entL [x1, x2, x3] ++ List.replicate (M'.2.2.1 - (entL [x1, x2, x3]).length) none) (hst : (st.map fun v => v.category).sum ≤ 8) (hcall : TT M' d 0 lo' [] σ Q') (kk : ∀ (r : Option Value) (σ' : SG), Q' r σ' → TT M (d + 1) (pc + 3) lo (r.toList ++ st) σ' Q) : TT M (d + 1) pc lo (x3 :: x2 :: x1 :: st) σ Q := T_invS (As := [x1, x2, x3]) hd hl0 hi rfl hlen hlo hst hcall kk
theorem T_invS4 {idx : Nat} {x1 x2 x3 x4 : Value} (hd : decode M.2.1 pc = .ok (.invokestatic idx, 3)) (hl0 : Cond.methodLink M.1.cls idx M'.1 ∈ lU) (hi : MIS M' 4) (hlen : (entL [x1, x2, x3, x4]).length ≤ M'.2.2.1) (hlo : lo' = entL [x1, x2, x3, x4] ++ List.replicate (M'.2.2.1 - (entL [x1, x2, x3, x4]).length) none) (hst : (st.map fun v => v.category).sum ≤ 8) (hcall : TT M' d 0 lo' [] σ Q') (kk : ∀ (r : Option Value) (σ' : SG), Q' r σ' → TT M (d + 1) (pc + 3) lo (r.toList ++ st) σ' Q) : TT M (d + 1) pc lo (x4 :: x3 :: x2 :: x1 :: st) σ Q := T_invS (As := [x1, x2, x3, x4]) hd hl0 hi rfl hlen hlo hst hcall kk
theorem T_invS5 {idx : Nat} {x1 x2 x3 x4 x5 : Value} (hd : decode M.2.1 pc = .ok (.invokestatic idx, 3)) (hl0 : Cond.methodLink M.1.cls idx M'.1 ∈ lU) (hi : MIS M' 5) (hlen : (entL [x1, x2, x3, x4, x5]).length ≤ M'.2.2.1) (hlo : lo' = entL [x1, x2, x3, x4, x5] ++ List.replicate (M'.2.2.1 - (entL [x1, x2, x3, x4, x5]).length) none) (hst : (st.map fun v => v.category).sum ≤ 8) (hcall : TT M' d 0 lo' [] σ Q') (kk : ∀ (r : Option Value) (σ' : SG), Q' r σ' → TT M (d + 1) (pc + 3) lo (r.toList ++ st) σ' Q) : TT M (d + 1) pc lo (x5 :: x4 :: x3 :: x2 :: x1 :: st) σ Q := T_invS (As := [x1, x2, x3, x4, x5]) hd hl0 hi rfl hlen hlo hst hcall kk
theorem T_invS6 {idx : Nat} {x1 x2 x3 x4 x5 x6 : Value} (hd : decode M.2.1 pc = .ok (.invokestatic idx, 3)) (hl0 : Cond.methodLink M.1.cls idx M'.1 ∈ lU) (hi : MIS M' 6) (hlen : (entL [x1, x2, x3, x4, x5, x6]).length ≤ M'.2.2.1) (hlo : lo' = entL [x1, x2, x3, x4, x5, x6] ++ List.replicate (M'.2.2.1 - (entL [x1, x2, x3, x4, x5, x6]).length) none) (hst : (st.map fun v => v.category).sum ≤ 8) (hcall : TT M' d 0 lo' [] σ Q') (kk : ∀ (r : Option Value) (σ' : SG), Q' r σ' → TT M (d + 1) (pc + 3) lo (r.toList ++ st) σ' Q) : TT M (d + 1) pc lo (x6 :: x5 :: x4 :: x3 :: x2 :: x1 :: st) σ Q := T_invS (As := [x1, x2, x3, x4, x5, x6]) hd hl0 hi rfl hlen hlo hst hcall kk
theorem T_invSN0 {idx : Nat}  (hd : decode M.2.1 pc = .ok (.invokestatic idx, 3)) (hl0 : Cond.methodLinkNest M.1.cls idx M'.1 RX6 ∈ nwL) (hi : MIS M' 0) (hlen : (entL []).length ≤ M'.2.2.1) (hlo : lo' = entL [] ++ List.replicate (M'.2.2.1 - (entL []).length) none) (hst : (st.map fun v => v.category).sum ≤ 8) (hcall : TT M' d 0 lo' [] σ Q') (kk : ∀ (r : Option Value) (σ' : SG), Q' r σ' → TT M (d + 1) (pc + 3) lo (r.toList ++ st) σ' Q) : TT M (d + 1) pc lo (st) σ Q := T_invSN (As := []) hd hl0 hi rfl hlen hlo hst hcall kk
theorem T_invSN1 {idx : Nat} {x1 : Value} (hd : decode M.2.1 pc = .ok (.invokestatic idx, 3)) (hl0 : Cond.methodLinkNest M.1.cls idx M'.1 RX6 ∈ nwL) (hi : MIS M' 1) (hlen : (entL [x1]).length ≤ M'.2.2.1) (hlo : lo' = entL [x1] ++ List.replicate (M'.2.2.1 - (entL [x1]).length) none) (hst : (st.map fun v => v.category).sum ≤ 8) (hcall : TT M' d 0 lo' [] σ Q') (kk : ∀ (r : Option Value) (σ' : SG), Q' r σ' → TT M (d + 1) (pc + 3) lo (r.toList ++ st) σ' Q) : TT M (d + 1) pc lo (x1 :: st) σ Q := T_invSN (As := [x1]) hd hl0 hi rfl hlen hlo hst hcall kk
theorem T_invSN2 {idx : Nat} {x1 x2 : Value} (hd : decode M.2.1 pc = .ok (.invokestatic idx, 3)) (hl0 : Cond.methodLinkNest M.1.cls idx M'.1 RX6 ∈ nwL) (hi : MIS M' 2) (hlen : (entL [x1, x2]).length ≤ M'.2.2.1) (hlo : lo' = entL [x1, x2] ++ List.replicate (M'.2.2.1 - (entL [x1, x2]).length) none) (hst : (st.map fun v => v.category).sum ≤ 8) (hcall : TT M' d 0 lo' [] σ Q') (kk : ∀ (r : Option Value) (σ' : SG), Q' r σ' → TT M (d + 1) (pc + 3) lo (r.toList ++ st) σ' Q) : TT M (d + 1) pc lo (x2 :: x1 :: st) σ Q := T_invSN (As := [x1, x2]) hd hl0 hi rfl hlen hlo hst hcall kk
theorem T_invSN3 {idx : Nat} {x1 x2 x3 : Value} (hd : decode M.2.1 pc = .ok (.invokestatic idx, 3)) (hl0 : Cond.methodLinkNest M.1.cls idx M'.1 RX6 ∈ nwL) (hi : MIS M' 3) (hlen : (entL [x1, x2, x3]).length ≤ M'.2.2.1) (hlo : lo' = entL [x1, x2, x3] ++ List.replicate (M'.2.2.1 - (entL [x1, x2, x3]).length) none) (hst : (st.map fun v => v.category).sum ≤ 8) (hcall : TT M' d 0 lo' [] σ Q') (kk : ∀ (r : Option Value) (σ' : SG), Q' r σ' → TT M (d + 1) (pc + 3) lo (r.toList ++ st) σ' Q) : TT M (d + 1) pc lo (x3 :: x2 :: x1 :: st) σ Q := T_invSN (As := [x1, x2, x3]) hd hl0 hi rfl hlen hlo hst hcall kk
theorem T_invSN4 {idx : Nat} {x1 x2 x3 x4 : Value} (hd : decode M.2.1 pc = .ok (.invokestatic idx, 3)) (hl0 : Cond.methodLinkNest M.1.cls idx M'.1 RX6 ∈ nwL) (hi : MIS M' 4) (hlen : (entL [x1, x2, x3, x4]).length ≤ M'.2.2.1) (hlo : lo' = entL [x1, x2, x3, x4] ++ List.replicate (M'.2.2.1 - (entL [x1, x2, x3, x4]).length) none) (hst : (st.map fun v => v.category).sum ≤ 8) (hcall : TT M' d 0 lo' [] σ Q') (kk : ∀ (r : Option Value) (σ' : SG), Q' r σ' → TT M (d + 1) (pc + 3) lo (r.toList ++ st) σ' Q) : TT M (d + 1) pc lo (x4 :: x3 :: x2 :: x1 :: st) σ Q := T_invSN (As := [x1, x2, x3, x4]) hd hl0 hi rfl hlen hlo hst hcall kk
theorem T_invSN5 {idx : Nat} {x1 x2 x3 x4 x5 : Value} (hd : decode M.2.1 pc = .ok (.invokestatic idx, 3)) (hl0 : Cond.methodLinkNest M.1.cls idx M'.1 RX6 ∈ nwL) (hi : MIS M' 5) (hlen : (entL [x1, x2, x3, x4, x5]).length ≤ M'.2.2.1) (hlo : lo' = entL [x1, x2, x3, x4, x5] ++ List.replicate (M'.2.2.1 - (entL [x1, x2, x3, x4, x5]).length) none) (hst : (st.map fun v => v.category).sum ≤ 8) (hcall : TT M' d 0 lo' [] σ Q') (kk : ∀ (r : Option Value) (σ' : SG), Q' r σ' → TT M (d + 1) (pc + 3) lo (r.toList ++ st) σ' Q) : TT M (d + 1) pc lo (x5 :: x4 :: x3 :: x2 :: x1 :: st) σ Q := T_invSN (As := [x1, x2, x3, x4, x5]) hd hl0 hi rfl hlen hlo hst hcall kk
theorem T_invSN6 {idx : Nat} {x1 x2 x3 x4 x5 x6 : Value} (hd : decode M.2.1 pc = .ok (.invokestatic idx, 3)) (hl0 : Cond.methodLinkNest M.1.cls idx M'.1 RX6 ∈ nwL) (hi : MIS M' 6) (hlen : (entL [x1, x2, x3, x4, x5, x6]).length ≤ M'.2.2.1) (hlo : lo' = entL [x1, x2, x3, x4, x5, x6] ++ List.replicate (M'.2.2.1 - (entL [x1, x2, x3, x4, x5, x6]).length) none) (hst : (st.map fun v => v.category).sum ≤ 8) (hcall : TT M' d 0 lo' [] σ Q') (kk : ∀ (r : Option Value) (σ' : SG), Q' r σ' → TT M (d + 1) (pc + 3) lo (r.toList ++ st) σ' Q) : TT M (d + 1) pc lo (x6 :: x5 :: x4 :: x3 :: x2 :: x1 :: st) σ Q := T_invSN (As := [x1, x2, x3, x4, x5, x6]) hd hl0 hi rfl hlen hlo hst hcall kk
end TINVP
end
section
theorem lf_X5_9 : FL RX5 9 5 0 := ⟨Nat.le_of_ble_eq_true rfl, Nat.le_of_ble_eq_true rfl, fl_X5_9⟩
theorem lf_X5_15 : FL RX5 15 5 1 := ⟨Nat.le_of_ble_eq_true rfl, Nat.le_of_ble_eq_true rfl, fl_X5_15⟩
theorem lf_X5_19 : FL RX5 19 5 2 := ⟨Nat.le_of_ble_eq_true rfl, Nat.le_of_ble_eq_true rfl, fl_X5_19⟩
theorem lf_X5_22 : FL RX5 22 5 3 := ⟨Nat.le_of_ble_eq_true rfl, Nat.le_of_ble_eq_true rfl, fl_X5_22⟩
theorem lf_X6_88 : FLN RX6 88 5 3 := ⟨Nat.le_of_ble_eq_true rfl, Nat.le_of_ble_eq_true rfl, fl_X6_88⟩
theorem lf_X0_15 : FL RX0 15 0 0 := ⟨Nat.le_of_ble_eq_true rfl, Nat.le_of_ble_eq_true rfl, fl_X0_15⟩
theorem lf_X6_160 : FL RX6 160 0 0 := ⟨Nat.le_of_ble_eq_true rfl, Nat.le_of_ble_eq_true rfl, fl_X6_160⟩
theorem lf_X0_18 : FL RX0 18 0 1 := ⟨Nat.le_of_ble_eq_true rfl, Nat.le_of_ble_eq_true rfl, fl_X0_18⟩
theorem lf_X6_157 : FL RX6 157 0 1 := ⟨Nat.le_of_ble_eq_true rfl, Nat.le_of_ble_eq_true rfl, fl_X6_157⟩
theorem lf_X0_21 : FL RX0 21 0 2 := ⟨Nat.le_of_ble_eq_true rfl, Nat.le_of_ble_eq_true rfl, fl_X0_21⟩
theorem lf_X6_154 : FL RX6 154 0 2 := ⟨Nat.le_of_ble_eq_true rfl, Nat.le_of_ble_eq_true rfl, fl_X6_154⟩
theorem lf_X1_9 : FL RX1 9 1 0 := ⟨Nat.le_of_ble_eq_true rfl, Nat.le_of_ble_eq_true rfl, fl_X1_9⟩
theorem lf_X1_15 : FL RX1 15 1 1 := ⟨Nat.le_of_ble_eq_true rfl, Nat.le_of_ble_eq_true rfl, fl_X1_15⟩
theorem lf_X2_9 : FL RX2 9 2 0 := ⟨Nat.le_of_ble_eq_true rfl, Nat.le_of_ble_eq_true rfl, fl_X2_9⟩
theorem lf_X6_200 : FL RX6 200 2 0 := ⟨Nat.le_of_ble_eq_true rfl, Nat.le_of_ble_eq_true rfl, fl_X6_200⟩
theorem lf_X2_15 : FL RX2 15 2 1 := ⟨Nat.le_of_ble_eq_true rfl, Nat.le_of_ble_eq_true rfl, fl_X2_15⟩
theorem lf_X4_9 : FL RX4 9 4 0 := ⟨Nat.le_of_ble_eq_true rfl, Nat.le_of_ble_eq_true rfl, fl_X4_9⟩
theorem lf_X6_94 : FL RX6 94 4 0 := ⟨Nat.le_of_ble_eq_true rfl, Nat.le_of_ble_eq_true rfl, fl_X6_94⟩
theorem lf_X4_15 : FL RX4 15 4 1 := ⟨Nat.le_of_ble_eq_true rfl, Nat.le_of_ble_eq_true rfl, fl_X4_15⟩
theorem lf_X6_97 : FL RX6 97 4 1 := ⟨Nat.le_of_ble_eq_true rfl, Nat.le_of_ble_eq_true rfl, fl_X6_97⟩
theorem lf_X4_18 : FL RX4 18 4 2 := ⟨Nat.le_of_ble_eq_true rfl, Nat.le_of_ble_eq_true rfl, fl_X4_18⟩
theorem lf_X6_100 : FL RX6 100 4 2 := ⟨Nat.le_of_ble_eq_true rfl, Nat.le_of_ble_eq_true rfl, fl_X6_100⟩
theorem lf_X4_21 : FL RX4 21 4 3 := ⟨Nat.le_of_ble_eq_true rfl, Nat.le_of_ble_eq_true rfl, fl_X4_21⟩
theorem lf_X4_24 : FL RX4 24 4 4 := ⟨Nat.le_of_ble_eq_true rfl, Nat.le_of_ble_eq_true rfl, fl_X4_24⟩
theorem lf_X6_109 : FL RX6 109 4 4 := ⟨Nat.le_of_ble_eq_true rfl, Nat.le_of_ble_eq_true rfl, fl_X6_109⟩
theorem lf_X4_27 : FL RX4 27 4 5 := ⟨Nat.le_of_ble_eq_true rfl, Nat.le_of_ble_eq_true rfl, fl_X4_27⟩
theorem lf_X6_112 : FL RX6 112 4 5 := ⟨Nat.le_of_ble_eq_true rfl, Nat.le_of_ble_eq_true rfl, fl_X6_112⟩
theorem lf_X4_30 : FL RX4 30 4 6 := ⟨Nat.le_of_ble_eq_true rfl, Nat.le_of_ble_eq_true rfl, fl_X4_30⟩
theorem lf_X6_207 : FL RX6 207 4 6 := ⟨Nat.le_of_ble_eq_true rfl, Nat.le_of_ble_eq_true rfl, fl_X6_207⟩
theorem lf_X4_33 : FL RX4 33 4 7 := ⟨Nat.le_of_ble_eq_true rfl, Nat.le_of_ble_eq_true rfl, fl_X4_33⟩
theorem lf_X6_210 : FL RX6 210 4 7 := ⟨Nat.le_of_ble_eq_true rfl, Nat.le_of_ble_eq_true rfl, fl_X6_210⟩
theorem lf_X4_36 : FL RX4 36 4 8 := ⟨Nat.le_of_ble_eq_true rfl, Nat.le_of_ble_eq_true rfl, fl_X4_36⟩
theorem lf_X2_34 : FL RX2 34 4 8 := ⟨Nat.le_of_ble_eq_true rfl, Nat.le_of_ble_eq_true rfl, fl_X2_34⟩
theorem lf_X6_91 : FL RX6 91 4 8 := ⟨Nat.le_of_ble_eq_true rfl, Nat.le_of_ble_eq_true rfl, fl_X6_91⟩
theorem lf_X1_40 : FL RX1 40 4 8 := ⟨Nat.le_of_ble_eq_true rfl, Nat.le_of_ble_eq_true rfl, fl_X1_40⟩
theorem lf_X6_106 : FL RX6 106 4 9 := ⟨Nat.le_of_ble_eq_true rfl, Nat.le_of_ble_eq_true rfl, fl_X6_106⟩
theorem lf_X4_97 : FL RX4 97 4 9 := ⟨Nat.le_of_ble_eq_true rfl, Nat.le_of_ble_eq_true rfl, fl_X4_97⟩
theorem lf_X4_70 : FL RX4 70 4 10 := ⟨Nat.le_of_ble_eq_true rfl, Nat.le_of_ble_eq_true rfl, fl_X4_70⟩
theorem lf_X6_132 : FL RX6 132 4 10 := ⟨Nat.le_of_ble_eq_true rfl, Nat.le_of_ble_eq_true rfl, fl_X6_132⟩
theorem lf_X0_9 : FL RX0 9 4 11 := ⟨Nat.le_of_ble_eq_true rfl, Nat.le_of_ble_eq_true rfl, fl_X0_9⟩
theorem lf_X2_24 : FL RX2 24 4 11 := ⟨Nat.le_of_ble_eq_true rfl, Nat.le_of_ble_eq_true rfl, fl_X2_24⟩
theorem lf_X6_115 : FL RX6 115 4 11 := ⟨Nat.le_of_ble_eq_true rfl, Nat.le_of_ble_eq_true rfl, fl_X6_115⟩
theorem lf_X4_91 : FL RX4 91 4 11 := ⟨Nat.le_of_ble_eq_true rfl, Nat.le_of_ble_eq_true rfl, fl_X4_91⟩
theorem lf_X1_62 : FL RX1 62 4 11 := ⟨Nat.le_of_ble_eq_true rfl, Nat.le_of_ble_eq_true rfl, fl_X1_62⟩
theorem lf_X4_40 : FL RX4 40 4 12 := ⟨Nat.le_of_ble_eq_true rfl, Nat.le_of_ble_eq_true rfl, fl_X4_40⟩
theorem lf_X6_204 : FL RX6 204 4 12 := ⟨Nat.le_of_ble_eq_true rfl, Nat.le_of_ble_eq_true rfl, fl_X6_204⟩
theorem lf_X3_9 : FL RX3 9 3 0 := ⟨Nat.le_of_ble_eq_true rfl, Nat.le_of_ble_eq_true rfl, fl_X3_9⟩
theorem lf_X6_76 : FL RX6 76 3 0 := ⟨Nat.le_of_ble_eq_true rfl, Nat.le_of_ble_eq_true rfl, fl_X6_76⟩
theorem lf_X3_15 : FL RX3 15 3 1 := ⟨Nat.le_of_ble_eq_true rfl, Nat.le_of_ble_eq_true rfl, fl_X3_15⟩
theorem lf_X6_227 : FL RX6 227 3 1 := ⟨Nat.le_of_ble_eq_true rfl, Nat.le_of_ble_eq_true rfl, fl_X6_227⟩
theorem lf_X3_19 : FL RX3 19 3 2 := ⟨Nat.le_of_ble_eq_true rfl, Nat.le_of_ble_eq_true rfl, fl_X3_19⟩
theorem lf_X6_237 : FL RX6 237 3 2 := ⟨Nat.le_of_ble_eq_true rfl, Nat.le_of_ble_eq_true rfl, fl_X6_237⟩
theorem lf_X3_23 : FL RX3 23 3 3 := ⟨Nat.le_of_ble_eq_true rfl, Nat.le_of_ble_eq_true rfl, fl_X3_23⟩
theorem lf_X6_13 : FL RX6 13 6 0 := ⟨Nat.le_of_ble_eq_true rfl, Nat.le_of_ble_eq_true rfl, fl_X6_13⟩
theorem lf_X6_20 : FL RX6 20 6 1 := ⟨Nat.le_of_ble_eq_true rfl, Nat.le_of_ble_eq_true rfl, fl_X6_20⟩
theorem lf_X6_27 : FL RX6 27 6 2 := ⟨Nat.le_of_ble_eq_true rfl, Nat.le_of_ble_eq_true rfl, fl_X6_27⟩
theorem lf_X6_34 : FL RX6 34 6 3 := ⟨Nat.le_of_ble_eq_true rfl, Nat.le_of_ble_eq_true rfl, fl_X6_34⟩
theorem lf_X6_41 : FL RX6 41 6 4 := ⟨Nat.le_of_ble_eq_true rfl, Nat.le_of_ble_eq_true rfl, fl_X6_41⟩
theorem lf_X6_48 : FL RX6 48 6 5 := ⟨Nat.le_of_ble_eq_true rfl, Nat.le_of_ble_eq_true rfl, fl_X6_48⟩
theorem lf_X6_52 : FL RX6 52 6 6 := ⟨Nat.le_of_ble_eq_true rfl, Nat.le_of_ble_eq_true rfl, fl_X6_52⟩
theorem lf_X6_259 : FL RX6 259 6 7 := ⟨Nat.le_of_ble_eq_true rfl, Nat.le_of_ble_eq_true rfl, fl_X6_259⟩
theorem lf_X6_56 : FL RX6 56 6 8 := ⟨Nat.le_of_ble_eq_true rfl, Nat.le_of_ble_eq_true rfl, fl_X6_56⟩
theorem lf_X7_68 : FL RX7 68 7 0 := ⟨Nat.le_of_ble_eq_true rfl, Nat.le_of_ble_eq_true rfl, fl_X7_68⟩
theorem lf_X7_243 : FL RX7 243 7 1 := ⟨Nat.le_of_ble_eq_true rfl, Nat.le_of_ble_eq_true rfl, fl_X7_243⟩
theorem lf_X7_9 : FL RX7 9 7 2 := ⟨Nat.le_of_ble_eq_true rfl, Nat.le_of_ble_eq_true rfl, fl_X7_9⟩
theorem lf_X7_13 : FL RX7 13 7 3 := ⟨Nat.le_of_ble_eq_true rfl, Nat.le_of_ble_eq_true rfl, fl_X7_13⟩
theorem lf_X7_16 : FL RX7 16 7 4 := ⟨Nat.le_of_ble_eq_true rfl, Nat.le_of_ble_eq_true rfl, fl_X7_16⟩
theorem lf_X7_78 : FL RX7 78 7 5 := ⟨Nat.le_of_ble_eq_true rfl, Nat.le_of_ble_eq_true rfl, fl_X7_78⟩
theorem lf_X7_81 : FL RX7 81 7 6 := ⟨Nat.le_of_ble_eq_true rfl, Nat.le_of_ble_eq_true rfl, fl_X7_81⟩
theorem lf_X7_111 : FL RX7 111 7 7 := ⟨Nat.le_of_ble_eq_true rfl, Nat.le_of_ble_eq_true rfl, fl_X7_111⟩
theorem lf_X7_120 : FL RX7 120 7 8 := ⟨Nat.le_of_ble_eq_true rfl, Nat.le_of_ble_eq_true rfl, fl_X7_120⟩
theorem lf_X7_126 : FL RX7 126 7 9 := ⟨Nat.le_of_ble_eq_true rfl, Nat.le_of_ble_eq_true rfl, fl_X7_126⟩
theorem lf_X7_19 : FL RX7 19 7 10 := ⟨Nat.le_of_ble_eq_true rfl, Nat.le_of_ble_eq_true rfl, fl_X7_19⟩
theorem lf_X7_22 : FL RX7 22 7 11 := ⟨Nat.le_of_ble_eq_true rfl, Nat.le_of_ble_eq_true rfl, fl_X7_22⟩
theorem lf_X7_25 : FL RX7 25 7 12 := ⟨Nat.le_of_ble_eq_true rfl, Nat.le_of_ble_eq_true rfl, fl_X7_25⟩
theorem lf_X7_28 : FL RX7 28 7 13 := ⟨Nat.le_of_ble_eq_true rfl, Nat.le_of_ble_eq_true rfl, fl_X7_28⟩
theorem lf_X7_31 : FL RX7 31 7 14 := ⟨Nat.le_of_ble_eq_true rfl, Nat.le_of_ble_eq_true rfl, fl_X7_31⟩
theorem lf_X7_84 : FL RX7 84 7 15 := ⟨Nat.le_of_ble_eq_true rfl, Nat.le_of_ble_eq_true rfl, fl_X7_84⟩
theorem lf_X7_108 : FL RX7 108 7 16 := ⟨Nat.le_of_ble_eq_true rfl, Nat.le_of_ble_eq_true rfl, fl_X7_108⟩
theorem lf_X7_114 : FL RX7 114 7 17 := ⟨Nat.le_of_ble_eq_true rfl, Nat.le_of_ble_eq_true rfl, fl_X7_114⟩
theorem lf_X7_117 : FL RX7 117 7 18 := ⟨Nat.le_of_ble_eq_true rfl, Nat.le_of_ble_eq_true rfl, fl_X7_117⟩
theorem lf_X7_123 : FL RX7 123 7 19 := ⟨Nat.le_of_ble_eq_true rfl, Nat.le_of_ble_eq_true rfl, fl_X7_123⟩
theorem lf_X7_129 : FL RX7 129 7 20 := ⟨Nat.le_of_ble_eq_true rfl, Nat.le_of_ble_eq_true rfl, fl_X7_129⟩
theorem lf_X7_34 : FL RX7 34 7 21 := ⟨Nat.le_of_ble_eq_true rfl, Nat.le_of_ble_eq_true rfl, fl_X7_34⟩
theorem lf_X7_37 : FL RX7 37 7 22 := ⟨Nat.le_of_ble_eq_true rfl, Nat.le_of_ble_eq_true rfl, fl_X7_37⟩
theorem lf_X7_40 : FL RX7 40 7 23 := ⟨Nat.le_of_ble_eq_true rfl, Nat.le_of_ble_eq_true rfl, fl_X7_40⟩
theorem lf_X7_43 : FL RX7 43 7 24 := ⟨Nat.le_of_ble_eq_true rfl, Nat.le_of_ble_eq_true rfl, fl_X7_43⟩
theorem lf_X7_46 : FL RX7 46 7 25 := ⟨Nat.le_of_ble_eq_true rfl, Nat.le_of_ble_eq_true rfl, fl_X7_46⟩
theorem lf_X7_49 : FL RX7 49 7 26 := ⟨Nat.le_of_ble_eq_true rfl, Nat.le_of_ble_eq_true rfl, fl_X7_49⟩
theorem lf_X7_52 : FL RX7 52 7 27 := ⟨Nat.le_of_ble_eq_true rfl, Nat.le_of_ble_eq_true rfl, fl_X7_52⟩
theorem lf_X7_211 : FL RX7 211 7 28 := ⟨Nat.le_of_ble_eq_true rfl, Nat.le_of_ble_eq_true rfl, fl_X7_211⟩
theorem lf_X7_55 : FL RX7 55 7 29 := ⟨Nat.le_of_ble_eq_true rfl, Nat.le_of_ble_eq_true rfl, fl_X7_55⟩
theorem lf_X7_59 : FL RX7 59 7 30 := ⟨Nat.le_of_ble_eq_true rfl, Nat.le_of_ble_eq_true rfl, fl_X7_59⟩
theorem lf_X7_132 : FL RX7 132 7 31 := ⟨Nat.le_of_ble_eq_true rfl, Nat.le_of_ble_eq_true rfl, fl_X7_132⟩
theorem lf_X7_62 : FL RX7 62 7 32 := ⟨Nat.le_of_ble_eq_true rfl, Nat.le_of_ble_eq_true rfl, fl_X7_62⟩
theorem lf_X7_65 : FL RX7 65 7 33 := ⟨Nat.le_of_ble_eq_true rfl, Nat.le_of_ble_eq_true rfl, fl_X7_65⟩
def bI (c : Bool) : Int32 := if c then 1 else 0
theorem bI_01 (c : Bool) : bI c = 0 ∨ bI c = 1 := by cases c <;> simp [bI]
theorem bI_0 {c : Bool} : bI c = 0 ↔ c = false := by cases c <;> decide
def oI : Option Nat → Int32
  | none => -9
  | some n => nI n
/-- one answer, one world -/
def rt (v : Option Value) (σ : SG) : Option Value → SG → Prop := fun r σ' => r = v ∧ σ' = σ
theorem rt_i {v : Option Value} {σ : SG} : rt v σ v σ := ⟨rfl, rfl⟩
theorem nI_inj {a b : Nat} (ha : a < 2 ^ 31) (hb : b < 2 ^ 31) (h : nI a = nI b) : a = b := (nI_eq ha hb).mp h
theorem kT {T : Nat} (h : T = 19 ∨ T = 28) : kd T = 4 := by rcases h with rfl | rfl <;> rfl
theorem kS {j : Nat} (h : j < 4) : kd (2 + j) = 3 := by
  match j, h with
  | 0, _ => rfl | 1, _ => rfl | 2, _ => rfl | 3, _ => rfl
  | k + 4, h => exact absurd h (by omega)
theorem kC {j : Nat} (h : j < 4) : kd (6 + j) = 8 := by
  match j, h with
  | 0, _ => rfl | 1, _ => rfl | 2, _ => rfl | 3, _ => rfl
  | k + 4, h => exact absurd h (by omega)
theorem lC {j : Nat} (h : j < 4) : ln (6 + j) = 60 := by
  match j, h with
  | 0, _ => rfl | 1, _ => rfl | 2, _ => rfl | 3, _ => rfl
  | k + 4, h => exact absurd h (by omega)
theorem rS {R : Nat × Nat × Nat} {j : Nat} (h : j < 4) : rf R (2 + j) 0 = 6 + j := by
  match j, h with
  | 0, _ => rfl | 1, _ => rfl | 2, _ => rfl | 3, _ => rfl
  | k + 4, h => exact absurd h (by omega)
theorem kT1 {T : Nat} (h : T = 19 ∨ T = 28) : kd (T + 1) = 8 := by rcases h with rfl | rfl <;> rfl
theorem lT1 {T : Nat} (h : T = 19 ∨ T = 28) : ln (T + 1) = 8 := by rcases h with rfl | rfl <;> rfl
theorem rT1 {R : Nat × Nat × Nat} {T : Nat} (h : T = 19 ∨ T = 28) : rf R T 0 = T + 1 := by rcases h with rfl | rfl <;> rfl
theorem kT2 {T : Nat} (h : T = 19 ∨ T = 28) : kd (T + 2) = 8 := by rcases h with rfl | rfl <;> rfl
theorem lT2 {T : Nat} (h : T = 19 ∨ T = 28) : ln (T + 2) = 8 := by rcases h with rfl | rfl <;> rfl
theorem rT2 {R : Nat × Nat × Nat} {T : Nat} (h : T = 19 ∨ T = 28) : rf R T 1 = T + 2 := by rcases h with rfl | rfl <;> rfl
theorem kT3 {T : Nat} (h : T = 19 ∨ T = 28) : kd (T + 3) = 8 := by rcases h with rfl | rfl <;> rfl
theorem lT3 {T : Nat} (h : T = 19 ∨ T = 28) : ln (T + 3) = 8 := by rcases h with rfl | rfl <;> rfl
theorem rT3 {R : Nat × Nat × Nat} {T : Nat} (h : T = 19 ∨ T = 28) : rf R T 2 = T + 3 := by rcases h with rfl | rfl <;> rfl
theorem kT4 {T : Nat} (h : T = 19 ∨ T = 28) : kd (T + 4) = 8 := by rcases h with rfl | rfl <;> rfl
theorem lT4 {T : Nat} (h : T = 19 ∨ T = 28) : ln (T + 4) = 8 := by rcases h with rfl | rfl <;> rfl
theorem rT4 {R : Nat × Nat × Nat} {T : Nat} (h : T = 19 ∨ T = 28) : rf R T 3 = T + 4 := by rcases h with rfl | rfl <;> rfl
theorem kT5 {T : Nat} (h : T = 19 ∨ T = 28) : kd (T + 5) = 8 := by rcases h with rfl | rfl <;> rfl
theorem lT5 {T : Nat} (h : T = 19 ∨ T = 28) : ln (T + 5) = 6 := by rcases h with rfl | rfl <;> rfl
theorem rT5 {R : Nat × Nat × Nat} {T : Nat} (h : T = 19 ∨ T = 28) : rf R T 4 = T + 5 := by rcases h with rfl | rfl <;> rfl
theorem kT6 {T : Nat} (h : T = 19 ∨ T = 28) : kd (T + 6) = 8 := by rcases h with rfl | rfl <;> rfl
theorem lT6 {T : Nat} (h : T = 19 ∨ T = 28) : ln (T + 6) = 6 := by rcases h with rfl | rfl <;> rfl
theorem rT6 {R : Nat × Nat × Nat} {T : Nat} (h : T = 19 ∨ T = 28) : rf R T 5 = T + 6 := by rcases h with rfl | rfl <;> rfl
theorem kT7 {T : Nat} (h : T = 19 ∨ T = 28) : kd (T + 7) = 8 := by rcases h with rfl | rfl <;> rfl
theorem lT7 {T : Nat} (h : T = 19 ∨ T = 28) : ln (T + 7) = 8 := by rcases h with rfl | rfl <;> rfl
theorem rT7 {R : Nat × Nat × Nat} {T : Nat} (h : T = 19 ∨ T = 28) : rf R T 6 = T + 7 := by rcases h with rfl | rfl <;> rfl
theorem kT8 {T : Nat} (h : T = 19 ∨ T = 28) : kd (T + 8) = 8 := by rcases h with rfl | rfl <;> rfl
theorem lT8 {T : Nat} (h : T = 19 ∨ T = 28) : ln (T + 8) = 8 := by rcases h with rfl | rfl <;> rfl
theorem rT8 {R : Nat × Nat × Nat} {T : Nat} (h : T = 19 ∨ T = 28) : rf R T 7 = T + 8 := by rcases h with rfl | rfl <;> rfl
section TNAT
variable {M M' : MD} {d pc : Nat} {lo lo' : List (Option Value)} {st : List Value} {S : Nat → Nat → Int32} {L : Nat → Nat → Int64} {R : Nat × Nat × Nat} {σ σ1 : SG} {Q : Option Value → SG → Prop}
theorem T_iaddN {a b : Nat} (hd : decode M.2.1 pc = .ok (.iadd, 1))  (k : TT M d (pc + 1) lo (.int (nI (a + b)) :: st) σ Q) : TT M d pc lo (.int (nI b) :: .int (nI a) :: st) σ Q := by
  refine T_iadd hd ?_; rw [nI_add]; exact k
theorem T_imulN {a b : Nat} (hd : decode M.2.1 pc = .ok (.imul, 1))  (k : TT M d (pc + 1) lo (.int (nI (a * b)) :: st) σ Q) : TT M d pc lo (.int (nI b) :: .int (nI a) :: st) σ Q := by
  refine T_imul hd ?_; rw [pk_mul]; exact k
theorem T_isubN {a b : Nat} (hd : decode M.2.1 pc = .ok (.isub, 1)) (h : b ≤ a) (k : TT M d (pc + 1) lo (.int (nI (a - b)) :: st) σ Q) : TT M d pc lo (.int (nI b) :: .int (nI a) :: st) σ Q := by
  refine T_isub hd ?_; rw [pk_sub h]; exact k
theorem T_idivN {a b : Nat} (hd : decode M.2.1 pc = .ok (.idiv, 1)) (ha : a < 2 ^ 31) (h0 : 0 < b) (hb : b < 2 ^ 31) (k : TT M d (pc + 1) lo (.int (nI (a / b)) :: st) σ Q) : TT M d pc lo (.int (nI b) :: .int (nI a) :: st) σ Q := by
  refine T_idiv hd (nI_ne0 h0 hb) ?_; rw [pk_div ha h0 hb]; exact k
theorem T_iremN {a b : Nat} (hd : decode M.2.1 pc = .ok (.irem, 1)) (ha : a < 2 ^ 31) (h0 : 0 < b) (hb : b < 2 ^ 31) (k : TT M d (pc + 1) lo (.int (nI (a % b)) :: st) σ Q) : TT M d pc lo (.int (nI b) :: .int (nI a) :: st) σ Q := by
  refine T_irem hd (nI_ne0 h0 hb) ?_; rw [pk_rem ha h0 hb]; exact k
theorem T_ceqN {a b : Nat} {off : Int} {tgt : Nat} (hd : decode M.2.1 pc = .ok (.if_icmp .eq off, 3)) (ht : (pc : Int) + off = (tgt : Int)) (ha : a < 2 ^ 31) (hb : b < 2 ^ 31) (kt : a = b → TT M d tgt lo st σ Q) (kf : a ≠ b → TT M d (pc + 3) lo st σ Q) : TT M d pc lo (.int (nI b) :: .int (nI a) :: st) σ Q := T_ceq hd ht (fun h => kt (nI_inj ha hb h)) (fun h => kf (fun e => h (by rw [e])))
theorem T_cneN {a b : Nat} {off : Int} {tgt : Nat} (hd : decode M.2.1 pc = .ok (.if_icmp .ne off, 3)) (ht : (pc : Int) + off = (tgt : Int)) (ha : a < 2 ^ 31) (hb : b < 2 ^ 31) (kt : a ≠ b → TT M d tgt lo st σ Q) (kf : a = b → TT M d (pc + 3) lo st σ Q) : TT M d pc lo (.int (nI b) :: .int (nI a) :: st) σ Q := T_cne hd ht (fun h => kt (fun e => h (by rw [e]))) (fun h => kf (nI_inj ha hb h))
theorem T_cltN {a b : Nat} {off : Int} {tgt : Nat} (hd : decode M.2.1 pc = .ok (.if_icmp .lt off, 3)) (ht : (pc : Int) + off = (tgt : Int)) (ha : a < 2 ^ 31) (hb : b < 2 ^ 31) (kt : a < b → TT M d tgt lo st σ Q) (kf : b ≤ a → TT M d (pc + 3) lo st σ Q) : TT M d pc lo (.int (nI b) :: .int (nI a) :: st) σ Q := T_clt hd ht (fun h => kt ((nI_ltI ha hb).mp h)) (fun h => kf (Nat.not_lt.mp (fun q => h ((nI_ltI ha hb).mpr q))))
theorem T_cgeN {a b : Nat} {off : Int} {tgt : Nat} (hd : decode M.2.1 pc = .ok (.if_icmp .ge off, 3)) (ht : (pc : Int) + off = (tgt : Int)) (ha : a < 2 ^ 31) (hb : b < 2 ^ 31) (kt : b ≤ a → TT M d tgt lo st σ Q) (kf : a < b → TT M d (pc + 3) lo st σ Q) : TT M d pc lo (.int (nI b) :: .int (nI a) :: st) σ Q := T_cge hd ht (fun h => kt ((nI_leI hb ha).mp h)) (fun h => kf (Nat.not_le.mp (fun q => h ((nI_leI hb ha).mpr q))))
theorem T_cgtN {a b : Nat} {off : Int} {tgt : Nat} (hd : decode M.2.1 pc = .ok (.if_icmp .gt off, 3)) (ht : (pc : Int) + off = (tgt : Int)) (ha : a < 2 ^ 31) (hb : b < 2 ^ 31) (kt : b < a → TT M d tgt lo st σ Q) (kf : a ≤ b → TT M d (pc + 3) lo st σ Q) : TT M d pc lo (.int (nI b) :: .int (nI a) :: st) σ Q := T_cgt hd ht (fun h => kt ((nI_ltI hb ha).mp h)) (fun h => kf (Nat.not_lt.mp (fun q => h ((nI_ltI hb ha).mpr q))))
theorem T_cleN {a b : Nat} {off : Int} {tgt : Nat} (hd : decode M.2.1 pc = .ok (.if_icmp .le off, 3)) (ht : (pc : Int) + off = (tgt : Int)) (ha : a < 2 ^ 31) (hb : b < 2 ^ 31) (kt : a ≤ b → TT M d tgt lo st σ Q) (kf : b < a → TT M d (pc + 3) lo st σ Q) : TT M d pc lo (.int (nI b) :: .int (nI a) :: st) σ Q := T_cle hd ht (fun h => kt ((nI_leI ha hb).mp h)) (fun h => kf (Nat.not_le.mp (fun q => h ((nI_leI ha hb).mpr q))))
theorem T_ifeqN {a : Nat} {off : Int} {tgt : Nat} (hd : decode M.2.1 pc = .ok (.ifCond .eq off, 3)) (ht : (pc : Int) + off = (tgt : Int)) (ha : a < 2 ^ 31) (kt : a = 0 → TT M d tgt lo st σ Q) (kf : a ≠ 0 → TT M d (pc + 3) lo st σ Q) : TT M d pc lo (.int (nI a) :: st) σ Q := T_ifeq hd ht (fun h => kt (Nat.eq_zero_of_not_pos (fun q => nI_ne0 q ha h))) (fun h => kf (fun e => h (by rw [e]; exact nI_0)))
theorem T_ifneN {a : Nat} {off : Int} {tgt : Nat} (hd : decode M.2.1 pc = .ok (.ifCond .ne off, 3)) (ht : (pc : Int) + off = (tgt : Int)) (ha : a < 2 ^ 31) (kt : a ≠ 0 → TT M d tgt lo st σ Q) (kf : a = 0 → TT M d (pc + 3) lo st σ Q) : TT M d pc lo (.int (nI a) :: st) σ Q := T_ifne hd ht (fun h => kt (fun e => h (by rw [e]; exact nI_0))) (fun h => kf (Nat.eq_zero_of_not_pos (fun q => nI_ne0 q ha h)))
theorem T_ifleN {a : Nat} {off : Int} {tgt : Nat} (hd : decode M.2.1 pc = .ok (.ifCond .le off, 3)) (ht : (pc : Int) + off = (tgt : Int)) (ha : a < 2 ^ 31) (kt : a = 0 → TT M d tgt lo st σ Q) (kf : 0 < a → TT M d (pc + 3) lo st σ Q) : TT M d pc lo (.int (nI a) :: st) σ Q := T_ifle hd ht (fun h => kt (Nat.eq_zero_of_not_pos (fun q => nI_nle q ha h))) (fun h => kf (Nat.pos_of_ne_zero (fun e => h (by rw [e, nI_0]; decide))))
theorem T_ifgtN {a : Nat} {off : Int} {tgt : Nat} (hd : decode M.2.1 pc = .ok (.ifCond .gt off, 3)) (ht : (pc : Int) + off = (tgt : Int)) (ha : a < 2 ^ 31) (kt : 0 < a → TT M d tgt lo st σ Q) (kf : a = 0 → TT M d (pc + 3) lo st σ Q) : TT M d pc lo (.int (nI a) :: st) σ Q := T_ifgt hd ht (fun h => kt (Nat.pos_of_ne_zero (fun e => by rw [e, nI_0] at h; exact absurd h (by decide)))) (fun h => kf (Nat.eq_zero_of_not_pos (fun q => h (by have := nI_lt q ha; rwa [nI_0] at this))))
theorem T_ifltN {a : Nat} {off : Int} {tgt : Nat} (hd : decode M.2.1 pc = .ok (.ifCond .lt off, 3)) (ht : (pc : Int) + off = (tgt : Int)) (ha : a < 2 ^ 31) (kf : TT M d (pc + 3) lo st σ Q) : TT M d pc lo (.int (nI a) :: st) σ Q := T_iflt hd ht (fun h => absurd h (nI_pos ha)) (fun _ => kf)
theorem T_ifgeN {a : Nat} {off : Int} {tgt : Nat} (hd : decode M.2.1 pc = .ok (.ifCond .ge off, 3)) (ht : (pc : Int) + off = (tgt : Int)) (ha : a < 2 ^ 31) (kt : TT M d tgt lo st σ Q) : TT M d pc lo (.int (nI a) :: st) σ Q := T_ifge hd ht (fun _ => kt) (fun h => absurd (nI_pos' ha) h)
theorem T_ifeqB {c : Bool} {off : Int} {tgt : Nat} (hd : decode M.2.1 pc = .ok (.ifCond .eq off, 3)) (ht : (pc : Int) + off = (tgt : Int)) (kt : c = false → TT M d tgt lo st σ Q) (kf : c = true → TT M d (pc + 3) lo st σ Q) : TT M d pc lo (.int (bI c) :: st) σ Q := T_ifeq hd ht (fun h => kt (bI_0.mp h)) (fun h => kf (by cases c <;> first | rfl | exact absurd rfl h))
theorem T_ifneB {c : Bool} {off : Int} {tgt : Nat} (hd : decode M.2.1 pc = .ok (.ifCond .ne off, 3)) (ht : (pc : Int) + off = (tgt : Int)) (kt : c = true → TT M d tgt lo st σ Q) (kf : c = false → TT M d (pc + 3) lo st σ Q) : TT M d pc lo (.int (bI c) :: st) σ Q := T_ifne hd ht (fun h => kt (by cases c <;> first | rfl | exact absurd rfl h)) (fun h => kf (bI_0.mp h))
theorem T_getN {p ci k idx v : Nat} (hd : decode M.2.1 pc = .ok (.getfield idx, 3)) (hf : FL M.1.cls idx ci k) (hk : kd p = ci) (hr : isR ci k = false) (hv : S p k = nI v) (kk : TT M d (pc + 3) lo (.int (nI v) :: st) (S, L, R) Q) : TT M d pc lo (.ref p :: st) (S, L, R) Q := by
  refine T_getI hd hf hk hr ?_; rw [hv]; exact kk
theorem T_getV {p ci k idx : Nat} {v : Int32} (hd : decode M.2.1 pc = .ok (.getfield idx, 3)) (hf : FL M.1.cls idx ci k) (hk : kd p = ci) (hr : isR ci k = false) (hv : S p k = v) (kk : TT M d (pc + 3) lo (.int v :: st) (S, L, R) Q) : TT M d pc lo (.ref p :: st) (S, L, R) Q := by
  refine T_getI hd hf hk hr ?_; rw [hv]; exact kk
theorem T_ialdN {p j v : Nat} (hd : decode M.2.1 pc = .ok (.iaload, 1)) (hk : kd p = 8) (hj : j < ln p) (hv : S p j = nI v) (kk : TT M d (pc + 1) lo (.int (nI v) :: st) (S, L, R) Q) : TT M d pc lo (.int (nI j) :: .ref p :: st) (S, L, R) Q := by
  refine T_iald hd hk hj rfl ?_; rw [hv]; exact kk
theorem T_ialdV {p j : Nat} {v : Int32} (hd : decode M.2.1 pc = .ok (.iaload, 1)) (hk : kd p = 8) (hj : j < ln p) (hv : S p j = v) (kk : TT M d (pc + 1) lo (.int v :: st) (S, L, R) Q) : TT M d pc lo (.int (nI j) :: .ref p :: st) (S, L, R) Q := by
  refine T_iald hd hk hj rfl ?_; rw [hv]; exact kk
theorem T_inc0N  {t : List (Option Value)} {x : Nat} (hd : decode M.2.1 pc = .ok (.iinc 0 1, 3)) (hn : 0 < M.2.2.1) (ho : noL (some (.int (nI x)) :: t) 0 = true) (k : TT M d (pc + 3) (some (.int (nI (x + 1))) :: t) st σ Q) : TT M d pc (some (.int (nI x)) :: t) st σ Q := T_inc0 hd hn ho (by rw [show nI x + Int32.ofInt 1 = nI (x + 1) from nI_1 x]; exact k)
theorem T_inc1N {a0 : Option Value} {t : List (Option Value)} {x : Nat} (hd : decode M.2.1 pc = .ok (.iinc 1 1, 3)) (hn : 1 < M.2.2.1) (ho : noL (a0 :: some (.int (nI x)) :: t) 1 = true) (k : TT M d (pc + 3) (a0 :: some (.int (nI (x + 1))) :: t) st σ Q) : TT M d pc (a0 :: some (.int (nI x)) :: t) st σ Q := T_inc1 hd hn ho (by rw [show nI x + Int32.ofInt 1 = nI (x + 1) from nI_1 x]; exact k)
theorem T_inc2N {a0 a1 : Option Value} {t : List (Option Value)} {x : Nat} (hd : decode M.2.1 pc = .ok (.iinc 2 1, 3)) (hn : 2 < M.2.2.1) (ho : noL (a0 :: a1 :: some (.int (nI x)) :: t) 2 = true) (k : TT M d (pc + 3) (a0 :: a1 :: some (.int (nI (x + 1))) :: t) st σ Q) : TT M d pc (a0 :: a1 :: some (.int (nI x)) :: t) st σ Q := T_inc2 hd hn ho (by rw [show nI x + Int32.ofInt 1 = nI (x + 1) from nI_1 x]; exact k)
theorem T_inc3N {a0 a1 a2 : Option Value} {t : List (Option Value)} {x : Nat} (hd : decode M.2.1 pc = .ok (.iinc 3 1, 3)) (hn : 3 < M.2.2.1) (ho : noL (a0 :: a1 :: a2 :: some (.int (nI x)) :: t) 3 = true) (k : TT M d (pc + 3) (a0 :: a1 :: a2 :: some (.int (nI (x + 1))) :: t) st σ Q) : TT M d pc (a0 :: a1 :: a2 :: some (.int (nI x)) :: t) st σ Q := T_inc3 hd hn ho (by rw [show nI x + Int32.ofInt 1 = nI (x + 1) from nI_1 x]; exact k)
theorem T_inc4N {a0 a1 a2 a3 : Option Value} {t : List (Option Value)} {x : Nat} (hd : decode M.2.1 pc = .ok (.iinc 4 1, 3)) (hn : 4 < M.2.2.1) (ho : noL (a0 :: a1 :: a2 :: a3 :: some (.int (nI x)) :: t) 4 = true) (k : TT M d (pc + 3) (a0 :: a1 :: a2 :: a3 :: some (.int (nI (x + 1))) :: t) st σ Q) : TT M d pc (a0 :: a1 :: a2 :: a3 :: some (.int (nI x)) :: t) st σ Q := T_inc4 hd hn ho (by rw [show nI x + Int32.ofInt 1 = nI (x + 1) from nI_1 x]; exact k)
theorem T_inc5N {a0 a1 a2 a3 a4 : Option Value} {t : List (Option Value)} {x : Nat} (hd : decode M.2.1 pc = .ok (.iinc 5 1, 3)) (hn : 5 < M.2.2.1) (ho : noL (a0 :: a1 :: a2 :: a3 :: a4 :: some (.int (nI x)) :: t) 5 = true) (k : TT M d (pc + 3) (a0 :: a1 :: a2 :: a3 :: a4 :: some (.int (nI (x + 1))) :: t) st σ Q) : TT M d pc (a0 :: a1 :: a2 :: a3 :: a4 :: some (.int (nI x)) :: t) st σ Q := T_inc5 hd hn ho (by rw [show nI x + Int32.ofInt 1 = nI (x + 1) from nI_1 x]; exact k)
theorem T_inc6N {a0 a1 a2 a3 a4 a5 : Option Value} {t : List (Option Value)} {x : Nat} (hd : decode M.2.1 pc = .ok (.iinc 6 1, 3)) (hn : 6 < M.2.2.1) (ho : noL (a0 :: a1 :: a2 :: a3 :: a4 :: a5 :: some (.int (nI x)) :: t) 6 = true) (k : TT M d (pc + 3) (a0 :: a1 :: a2 :: a3 :: a4 :: a5 :: some (.int (nI (x + 1))) :: t) st σ Q) : TT M d pc (a0 :: a1 :: a2 :: a3 :: a4 :: a5 :: some (.int (nI x)) :: t) st σ Q := T_inc6 hd hn ho (by rw [show nI x + Int32.ofInt 1 = nI (x + 1) from nI_1 x]; exact k)
theorem T_inc7N {a0 a1 a2 a3 a4 a5 a6 : Option Value} {t : List (Option Value)} {x : Nat} (hd : decode M.2.1 pc = .ok (.iinc 7 1, 3)) (hn : 7 < M.2.2.1) (ho : noL (a0 :: a1 :: a2 :: a3 :: a4 :: a5 :: a6 :: some (.int (nI x)) :: t) 7 = true) (k : TT M d (pc + 3) (a0 :: a1 :: a2 :: a3 :: a4 :: a5 :: a6 :: some (.int (nI (x + 1))) :: t) st σ Q) : TT M d pc (a0 :: a1 :: a2 :: a3 :: a4 :: a5 :: a6 :: some (.int (nI x)) :: t) st σ Q := T_inc7 hd hn ho (by rw [show nI x + Int32.ofInt 1 = nI (x + 1) from nI_1 x]; exact k)
theorem T_inc8N {a0 a1 a2 a3 a4 a5 a6 a7 : Option Value} {t : List (Option Value)} {x : Nat} (hd : decode M.2.1 pc = .ok (.iinc 8 1, 3)) (hn : 8 < M.2.2.1) (ho : noL (a0 :: a1 :: a2 :: a3 :: a4 :: a5 :: a6 :: a7 :: some (.int (nI x)) :: t) 8 = true) (k : TT M d (pc + 3) (a0 :: a1 :: a2 :: a3 :: a4 :: a5 :: a6 :: a7 :: some (.int (nI (x + 1))) :: t) st σ Q) : TT M d pc (a0 :: a1 :: a2 :: a3 :: a4 :: a5 :: a6 :: a7 :: some (.int (nI x)) :: t) st σ Q := T_inc8 hd hn ho (by rw [show nI x + Int32.ofInt 1 = nI (x + 1) from nI_1 x]; exact k)
theorem T_inc9N {a0 a1 a2 a3 a4 a5 a6 a7 a8 : Option Value} {t : List (Option Value)} {x : Nat} (hd : decode M.2.1 pc = .ok (.iinc 9 1, 3)) (hn : 9 < M.2.2.1) (ho : noL (a0 :: a1 :: a2 :: a3 :: a4 :: a5 :: a6 :: a7 :: a8 :: some (.int (nI x)) :: t) 9 = true) (k : TT M d (pc + 3) (a0 :: a1 :: a2 :: a3 :: a4 :: a5 :: a6 :: a7 :: a8 :: some (.int (nI (x + 1))) :: t) st σ Q) : TT M d pc (a0 :: a1 :: a2 :: a3 :: a4 :: a5 :: a6 :: a7 :: a8 :: some (.int (nI x)) :: t) st σ Q := T_inc9 hd hn ho (by rw [show nI x + Int32.ofInt 1 = nI (x + 1) from nI_1 x]; exact k)
theorem T_inc10N {a0 a1 a2 a3 a4 a5 a6 a7 a8 a9 : Option Value} {t : List (Option Value)} {x : Nat} (hd : decode M.2.1 pc = .ok (.iinc 10 1, 3)) (hn : 10 < M.2.2.1) (ho : noL (a0 :: a1 :: a2 :: a3 :: a4 :: a5 :: a6 :: a7 :: a8 :: a9 :: some (.int (nI x)) :: t) 10 = true) (k : TT M d (pc + 3) (a0 :: a1 :: a2 :: a3 :: a4 :: a5 :: a6 :: a7 :: a8 :: a9 :: some (.int (nI (x + 1))) :: t) st σ Q) : TT M d pc (a0 :: a1 :: a2 :: a3 :: a4 :: a5 :: a6 :: a7 :: a8 :: a9 :: some (.int (nI x)) :: t) st σ Q := T_inc10 hd hn ho (by rw [show nI x + Int32.ofInt 1 = nI (x + 1) from nI_1 x]; exact k)
theorem T_bretB {c : Bool} (hd : decode M.2.1 pc = .ok (.ireturn, 1)) (hr : M.2.2.2 = some .boolean) (hq : Q (some (.int (bI c))) σ) : TT M d pc lo [.int (bI c)] σ Q := T_bret hd hr (bI_01 c) hq
theorem T_invV0i {idx b ci : Nat}  {r : Int32} (hd : decode M.2.1 pc = .ok (.invokevirtual idx, 3)) (hl0 : Cond.methodLink M.1.cls idx M'.1 ∈ lU) (hi : MIV M' 0) (hk : kd b = ci) (hc : ci < 8) (hcl : M'.1.cls = cC ci) (hlen : (entL (.ref b :: [])).length ≤ M'.2.2.1) (hlo : lo' = entL (.ref b :: []) ++ List.replicate (M'.2.2.1 - (entL (.ref b :: [])).length) none) (hst : (st.map fun v => v.category).sum ≤ 8) (hcall : TT M' d 0 lo' [] σ (rt (some (.int r)) σ1)) (kk : TT M (d + 1) (pc + 3) lo (.int r :: st) σ1 Q) : TT M (d + 1) pc lo (.ref b :: st) σ Q := T_invV0 hd hl0 hi hk hc hcl hlen hlo hst hcall (fun _ _ h => by obtain ⟨h1, h2⟩ := h; subst h1; subst h2; exact kk)
theorem T_invV0l {idx b ci : Nat}  {r : Int64} (hd : decode M.2.1 pc = .ok (.invokevirtual idx, 3)) (hl0 : Cond.methodLink M.1.cls idx M'.1 ∈ lU) (hi : MIV M' 0) (hk : kd b = ci) (hc : ci < 8) (hcl : M'.1.cls = cC ci) (hlen : (entL (.ref b :: [])).length ≤ M'.2.2.1) (hlo : lo' = entL (.ref b :: []) ++ List.replicate (M'.2.2.1 - (entL (.ref b :: [])).length) none) (hst : (st.map fun v => v.category).sum ≤ 8) (hcall : TT M' d 0 lo' [] σ (rt (some (.long r)) σ1)) (kk : TT M (d + 1) (pc + 3) lo (.long r :: st) σ1 Q) : TT M (d + 1) pc lo (.ref b :: st) σ Q := T_invV0 hd hl0 hi hk hc hcl hlen hlo hst hcall (fun _ _ h => by obtain ⟨h1, h2⟩ := h; subst h1; subst h2; exact kk)
theorem T_invV0v {idx b ci : Nat}   (hd : decode M.2.1 pc = .ok (.invokevirtual idx, 3)) (hl0 : Cond.methodLink M.1.cls idx M'.1 ∈ lU) (hi : MIV M' 0) (hk : kd b = ci) (hc : ci < 8) (hcl : M'.1.cls = cC ci) (hlen : (entL (.ref b :: [])).length ≤ M'.2.2.1) (hlo : lo' = entL (.ref b :: []) ++ List.replicate (M'.2.2.1 - (entL (.ref b :: [])).length) none) (hst : (st.map fun v => v.category).sum ≤ 8) (hcall : TT M' d 0 lo' [] σ (rt none σ1)) (kk : TT M (d + 1) (pc + 3) lo (st) σ1 Q) : TT M (d + 1) pc lo (.ref b :: st) σ Q := T_invV0 hd hl0 hi hk hc hcl hlen hlo hst hcall (fun _ _ h => by obtain ⟨h1, h2⟩ := h; subst h1; subst h2; exact kk)
theorem T_invV1i {idx b ci : Nat} {x1 : Value} {r : Int32} (hd : decode M.2.1 pc = .ok (.invokevirtual idx, 3)) (hl0 : Cond.methodLink M.1.cls idx M'.1 ∈ lU) (hi : MIV M' 1) (hk : kd b = ci) (hc : ci < 8) (hcl : M'.1.cls = cC ci) (hlen : (entL (.ref b :: [x1])).length ≤ M'.2.2.1) (hlo : lo' = entL (.ref b :: [x1]) ++ List.replicate (M'.2.2.1 - (entL (.ref b :: [x1])).length) none) (hst : (st.map fun v => v.category).sum ≤ 8) (hcall : TT M' d 0 lo' [] σ (rt (some (.int r)) σ1)) (kk : TT M (d + 1) (pc + 3) lo (.int r :: st) σ1 Q) : TT M (d + 1) pc lo (x1 :: .ref b :: st) σ Q := T_invV1 hd hl0 hi hk hc hcl hlen hlo hst hcall (fun _ _ h => by obtain ⟨h1, h2⟩ := h; subst h1; subst h2; exact kk)
theorem T_invV1l {idx b ci : Nat} {x1 : Value} {r : Int64} (hd : decode M.2.1 pc = .ok (.invokevirtual idx, 3)) (hl0 : Cond.methodLink M.1.cls idx M'.1 ∈ lU) (hi : MIV M' 1) (hk : kd b = ci) (hc : ci < 8) (hcl : M'.1.cls = cC ci) (hlen : (entL (.ref b :: [x1])).length ≤ M'.2.2.1) (hlo : lo' = entL (.ref b :: [x1]) ++ List.replicate (M'.2.2.1 - (entL (.ref b :: [x1])).length) none) (hst : (st.map fun v => v.category).sum ≤ 8) (hcall : TT M' d 0 lo' [] σ (rt (some (.long r)) σ1)) (kk : TT M (d + 1) (pc + 3) lo (.long r :: st) σ1 Q) : TT M (d + 1) pc lo (x1 :: .ref b :: st) σ Q := T_invV1 hd hl0 hi hk hc hcl hlen hlo hst hcall (fun _ _ h => by obtain ⟨h1, h2⟩ := h; subst h1; subst h2; exact kk)
theorem T_invV1v {idx b ci : Nat} {x1 : Value}  (hd : decode M.2.1 pc = .ok (.invokevirtual idx, 3)) (hl0 : Cond.methodLink M.1.cls idx M'.1 ∈ lU) (hi : MIV M' 1) (hk : kd b = ci) (hc : ci < 8) (hcl : M'.1.cls = cC ci) (hlen : (entL (.ref b :: [x1])).length ≤ M'.2.2.1) (hlo : lo' = entL (.ref b :: [x1]) ++ List.replicate (M'.2.2.1 - (entL (.ref b :: [x1])).length) none) (hst : (st.map fun v => v.category).sum ≤ 8) (hcall : TT M' d 0 lo' [] σ (rt none σ1)) (kk : TT M (d + 1) (pc + 3) lo (st) σ1 Q) : TT M (d + 1) pc lo (x1 :: .ref b :: st) σ Q := T_invV1 hd hl0 hi hk hc hcl hlen hlo hst hcall (fun _ _ h => by obtain ⟨h1, h2⟩ := h; subst h1; subst h2; exact kk)
theorem T_invV2i {idx b ci : Nat} {x1 x2 : Value} {r : Int32} (hd : decode M.2.1 pc = .ok (.invokevirtual idx, 3)) (hl0 : Cond.methodLink M.1.cls idx M'.1 ∈ lU) (hi : MIV M' 2) (hk : kd b = ci) (hc : ci < 8) (hcl : M'.1.cls = cC ci) (hlen : (entL (.ref b :: [x1, x2])).length ≤ M'.2.2.1) (hlo : lo' = entL (.ref b :: [x1, x2]) ++ List.replicate (M'.2.2.1 - (entL (.ref b :: [x1, x2])).length) none) (hst : (st.map fun v => v.category).sum ≤ 8) (hcall : TT M' d 0 lo' [] σ (rt (some (.int r)) σ1)) (kk : TT M (d + 1) (pc + 3) lo (.int r :: st) σ1 Q) : TT M (d + 1) pc lo (x2 :: x1 :: .ref b :: st) σ Q := T_invV2 hd hl0 hi hk hc hcl hlen hlo hst hcall (fun _ _ h => by obtain ⟨h1, h2⟩ := h; subst h1; subst h2; exact kk)
theorem T_invV2l {idx b ci : Nat} {x1 x2 : Value} {r : Int64} (hd : decode M.2.1 pc = .ok (.invokevirtual idx, 3)) (hl0 : Cond.methodLink M.1.cls idx M'.1 ∈ lU) (hi : MIV M' 2) (hk : kd b = ci) (hc : ci < 8) (hcl : M'.1.cls = cC ci) (hlen : (entL (.ref b :: [x1, x2])).length ≤ M'.2.2.1) (hlo : lo' = entL (.ref b :: [x1, x2]) ++ List.replicate (M'.2.2.1 - (entL (.ref b :: [x1, x2])).length) none) (hst : (st.map fun v => v.category).sum ≤ 8) (hcall : TT M' d 0 lo' [] σ (rt (some (.long r)) σ1)) (kk : TT M (d + 1) (pc + 3) lo (.long r :: st) σ1 Q) : TT M (d + 1) pc lo (x2 :: x1 :: .ref b :: st) σ Q := T_invV2 hd hl0 hi hk hc hcl hlen hlo hst hcall (fun _ _ h => by obtain ⟨h1, h2⟩ := h; subst h1; subst h2; exact kk)
theorem T_invV2v {idx b ci : Nat} {x1 x2 : Value}  (hd : decode M.2.1 pc = .ok (.invokevirtual idx, 3)) (hl0 : Cond.methodLink M.1.cls idx M'.1 ∈ lU) (hi : MIV M' 2) (hk : kd b = ci) (hc : ci < 8) (hcl : M'.1.cls = cC ci) (hlen : (entL (.ref b :: [x1, x2])).length ≤ M'.2.2.1) (hlo : lo' = entL (.ref b :: [x1, x2]) ++ List.replicate (M'.2.2.1 - (entL (.ref b :: [x1, x2])).length) none) (hst : (st.map fun v => v.category).sum ≤ 8) (hcall : TT M' d 0 lo' [] σ (rt none σ1)) (kk : TT M (d + 1) (pc + 3) lo (st) σ1 Q) : TT M (d + 1) pc lo (x2 :: x1 :: .ref b :: st) σ Q := T_invV2 hd hl0 hi hk hc hcl hlen hlo hst hcall (fun _ _ h => by obtain ⟨h1, h2⟩ := h; subst h1; subst h2; exact kk)
theorem T_invV3i {idx b ci : Nat} {x1 x2 x3 : Value} {r : Int32} (hd : decode M.2.1 pc = .ok (.invokevirtual idx, 3)) (hl0 : Cond.methodLink M.1.cls idx M'.1 ∈ lU) (hi : MIV M' 3) (hk : kd b = ci) (hc : ci < 8) (hcl : M'.1.cls = cC ci) (hlen : (entL (.ref b :: [x1, x2, x3])).length ≤ M'.2.2.1) (hlo : lo' = entL (.ref b :: [x1, x2, x3]) ++ List.replicate (M'.2.2.1 - (entL (.ref b :: [x1, x2, x3])).length) none) (hst : (st.map fun v => v.category).sum ≤ 8) (hcall : TT M' d 0 lo' [] σ (rt (some (.int r)) σ1)) (kk : TT M (d + 1) (pc + 3) lo (.int r :: st) σ1 Q) : TT M (d + 1) pc lo (x3 :: x2 :: x1 :: .ref b :: st) σ Q := T_invV3 hd hl0 hi hk hc hcl hlen hlo hst hcall (fun _ _ h => by obtain ⟨h1, h2⟩ := h; subst h1; subst h2; exact kk)
theorem T_invV3l {idx b ci : Nat} {x1 x2 x3 : Value} {r : Int64} (hd : decode M.2.1 pc = .ok (.invokevirtual idx, 3)) (hl0 : Cond.methodLink M.1.cls idx M'.1 ∈ lU) (hi : MIV M' 3) (hk : kd b = ci) (hc : ci < 8) (hcl : M'.1.cls = cC ci) (hlen : (entL (.ref b :: [x1, x2, x3])).length ≤ M'.2.2.1) (hlo : lo' = entL (.ref b :: [x1, x2, x3]) ++ List.replicate (M'.2.2.1 - (entL (.ref b :: [x1, x2, x3])).length) none) (hst : (st.map fun v => v.category).sum ≤ 8) (hcall : TT M' d 0 lo' [] σ (rt (some (.long r)) σ1)) (kk : TT M (d + 1) (pc + 3) lo (.long r :: st) σ1 Q) : TT M (d + 1) pc lo (x3 :: x2 :: x1 :: .ref b :: st) σ Q := T_invV3 hd hl0 hi hk hc hcl hlen hlo hst hcall (fun _ _ h => by obtain ⟨h1, h2⟩ := h; subst h1; subst h2; exact kk)
theorem T_invV3v {idx b ci : Nat} {x1 x2 x3 : Value}  (hd : decode M.2.1 pc = .ok (.invokevirtual idx, 3)) (hl0 : Cond.methodLink M.1.cls idx M'.1 ∈ lU) (hi : MIV M' 3) (hk : kd b = ci) (hc : ci < 8) (hcl : M'.1.cls = cC ci) (hlen : (entL (.ref b :: [x1, x2, x3])).length ≤ M'.2.2.1) (hlo : lo' = entL (.ref b :: [x1, x2, x3]) ++ List.replicate (M'.2.2.1 - (entL (.ref b :: [x1, x2, x3])).length) none) (hst : (st.map fun v => v.category).sum ≤ 8) (hcall : TT M' d 0 lo' [] σ (rt none σ1)) (kk : TT M (d + 1) (pc + 3) lo (st) σ1 Q) : TT M (d + 1) pc lo (x3 :: x2 :: x1 :: .ref b :: st) σ Q := T_invV3 hd hl0 hi hk hc hcl hlen hlo hst hcall (fun _ _ h => by obtain ⟨h1, h2⟩ := h; subst h1; subst h2; exact kk)
theorem T_invV4i {idx b ci : Nat} {x1 x2 x3 x4 : Value} {r : Int32} (hd : decode M.2.1 pc = .ok (.invokevirtual idx, 3)) (hl0 : Cond.methodLink M.1.cls idx M'.1 ∈ lU) (hi : MIV M' 4) (hk : kd b = ci) (hc : ci < 8) (hcl : M'.1.cls = cC ci) (hlen : (entL (.ref b :: [x1, x2, x3, x4])).length ≤ M'.2.2.1) (hlo : lo' = entL (.ref b :: [x1, x2, x3, x4]) ++ List.replicate (M'.2.2.1 - (entL (.ref b :: [x1, x2, x3, x4])).length) none) (hst : (st.map fun v => v.category).sum ≤ 8) (hcall : TT M' d 0 lo' [] σ (rt (some (.int r)) σ1)) (kk : TT M (d + 1) (pc + 3) lo (.int r :: st) σ1 Q) : TT M (d + 1) pc lo (x4 :: x3 :: x2 :: x1 :: .ref b :: st) σ Q := T_invV4 hd hl0 hi hk hc hcl hlen hlo hst hcall (fun _ _ h => by obtain ⟨h1, h2⟩ := h; subst h1; subst h2; exact kk)
theorem T_invV4l {idx b ci : Nat} {x1 x2 x3 x4 : Value} {r : Int64} (hd : decode M.2.1 pc = .ok (.invokevirtual idx, 3)) (hl0 : Cond.methodLink M.1.cls idx M'.1 ∈ lU) (hi : MIV M' 4) (hk : kd b = ci) (hc : ci < 8) (hcl : M'.1.cls = cC ci) (hlen : (entL (.ref b :: [x1, x2, x3, x4])).length ≤ M'.2.2.1) (hlo : lo' = entL (.ref b :: [x1, x2, x3, x4]) ++ List.replicate (M'.2.2.1 - (entL (.ref b :: [x1, x2, x3, x4])).length) none) (hst : (st.map fun v => v.category).sum ≤ 8) (hcall : TT M' d 0 lo' [] σ (rt (some (.long r)) σ1)) (kk : TT M (d + 1) (pc + 3) lo (.long r :: st) σ1 Q) : TT M (d + 1) pc lo (x4 :: x3 :: x2 :: x1 :: .ref b :: st) σ Q := T_invV4 hd hl0 hi hk hc hcl hlen hlo hst hcall (fun _ _ h => by obtain ⟨h1, h2⟩ := h; subst h1; subst h2; exact kk)
theorem T_invV4v {idx b ci : Nat} {x1 x2 x3 x4 : Value}  (hd : decode M.2.1 pc = .ok (.invokevirtual idx, 3)) (hl0 : Cond.methodLink M.1.cls idx M'.1 ∈ lU) (hi : MIV M' 4) (hk : kd b = ci) (hc : ci < 8) (hcl : M'.1.cls = cC ci) (hlen : (entL (.ref b :: [x1, x2, x3, x4])).length ≤ M'.2.2.1) (hlo : lo' = entL (.ref b :: [x1, x2, x3, x4]) ++ List.replicate (M'.2.2.1 - (entL (.ref b :: [x1, x2, x3, x4])).length) none) (hst : (st.map fun v => v.category).sum ≤ 8) (hcall : TT M' d 0 lo' [] σ (rt none σ1)) (kk : TT M (d + 1) (pc + 3) lo (st) σ1 Q) : TT M (d + 1) pc lo (x4 :: x3 :: x2 :: x1 :: .ref b :: st) σ Q := T_invV4 hd hl0 hi hk hc hcl hlen hlo hst hcall (fun _ _ h => by obtain ⟨h1, h2⟩ := h; subst h1; subst h2; exact kk)
theorem T_invV5i {idx b ci : Nat} {x1 x2 x3 x4 x5 : Value} {r : Int32} (hd : decode M.2.1 pc = .ok (.invokevirtual idx, 3)) (hl0 : Cond.methodLink M.1.cls idx M'.1 ∈ lU) (hi : MIV M' 5) (hk : kd b = ci) (hc : ci < 8) (hcl : M'.1.cls = cC ci) (hlen : (entL (.ref b :: [x1, x2, x3, x4, x5])).length ≤ M'.2.2.1) (hlo : lo' = entL (.ref b :: [x1, x2, x3, x4, x5]) ++ List.replicate (M'.2.2.1 - (entL (.ref b :: [x1, x2, x3, x4, x5])).length) none) (hst : (st.map fun v => v.category).sum ≤ 8) (hcall : TT M' d 0 lo' [] σ (rt (some (.int r)) σ1)) (kk : TT M (d + 1) (pc + 3) lo (.int r :: st) σ1 Q) : TT M (d + 1) pc lo (x5 :: x4 :: x3 :: x2 :: x1 :: .ref b :: st) σ Q := T_invV5 hd hl0 hi hk hc hcl hlen hlo hst hcall (fun _ _ h => by obtain ⟨h1, h2⟩ := h; subst h1; subst h2; exact kk)
theorem T_invV5l {idx b ci : Nat} {x1 x2 x3 x4 x5 : Value} {r : Int64} (hd : decode M.2.1 pc = .ok (.invokevirtual idx, 3)) (hl0 : Cond.methodLink M.1.cls idx M'.1 ∈ lU) (hi : MIV M' 5) (hk : kd b = ci) (hc : ci < 8) (hcl : M'.1.cls = cC ci) (hlen : (entL (.ref b :: [x1, x2, x3, x4, x5])).length ≤ M'.2.2.1) (hlo : lo' = entL (.ref b :: [x1, x2, x3, x4, x5]) ++ List.replicate (M'.2.2.1 - (entL (.ref b :: [x1, x2, x3, x4, x5])).length) none) (hst : (st.map fun v => v.category).sum ≤ 8) (hcall : TT M' d 0 lo' [] σ (rt (some (.long r)) σ1)) (kk : TT M (d + 1) (pc + 3) lo (.long r :: st) σ1 Q) : TT M (d + 1) pc lo (x5 :: x4 :: x3 :: x2 :: x1 :: .ref b :: st) σ Q := T_invV5 hd hl0 hi hk hc hcl hlen hlo hst hcall (fun _ _ h => by obtain ⟨h1, h2⟩ := h; subst h1; subst h2; exact kk)
theorem T_invV5v {idx b ci : Nat} {x1 x2 x3 x4 x5 : Value}  (hd : decode M.2.1 pc = .ok (.invokevirtual idx, 3)) (hl0 : Cond.methodLink M.1.cls idx M'.1 ∈ lU) (hi : MIV M' 5) (hk : kd b = ci) (hc : ci < 8) (hcl : M'.1.cls = cC ci) (hlen : (entL (.ref b :: [x1, x2, x3, x4, x5])).length ≤ M'.2.2.1) (hlo : lo' = entL (.ref b :: [x1, x2, x3, x4, x5]) ++ List.replicate (M'.2.2.1 - (entL (.ref b :: [x1, x2, x3, x4, x5])).length) none) (hst : (st.map fun v => v.category).sum ≤ 8) (hcall : TT M' d 0 lo' [] σ (rt none σ1)) (kk : TT M (d + 1) (pc + 3) lo (st) σ1 Q) : TT M (d + 1) pc lo (x5 :: x4 :: x3 :: x2 :: x1 :: .ref b :: st) σ Q := T_invV5 hd hl0 hi hk hc hcl hlen hlo hst hcall (fun _ _ h => by obtain ⟨h1, h2⟩ := h; subst h1; subst h2; exact kk)
theorem T_invV6i {idx b ci : Nat} {x1 x2 x3 x4 x5 x6 : Value} {r : Int32} (hd : decode M.2.1 pc = .ok (.invokevirtual idx, 3)) (hl0 : Cond.methodLink M.1.cls idx M'.1 ∈ lU) (hi : MIV M' 6) (hk : kd b = ci) (hc : ci < 8) (hcl : M'.1.cls = cC ci) (hlen : (entL (.ref b :: [x1, x2, x3, x4, x5, x6])).length ≤ M'.2.2.1) (hlo : lo' = entL (.ref b :: [x1, x2, x3, x4, x5, x6]) ++ List.replicate (M'.2.2.1 - (entL (.ref b :: [x1, x2, x3, x4, x5, x6])).length) none) (hst : (st.map fun v => v.category).sum ≤ 8) (hcall : TT M' d 0 lo' [] σ (rt (some (.int r)) σ1)) (kk : TT M (d + 1) (pc + 3) lo (.int r :: st) σ1 Q) : TT M (d + 1) pc lo (x6 :: x5 :: x4 :: x3 :: x2 :: x1 :: .ref b :: st) σ Q := T_invV6 hd hl0 hi hk hc hcl hlen hlo hst hcall (fun _ _ h => by obtain ⟨h1, h2⟩ := h; subst h1; subst h2; exact kk)
theorem T_invV6l {idx b ci : Nat} {x1 x2 x3 x4 x5 x6 : Value} {r : Int64} (hd : decode M.2.1 pc = .ok (.invokevirtual idx, 3)) (hl0 : Cond.methodLink M.1.cls idx M'.1 ∈ lU) (hi : MIV M' 6) (hk : kd b = ci) (hc : ci < 8) (hcl : M'.1.cls = cC ci) (hlen : (entL (.ref b :: [x1, x2, x3, x4, x5, x6])).length ≤ M'.2.2.1) (hlo : lo' = entL (.ref b :: [x1, x2, x3, x4, x5, x6]) ++ List.replicate (M'.2.2.1 - (entL (.ref b :: [x1, x2, x3, x4, x5, x6])).length) none) (hst : (st.map fun v => v.category).sum ≤ 8) (hcall : TT M' d 0 lo' [] σ (rt (some (.long r)) σ1)) (kk : TT M (d + 1) (pc + 3) lo (.long r :: st) σ1 Q) : TT M (d + 1) pc lo (x6 :: x5 :: x4 :: x3 :: x2 :: x1 :: .ref b :: st) σ Q := T_invV6 hd hl0 hi hk hc hcl hlen hlo hst hcall (fun _ _ h => by obtain ⟨h1, h2⟩ := h; subst h1; subst h2; exact kk)
theorem T_invV6v {idx b ci : Nat} {x1 x2 x3 x4 x5 x6 : Value}  (hd : decode M.2.1 pc = .ok (.invokevirtual idx, 3)) (hl0 : Cond.methodLink M.1.cls idx M'.1 ∈ lU) (hi : MIV M' 6) (hk : kd b = ci) (hc : ci < 8) (hcl : M'.1.cls = cC ci) (hlen : (entL (.ref b :: [x1, x2, x3, x4, x5, x6])).length ≤ M'.2.2.1) (hlo : lo' = entL (.ref b :: [x1, x2, x3, x4, x5, x6]) ++ List.replicate (M'.2.2.1 - (entL (.ref b :: [x1, x2, x3, x4, x5, x6])).length) none) (hst : (st.map fun v => v.category).sum ≤ 8) (hcall : TT M' d 0 lo' [] σ (rt none σ1)) (kk : TT M (d + 1) (pc + 3) lo (st) σ1 Q) : TT M (d + 1) pc lo (x6 :: x5 :: x4 :: x3 :: x2 :: x1 :: .ref b :: st) σ Q := T_invV6 hd hl0 hi hk hc hcl hlen hlo hst hcall (fun _ _ h => by obtain ⟨h1, h2⟩ := h; subst h1; subst h2; exact kk)
theorem T_invVN0i {idx b ci : Nat}  {r : Int32} (hd : decode M.2.1 pc = .ok (.invokevirtual idx, 3)) (hl0 : Cond.methodLinkNest M.1.cls idx M'.1 RX6 ∈ nwL) (hi : MIV M' 0) (hk : kd b = ci) (hc : ci < 8) (hcl : M'.1.cls = cC ci) (hlen : (entL (.ref b :: [])).length ≤ M'.2.2.1) (hlo : lo' = entL (.ref b :: []) ++ List.replicate (M'.2.2.1 - (entL (.ref b :: [])).length) none) (hst : (st.map fun v => v.category).sum ≤ 8) (hcall : TT M' d 0 lo' [] σ (rt (some (.int r)) σ1)) (kk : TT M (d + 1) (pc + 3) lo (.int r :: st) σ1 Q) : TT M (d + 1) pc lo (.ref b :: st) σ Q := T_invVN0 hd hl0 hi hk hc hcl hlen hlo hst hcall (fun _ _ h => by obtain ⟨h1, h2⟩ := h; subst h1; subst h2; exact kk)
theorem T_invVN0l {idx b ci : Nat}  {r : Int64} (hd : decode M.2.1 pc = .ok (.invokevirtual idx, 3)) (hl0 : Cond.methodLinkNest M.1.cls idx M'.1 RX6 ∈ nwL) (hi : MIV M' 0) (hk : kd b = ci) (hc : ci < 8) (hcl : M'.1.cls = cC ci) (hlen : (entL (.ref b :: [])).length ≤ M'.2.2.1) (hlo : lo' = entL (.ref b :: []) ++ List.replicate (M'.2.2.1 - (entL (.ref b :: [])).length) none) (hst : (st.map fun v => v.category).sum ≤ 8) (hcall : TT M' d 0 lo' [] σ (rt (some (.long r)) σ1)) (kk : TT M (d + 1) (pc + 3) lo (.long r :: st) σ1 Q) : TT M (d + 1) pc lo (.ref b :: st) σ Q := T_invVN0 hd hl0 hi hk hc hcl hlen hlo hst hcall (fun _ _ h => by obtain ⟨h1, h2⟩ := h; subst h1; subst h2; exact kk)
theorem T_invVN0v {idx b ci : Nat}   (hd : decode M.2.1 pc = .ok (.invokevirtual idx, 3)) (hl0 : Cond.methodLinkNest M.1.cls idx M'.1 RX6 ∈ nwL) (hi : MIV M' 0) (hk : kd b = ci) (hc : ci < 8) (hcl : M'.1.cls = cC ci) (hlen : (entL (.ref b :: [])).length ≤ M'.2.2.1) (hlo : lo' = entL (.ref b :: []) ++ List.replicate (M'.2.2.1 - (entL (.ref b :: [])).length) none) (hst : (st.map fun v => v.category).sum ≤ 8) (hcall : TT M' d 0 lo' [] σ (rt none σ1)) (kk : TT M (d + 1) (pc + 3) lo (st) σ1 Q) : TT M (d + 1) pc lo (.ref b :: st) σ Q := T_invVN0 hd hl0 hi hk hc hcl hlen hlo hst hcall (fun _ _ h => by obtain ⟨h1, h2⟩ := h; subst h1; subst h2; exact kk)
theorem T_invVN1i {idx b ci : Nat} {x1 : Value} {r : Int32} (hd : decode M.2.1 pc = .ok (.invokevirtual idx, 3)) (hl0 : Cond.methodLinkNest M.1.cls idx M'.1 RX6 ∈ nwL) (hi : MIV M' 1) (hk : kd b = ci) (hc : ci < 8) (hcl : M'.1.cls = cC ci) (hlen : (entL (.ref b :: [x1])).length ≤ M'.2.2.1) (hlo : lo' = entL (.ref b :: [x1]) ++ List.replicate (M'.2.2.1 - (entL (.ref b :: [x1])).length) none) (hst : (st.map fun v => v.category).sum ≤ 8) (hcall : TT M' d 0 lo' [] σ (rt (some (.int r)) σ1)) (kk : TT M (d + 1) (pc + 3) lo (.int r :: st) σ1 Q) : TT M (d + 1) pc lo (x1 :: .ref b :: st) σ Q := T_invVN1 hd hl0 hi hk hc hcl hlen hlo hst hcall (fun _ _ h => by obtain ⟨h1, h2⟩ := h; subst h1; subst h2; exact kk)
theorem T_invVN1l {idx b ci : Nat} {x1 : Value} {r : Int64} (hd : decode M.2.1 pc = .ok (.invokevirtual idx, 3)) (hl0 : Cond.methodLinkNest M.1.cls idx M'.1 RX6 ∈ nwL) (hi : MIV M' 1) (hk : kd b = ci) (hc : ci < 8) (hcl : M'.1.cls = cC ci) (hlen : (entL (.ref b :: [x1])).length ≤ M'.2.2.1) (hlo : lo' = entL (.ref b :: [x1]) ++ List.replicate (M'.2.2.1 - (entL (.ref b :: [x1])).length) none) (hst : (st.map fun v => v.category).sum ≤ 8) (hcall : TT M' d 0 lo' [] σ (rt (some (.long r)) σ1)) (kk : TT M (d + 1) (pc + 3) lo (.long r :: st) σ1 Q) : TT M (d + 1) pc lo (x1 :: .ref b :: st) σ Q := T_invVN1 hd hl0 hi hk hc hcl hlen hlo hst hcall (fun _ _ h => by obtain ⟨h1, h2⟩ := h; subst h1; subst h2; exact kk)
theorem T_invVN1v {idx b ci : Nat} {x1 : Value}  (hd : decode M.2.1 pc = .ok (.invokevirtual idx, 3)) (hl0 : Cond.methodLinkNest M.1.cls idx M'.1 RX6 ∈ nwL) (hi : MIV M' 1) (hk : kd b = ci) (hc : ci < 8) (hcl : M'.1.cls = cC ci) (hlen : (entL (.ref b :: [x1])).length ≤ M'.2.2.1) (hlo : lo' = entL (.ref b :: [x1]) ++ List.replicate (M'.2.2.1 - (entL (.ref b :: [x1])).length) none) (hst : (st.map fun v => v.category).sum ≤ 8) (hcall : TT M' d 0 lo' [] σ (rt none σ1)) (kk : TT M (d + 1) (pc + 3) lo (st) σ1 Q) : TT M (d + 1) pc lo (x1 :: .ref b :: st) σ Q := T_invVN1 hd hl0 hi hk hc hcl hlen hlo hst hcall (fun _ _ h => by obtain ⟨h1, h2⟩ := h; subst h1; subst h2; exact kk)
theorem T_invVN2i {idx b ci : Nat} {x1 x2 : Value} {r : Int32} (hd : decode M.2.1 pc = .ok (.invokevirtual idx, 3)) (hl0 : Cond.methodLinkNest M.1.cls idx M'.1 RX6 ∈ nwL) (hi : MIV M' 2) (hk : kd b = ci) (hc : ci < 8) (hcl : M'.1.cls = cC ci) (hlen : (entL (.ref b :: [x1, x2])).length ≤ M'.2.2.1) (hlo : lo' = entL (.ref b :: [x1, x2]) ++ List.replicate (M'.2.2.1 - (entL (.ref b :: [x1, x2])).length) none) (hst : (st.map fun v => v.category).sum ≤ 8) (hcall : TT M' d 0 lo' [] σ (rt (some (.int r)) σ1)) (kk : TT M (d + 1) (pc + 3) lo (.int r :: st) σ1 Q) : TT M (d + 1) pc lo (x2 :: x1 :: .ref b :: st) σ Q := T_invVN2 hd hl0 hi hk hc hcl hlen hlo hst hcall (fun _ _ h => by obtain ⟨h1, h2⟩ := h; subst h1; subst h2; exact kk)
theorem T_invVN2l {idx b ci : Nat} {x1 x2 : Value} {r : Int64} (hd : decode M.2.1 pc = .ok (.invokevirtual idx, 3)) (hl0 : Cond.methodLinkNest M.1.cls idx M'.1 RX6 ∈ nwL) (hi : MIV M' 2) (hk : kd b = ci) (hc : ci < 8) (hcl : M'.1.cls = cC ci) (hlen : (entL (.ref b :: [x1, x2])).length ≤ M'.2.2.1) (hlo : lo' = entL (.ref b :: [x1, x2]) ++ List.replicate (M'.2.2.1 - (entL (.ref b :: [x1, x2])).length) none) (hst : (st.map fun v => v.category).sum ≤ 8) (hcall : TT M' d 0 lo' [] σ (rt (some (.long r)) σ1)) (kk : TT M (d + 1) (pc + 3) lo (.long r :: st) σ1 Q) : TT M (d + 1) pc lo (x2 :: x1 :: .ref b :: st) σ Q := T_invVN2 hd hl0 hi hk hc hcl hlen hlo hst hcall (fun _ _ h => by obtain ⟨h1, h2⟩ := h; subst h1; subst h2; exact kk)
theorem T_invVN2v {idx b ci : Nat} {x1 x2 : Value}  (hd : decode M.2.1 pc = .ok (.invokevirtual idx, 3)) (hl0 : Cond.methodLinkNest M.1.cls idx M'.1 RX6 ∈ nwL) (hi : MIV M' 2) (hk : kd b = ci) (hc : ci < 8) (hcl : M'.1.cls = cC ci) (hlen : (entL (.ref b :: [x1, x2])).length ≤ M'.2.2.1) (hlo : lo' = entL (.ref b :: [x1, x2]) ++ List.replicate (M'.2.2.1 - (entL (.ref b :: [x1, x2])).length) none) (hst : (st.map fun v => v.category).sum ≤ 8) (hcall : TT M' d 0 lo' [] σ (rt none σ1)) (kk : TT M (d + 1) (pc + 3) lo (st) σ1 Q) : TT M (d + 1) pc lo (x2 :: x1 :: .ref b :: st) σ Q := T_invVN2 hd hl0 hi hk hc hcl hlen hlo hst hcall (fun _ _ h => by obtain ⟨h1, h2⟩ := h; subst h1; subst h2; exact kk)
theorem T_invVN3i {idx b ci : Nat} {x1 x2 x3 : Value} {r : Int32} (hd : decode M.2.1 pc = .ok (.invokevirtual idx, 3)) (hl0 : Cond.methodLinkNest M.1.cls idx M'.1 RX6 ∈ nwL) (hi : MIV M' 3) (hk : kd b = ci) (hc : ci < 8) (hcl : M'.1.cls = cC ci) (hlen : (entL (.ref b :: [x1, x2, x3])).length ≤ M'.2.2.1) (hlo : lo' = entL (.ref b :: [x1, x2, x3]) ++ List.replicate (M'.2.2.1 - (entL (.ref b :: [x1, x2, x3])).length) none) (hst : (st.map fun v => v.category).sum ≤ 8) (hcall : TT M' d 0 lo' [] σ (rt (some (.int r)) σ1)) (kk : TT M (d + 1) (pc + 3) lo (.int r :: st) σ1 Q) : TT M (d + 1) pc lo (x3 :: x2 :: x1 :: .ref b :: st) σ Q := T_invVN3 hd hl0 hi hk hc hcl hlen hlo hst hcall (fun _ _ h => by obtain ⟨h1, h2⟩ := h; subst h1; subst h2; exact kk)
theorem T_invVN3l {idx b ci : Nat} {x1 x2 x3 : Value} {r : Int64} (hd : decode M.2.1 pc = .ok (.invokevirtual idx, 3)) (hl0 : Cond.methodLinkNest M.1.cls idx M'.1 RX6 ∈ nwL) (hi : MIV M' 3) (hk : kd b = ci) (hc : ci < 8) (hcl : M'.1.cls = cC ci) (hlen : (entL (.ref b :: [x1, x2, x3])).length ≤ M'.2.2.1) (hlo : lo' = entL (.ref b :: [x1, x2, x3]) ++ List.replicate (M'.2.2.1 - (entL (.ref b :: [x1, x2, x3])).length) none) (hst : (st.map fun v => v.category).sum ≤ 8) (hcall : TT M' d 0 lo' [] σ (rt (some (.long r)) σ1)) (kk : TT M (d + 1) (pc + 3) lo (.long r :: st) σ1 Q) : TT M (d + 1) pc lo (x3 :: x2 :: x1 :: .ref b :: st) σ Q := T_invVN3 hd hl0 hi hk hc hcl hlen hlo hst hcall (fun _ _ h => by obtain ⟨h1, h2⟩ := h; subst h1; subst h2; exact kk)
theorem T_invVN3v {idx b ci : Nat} {x1 x2 x3 : Value}  (hd : decode M.2.1 pc = .ok (.invokevirtual idx, 3)) (hl0 : Cond.methodLinkNest M.1.cls idx M'.1 RX6 ∈ nwL) (hi : MIV M' 3) (hk : kd b = ci) (hc : ci < 8) (hcl : M'.1.cls = cC ci) (hlen : (entL (.ref b :: [x1, x2, x3])).length ≤ M'.2.2.1) (hlo : lo' = entL (.ref b :: [x1, x2, x3]) ++ List.replicate (M'.2.2.1 - (entL (.ref b :: [x1, x2, x3])).length) none) (hst : (st.map fun v => v.category).sum ≤ 8) (hcall : TT M' d 0 lo' [] σ (rt none σ1)) (kk : TT M (d + 1) (pc + 3) lo (st) σ1 Q) : TT M (d + 1) pc lo (x3 :: x2 :: x1 :: .ref b :: st) σ Q := T_invVN3 hd hl0 hi hk hc hcl hlen hlo hst hcall (fun _ _ h => by obtain ⟨h1, h2⟩ := h; subst h1; subst h2; exact kk)
theorem T_invVN4i {idx b ci : Nat} {x1 x2 x3 x4 : Value} {r : Int32} (hd : decode M.2.1 pc = .ok (.invokevirtual idx, 3)) (hl0 : Cond.methodLinkNest M.1.cls idx M'.1 RX6 ∈ nwL) (hi : MIV M' 4) (hk : kd b = ci) (hc : ci < 8) (hcl : M'.1.cls = cC ci) (hlen : (entL (.ref b :: [x1, x2, x3, x4])).length ≤ M'.2.2.1) (hlo : lo' = entL (.ref b :: [x1, x2, x3, x4]) ++ List.replicate (M'.2.2.1 - (entL (.ref b :: [x1, x2, x3, x4])).length) none) (hst : (st.map fun v => v.category).sum ≤ 8) (hcall : TT M' d 0 lo' [] σ (rt (some (.int r)) σ1)) (kk : TT M (d + 1) (pc + 3) lo (.int r :: st) σ1 Q) : TT M (d + 1) pc lo (x4 :: x3 :: x2 :: x1 :: .ref b :: st) σ Q := T_invVN4 hd hl0 hi hk hc hcl hlen hlo hst hcall (fun _ _ h => by obtain ⟨h1, h2⟩ := h; subst h1; subst h2; exact kk)
theorem T_invVN4l {idx b ci : Nat} {x1 x2 x3 x4 : Value} {r : Int64} (hd : decode M.2.1 pc = .ok (.invokevirtual idx, 3)) (hl0 : Cond.methodLinkNest M.1.cls idx M'.1 RX6 ∈ nwL) (hi : MIV M' 4) (hk : kd b = ci) (hc : ci < 8) (hcl : M'.1.cls = cC ci) (hlen : (entL (.ref b :: [x1, x2, x3, x4])).length ≤ M'.2.2.1) (hlo : lo' = entL (.ref b :: [x1, x2, x3, x4]) ++ List.replicate (M'.2.2.1 - (entL (.ref b :: [x1, x2, x3, x4])).length) none) (hst : (st.map fun v => v.category).sum ≤ 8) (hcall : TT M' d 0 lo' [] σ (rt (some (.long r)) σ1)) (kk : TT M (d + 1) (pc + 3) lo (.long r :: st) σ1 Q) : TT M (d + 1) pc lo (x4 :: x3 :: x2 :: x1 :: .ref b :: st) σ Q := T_invVN4 hd hl0 hi hk hc hcl hlen hlo hst hcall (fun _ _ h => by obtain ⟨h1, h2⟩ := h; subst h1; subst h2; exact kk)
theorem T_invVN4v {idx b ci : Nat} {x1 x2 x3 x4 : Value}  (hd : decode M.2.1 pc = .ok (.invokevirtual idx, 3)) (hl0 : Cond.methodLinkNest M.1.cls idx M'.1 RX6 ∈ nwL) (hi : MIV M' 4) (hk : kd b = ci) (hc : ci < 8) (hcl : M'.1.cls = cC ci) (hlen : (entL (.ref b :: [x1, x2, x3, x4])).length ≤ M'.2.2.1) (hlo : lo' = entL (.ref b :: [x1, x2, x3, x4]) ++ List.replicate (M'.2.2.1 - (entL (.ref b :: [x1, x2, x3, x4])).length) none) (hst : (st.map fun v => v.category).sum ≤ 8) (hcall : TT M' d 0 lo' [] σ (rt none σ1)) (kk : TT M (d + 1) (pc + 3) lo (st) σ1 Q) : TT M (d + 1) pc lo (x4 :: x3 :: x2 :: x1 :: .ref b :: st) σ Q := T_invVN4 hd hl0 hi hk hc hcl hlen hlo hst hcall (fun _ _ h => by obtain ⟨h1, h2⟩ := h; subst h1; subst h2; exact kk)
theorem T_invVN5i {idx b ci : Nat} {x1 x2 x3 x4 x5 : Value} {r : Int32} (hd : decode M.2.1 pc = .ok (.invokevirtual idx, 3)) (hl0 : Cond.methodLinkNest M.1.cls idx M'.1 RX6 ∈ nwL) (hi : MIV M' 5) (hk : kd b = ci) (hc : ci < 8) (hcl : M'.1.cls = cC ci) (hlen : (entL (.ref b :: [x1, x2, x3, x4, x5])).length ≤ M'.2.2.1) (hlo : lo' = entL (.ref b :: [x1, x2, x3, x4, x5]) ++ List.replicate (M'.2.2.1 - (entL (.ref b :: [x1, x2, x3, x4, x5])).length) none) (hst : (st.map fun v => v.category).sum ≤ 8) (hcall : TT M' d 0 lo' [] σ (rt (some (.int r)) σ1)) (kk : TT M (d + 1) (pc + 3) lo (.int r :: st) σ1 Q) : TT M (d + 1) pc lo (x5 :: x4 :: x3 :: x2 :: x1 :: .ref b :: st) σ Q := T_invVN5 hd hl0 hi hk hc hcl hlen hlo hst hcall (fun _ _ h => by obtain ⟨h1, h2⟩ := h; subst h1; subst h2; exact kk)
theorem T_invVN5l {idx b ci : Nat} {x1 x2 x3 x4 x5 : Value} {r : Int64} (hd : decode M.2.1 pc = .ok (.invokevirtual idx, 3)) (hl0 : Cond.methodLinkNest M.1.cls idx M'.1 RX6 ∈ nwL) (hi : MIV M' 5) (hk : kd b = ci) (hc : ci < 8) (hcl : M'.1.cls = cC ci) (hlen : (entL (.ref b :: [x1, x2, x3, x4, x5])).length ≤ M'.2.2.1) (hlo : lo' = entL (.ref b :: [x1, x2, x3, x4, x5]) ++ List.replicate (M'.2.2.1 - (entL (.ref b :: [x1, x2, x3, x4, x5])).length) none) (hst : (st.map fun v => v.category).sum ≤ 8) (hcall : TT M' d 0 lo' [] σ (rt (some (.long r)) σ1)) (kk : TT M (d + 1) (pc + 3) lo (.long r :: st) σ1 Q) : TT M (d + 1) pc lo (x5 :: x4 :: x3 :: x2 :: x1 :: .ref b :: st) σ Q := T_invVN5 hd hl0 hi hk hc hcl hlen hlo hst hcall (fun _ _ h => by obtain ⟨h1, h2⟩ := h; subst h1; subst h2; exact kk)
theorem T_invVN5v {idx b ci : Nat} {x1 x2 x3 x4 x5 : Value}  (hd : decode M.2.1 pc = .ok (.invokevirtual idx, 3)) (hl0 : Cond.methodLinkNest M.1.cls idx M'.1 RX6 ∈ nwL) (hi : MIV M' 5) (hk : kd b = ci) (hc : ci < 8) (hcl : M'.1.cls = cC ci) (hlen : (entL (.ref b :: [x1, x2, x3, x4, x5])).length ≤ M'.2.2.1) (hlo : lo' = entL (.ref b :: [x1, x2, x3, x4, x5]) ++ List.replicate (M'.2.2.1 - (entL (.ref b :: [x1, x2, x3, x4, x5])).length) none) (hst : (st.map fun v => v.category).sum ≤ 8) (hcall : TT M' d 0 lo' [] σ (rt none σ1)) (kk : TT M (d + 1) (pc + 3) lo (st) σ1 Q) : TT M (d + 1) pc lo (x5 :: x4 :: x3 :: x2 :: x1 :: .ref b :: st) σ Q := T_invVN5 hd hl0 hi hk hc hcl hlen hlo hst hcall (fun _ _ h => by obtain ⟨h1, h2⟩ := h; subst h1; subst h2; exact kk)
theorem T_invVN6i {idx b ci : Nat} {x1 x2 x3 x4 x5 x6 : Value} {r : Int32} (hd : decode M.2.1 pc = .ok (.invokevirtual idx, 3)) (hl0 : Cond.methodLinkNest M.1.cls idx M'.1 RX6 ∈ nwL) (hi : MIV M' 6) (hk : kd b = ci) (hc : ci < 8) (hcl : M'.1.cls = cC ci) (hlen : (entL (.ref b :: [x1, x2, x3, x4, x5, x6])).length ≤ M'.2.2.1) (hlo : lo' = entL (.ref b :: [x1, x2, x3, x4, x5, x6]) ++ List.replicate (M'.2.2.1 - (entL (.ref b :: [x1, x2, x3, x4, x5, x6])).length) none) (hst : (st.map fun v => v.category).sum ≤ 8) (hcall : TT M' d 0 lo' [] σ (rt (some (.int r)) σ1)) (kk : TT M (d + 1) (pc + 3) lo (.int r :: st) σ1 Q) : TT M (d + 1) pc lo (x6 :: x5 :: x4 :: x3 :: x2 :: x1 :: .ref b :: st) σ Q := T_invVN6 hd hl0 hi hk hc hcl hlen hlo hst hcall (fun _ _ h => by obtain ⟨h1, h2⟩ := h; subst h1; subst h2; exact kk)
theorem T_invVN6l {idx b ci : Nat} {x1 x2 x3 x4 x5 x6 : Value} {r : Int64} (hd : decode M.2.1 pc = .ok (.invokevirtual idx, 3)) (hl0 : Cond.methodLinkNest M.1.cls idx M'.1 RX6 ∈ nwL) (hi : MIV M' 6) (hk : kd b = ci) (hc : ci < 8) (hcl : M'.1.cls = cC ci) (hlen : (entL (.ref b :: [x1, x2, x3, x4, x5, x6])).length ≤ M'.2.2.1) (hlo : lo' = entL (.ref b :: [x1, x2, x3, x4, x5, x6]) ++ List.replicate (M'.2.2.1 - (entL (.ref b :: [x1, x2, x3, x4, x5, x6])).length) none) (hst : (st.map fun v => v.category).sum ≤ 8) (hcall : TT M' d 0 lo' [] σ (rt (some (.long r)) σ1)) (kk : TT M (d + 1) (pc + 3) lo (.long r :: st) σ1 Q) : TT M (d + 1) pc lo (x6 :: x5 :: x4 :: x3 :: x2 :: x1 :: .ref b :: st) σ Q := T_invVN6 hd hl0 hi hk hc hcl hlen hlo hst hcall (fun _ _ h => by obtain ⟨h1, h2⟩ := h; subst h1; subst h2; exact kk)
theorem T_invVN6v {idx b ci : Nat} {x1 x2 x3 x4 x5 x6 : Value}  (hd : decode M.2.1 pc = .ok (.invokevirtual idx, 3)) (hl0 : Cond.methodLinkNest M.1.cls idx M'.1 RX6 ∈ nwL) (hi : MIV M' 6) (hk : kd b = ci) (hc : ci < 8) (hcl : M'.1.cls = cC ci) (hlen : (entL (.ref b :: [x1, x2, x3, x4, x5, x6])).length ≤ M'.2.2.1) (hlo : lo' = entL (.ref b :: [x1, x2, x3, x4, x5, x6]) ++ List.replicate (M'.2.2.1 - (entL (.ref b :: [x1, x2, x3, x4, x5, x6])).length) none) (hst : (st.map fun v => v.category).sum ≤ 8) (hcall : TT M' d 0 lo' [] σ (rt none σ1)) (kk : TT M (d + 1) (pc + 3) lo (st) σ1 Q) : TT M (d + 1) pc lo (x6 :: x5 :: x4 :: x3 :: x2 :: x1 :: .ref b :: st) σ Q := T_invVN6 hd hl0 hi hk hc hcl hlen hlo hst hcall (fun _ _ h => by obtain ⟨h1, h2⟩ := h; subst h1; subst h2; exact kk)
theorem T_invS0i {idx : Nat}  {r : Int32} (hd : decode M.2.1 pc = .ok (.invokestatic idx, 3)) (hl0 : Cond.methodLink M.1.cls idx M'.1 ∈ lU) (hi : MIS M' 0) (hlen : (entL []).length ≤ M'.2.2.1) (hlo : lo' = entL [] ++ List.replicate (M'.2.2.1 - (entL []).length) none) (hst : (st.map fun v => v.category).sum ≤ 8) (hcall : TT M' d 0 lo' [] σ (rt (some (.int r)) σ1)) (kk : TT M (d + 1) (pc + 3) lo (.int r :: st) σ1 Q) : TT M (d + 1) pc lo (st) σ Q := T_invS0 hd hl0 hi hlen hlo hst hcall (fun _ _ h => by obtain ⟨h1, h2⟩ := h; subst h1; subst h2; exact kk)
theorem T_invS0l {idx : Nat}  {r : Int64} (hd : decode M.2.1 pc = .ok (.invokestatic idx, 3)) (hl0 : Cond.methodLink M.1.cls idx M'.1 ∈ lU) (hi : MIS M' 0) (hlen : (entL []).length ≤ M'.2.2.1) (hlo : lo' = entL [] ++ List.replicate (M'.2.2.1 - (entL []).length) none) (hst : (st.map fun v => v.category).sum ≤ 8) (hcall : TT M' d 0 lo' [] σ (rt (some (.long r)) σ1)) (kk : TT M (d + 1) (pc + 3) lo (.long r :: st) σ1 Q) : TT M (d + 1) pc lo (st) σ Q := T_invS0 hd hl0 hi hlen hlo hst hcall (fun _ _ h => by obtain ⟨h1, h2⟩ := h; subst h1; subst h2; exact kk)
theorem T_invS0v {idx : Nat}   (hd : decode M.2.1 pc = .ok (.invokestatic idx, 3)) (hl0 : Cond.methodLink M.1.cls idx M'.1 ∈ lU) (hi : MIS M' 0) (hlen : (entL []).length ≤ M'.2.2.1) (hlo : lo' = entL [] ++ List.replicate (M'.2.2.1 - (entL []).length) none) (hst : (st.map fun v => v.category).sum ≤ 8) (hcall : TT M' d 0 lo' [] σ (rt none σ1)) (kk : TT M (d + 1) (pc + 3) lo (st) σ1 Q) : TT M (d + 1) pc lo (st) σ Q := T_invS0 hd hl0 hi hlen hlo hst hcall (fun _ _ h => by obtain ⟨h1, h2⟩ := h; subst h1; subst h2; exact kk)
theorem T_invS1i {idx : Nat} {x1 : Value} {r : Int32} (hd : decode M.2.1 pc = .ok (.invokestatic idx, 3)) (hl0 : Cond.methodLink M.1.cls idx M'.1 ∈ lU) (hi : MIS M' 1) (hlen : (entL [x1]).length ≤ M'.2.2.1) (hlo : lo' = entL [x1] ++ List.replicate (M'.2.2.1 - (entL [x1]).length) none) (hst : (st.map fun v => v.category).sum ≤ 8) (hcall : TT M' d 0 lo' [] σ (rt (some (.int r)) σ1)) (kk : TT M (d + 1) (pc + 3) lo (.int r :: st) σ1 Q) : TT M (d + 1) pc lo (x1 :: st) σ Q := T_invS1 hd hl0 hi hlen hlo hst hcall (fun _ _ h => by obtain ⟨h1, h2⟩ := h; subst h1; subst h2; exact kk)
theorem T_invS1l {idx : Nat} {x1 : Value} {r : Int64} (hd : decode M.2.1 pc = .ok (.invokestatic idx, 3)) (hl0 : Cond.methodLink M.1.cls idx M'.1 ∈ lU) (hi : MIS M' 1) (hlen : (entL [x1]).length ≤ M'.2.2.1) (hlo : lo' = entL [x1] ++ List.replicate (M'.2.2.1 - (entL [x1]).length) none) (hst : (st.map fun v => v.category).sum ≤ 8) (hcall : TT M' d 0 lo' [] σ (rt (some (.long r)) σ1)) (kk : TT M (d + 1) (pc + 3) lo (.long r :: st) σ1 Q) : TT M (d + 1) pc lo (x1 :: st) σ Q := T_invS1 hd hl0 hi hlen hlo hst hcall (fun _ _ h => by obtain ⟨h1, h2⟩ := h; subst h1; subst h2; exact kk)
theorem T_invS1v {idx : Nat} {x1 : Value}  (hd : decode M.2.1 pc = .ok (.invokestatic idx, 3)) (hl0 : Cond.methodLink M.1.cls idx M'.1 ∈ lU) (hi : MIS M' 1) (hlen : (entL [x1]).length ≤ M'.2.2.1) (hlo : lo' = entL [x1] ++ List.replicate (M'.2.2.1 - (entL [x1]).length) none) (hst : (st.map fun v => v.category).sum ≤ 8) (hcall : TT M' d 0 lo' [] σ (rt none σ1)) (kk : TT M (d + 1) (pc + 3) lo (st) σ1 Q) : TT M (d + 1) pc lo (x1 :: st) σ Q := T_invS1 hd hl0 hi hlen hlo hst hcall (fun _ _ h => by obtain ⟨h1, h2⟩ := h; subst h1; subst h2; exact kk)
theorem T_invS2i {idx : Nat} {x1 x2 : Value} {r : Int32} (hd : decode M.2.1 pc = .ok (.invokestatic idx, 3)) (hl0 : Cond.methodLink M.1.cls idx M'.1 ∈ lU) (hi : MIS M' 2) (hlen : (entL [x1, x2]).length ≤ M'.2.2.1) (hlo : lo' = entL [x1, x2] ++ List.replicate (M'.2.2.1 - (entL [x1, x2]).length) none) (hst : (st.map fun v => v.category).sum ≤ 8) (hcall : TT M' d 0 lo' [] σ (rt (some (.int r)) σ1)) (kk : TT M (d + 1) (pc + 3) lo (.int r :: st) σ1 Q) : TT M (d + 1) pc lo (x2 :: x1 :: st) σ Q := T_invS2 hd hl0 hi hlen hlo hst hcall (fun _ _ h => by obtain ⟨h1, h2⟩ := h; subst h1; subst h2; exact kk)
theorem T_invS2l {idx : Nat} {x1 x2 : Value} {r : Int64} (hd : decode M.2.1 pc = .ok (.invokestatic idx, 3)) (hl0 : Cond.methodLink M.1.cls idx M'.1 ∈ lU) (hi : MIS M' 2) (hlen : (entL [x1, x2]).length ≤ M'.2.2.1) (hlo : lo' = entL [x1, x2] ++ List.replicate (M'.2.2.1 - (entL [x1, x2]).length) none) (hst : (st.map fun v => v.category).sum ≤ 8) (hcall : TT M' d 0 lo' [] σ (rt (some (.long r)) σ1)) (kk : TT M (d + 1) (pc + 3) lo (.long r :: st) σ1 Q) : TT M (d + 1) pc lo (x2 :: x1 :: st) σ Q := T_invS2 hd hl0 hi hlen hlo hst hcall (fun _ _ h => by obtain ⟨h1, h2⟩ := h; subst h1; subst h2; exact kk)
theorem T_invS2v {idx : Nat} {x1 x2 : Value}  (hd : decode M.2.1 pc = .ok (.invokestatic idx, 3)) (hl0 : Cond.methodLink M.1.cls idx M'.1 ∈ lU) (hi : MIS M' 2) (hlen : (entL [x1, x2]).length ≤ M'.2.2.1) (hlo : lo' = entL [x1, x2] ++ List.replicate (M'.2.2.1 - (entL [x1, x2]).length) none) (hst : (st.map fun v => v.category).sum ≤ 8) (hcall : TT M' d 0 lo' [] σ (rt none σ1)) (kk : TT M (d + 1) (pc + 3) lo (st) σ1 Q) : TT M (d + 1) pc lo (x2 :: x1 :: st) σ Q := T_invS2 hd hl0 hi hlen hlo hst hcall (fun _ _ h => by obtain ⟨h1, h2⟩ := h; subst h1; subst h2; exact kk)
theorem T_invS3i {idx : Nat} {x1 x2 x3 : Value} {r : Int32} (hd : decode M.2.1 pc = .ok (.invokestatic idx, 3)) (hl0 : Cond.methodLink M.1.cls idx M'.1 ∈ lU) (hi : MIS M' 3) (hlen : (entL [x1, x2, x3]).length ≤ M'.2.2.1) (hlo : lo' = entL [x1, x2, x3] ++ List.replicate (M'.2.2.1 - (entL [x1, x2, x3]).length) none) (hst : (st.map fun v => v.category).sum ≤ 8) (hcall : TT M' d 0 lo' [] σ (rt (some (.int r)) σ1)) (kk : TT M (d + 1) (pc + 3) lo (.int r :: st) σ1 Q) : TT M (d + 1) pc lo (x3 :: x2 :: x1 :: st) σ Q := T_invS3 hd hl0 hi hlen hlo hst hcall (fun _ _ h => by obtain ⟨h1, h2⟩ := h; subst h1; subst h2; exact kk)
theorem T_invS3l {idx : Nat} {x1 x2 x3 : Value} {r : Int64} (hd : decode M.2.1 pc = .ok (.invokestatic idx, 3)) (hl0 : Cond.methodLink M.1.cls idx M'.1 ∈ lU) (hi : MIS M' 3) (hlen : (entL [x1, x2, x3]).length ≤ M'.2.2.1) (hlo : lo' = entL [x1, x2, x3] ++ List.replicate (M'.2.2.1 - (entL [x1, x2, x3]).length) none) (hst : (st.map fun v => v.category).sum ≤ 8) (hcall : TT M' d 0 lo' [] σ (rt (some (.long r)) σ1)) (kk : TT M (d + 1) (pc + 3) lo (.long r :: st) σ1 Q) : TT M (d + 1) pc lo (x3 :: x2 :: x1 :: st) σ Q := T_invS3 hd hl0 hi hlen hlo hst hcall (fun _ _ h => by obtain ⟨h1, h2⟩ := h; subst h1; subst h2; exact kk)
theorem T_invS3v {idx : Nat} {x1 x2 x3 : Value}  (hd : decode M.2.1 pc = .ok (.invokestatic idx, 3)) (hl0 : Cond.methodLink M.1.cls idx M'.1 ∈ lU) (hi : MIS M' 3) (hlen : (entL [x1, x2, x3]).length ≤ M'.2.2.1) (hlo : lo' = entL [x1, x2, x3] ++ List.replicate (M'.2.2.1 - (entL [x1, x2, x3]).length) none) (hst : (st.map fun v => v.category).sum ≤ 8) (hcall : TT M' d 0 lo' [] σ (rt none σ1)) (kk : TT M (d + 1) (pc + 3) lo (st) σ1 Q) : TT M (d + 1) pc lo (x3 :: x2 :: x1 :: st) σ Q := T_invS3 hd hl0 hi hlen hlo hst hcall (fun _ _ h => by obtain ⟨h1, h2⟩ := h; subst h1; subst h2; exact kk)
theorem T_invS4i {idx : Nat} {x1 x2 x3 x4 : Value} {r : Int32} (hd : decode M.2.1 pc = .ok (.invokestatic idx, 3)) (hl0 : Cond.methodLink M.1.cls idx M'.1 ∈ lU) (hi : MIS M' 4) (hlen : (entL [x1, x2, x3, x4]).length ≤ M'.2.2.1) (hlo : lo' = entL [x1, x2, x3, x4] ++ List.replicate (M'.2.2.1 - (entL [x1, x2, x3, x4]).length) none) (hst : (st.map fun v => v.category).sum ≤ 8) (hcall : TT M' d 0 lo' [] σ (rt (some (.int r)) σ1)) (kk : TT M (d + 1) (pc + 3) lo (.int r :: st) σ1 Q) : TT M (d + 1) pc lo (x4 :: x3 :: x2 :: x1 :: st) σ Q := T_invS4 hd hl0 hi hlen hlo hst hcall (fun _ _ h => by obtain ⟨h1, h2⟩ := h; subst h1; subst h2; exact kk)
theorem T_invS4l {idx : Nat} {x1 x2 x3 x4 : Value} {r : Int64} (hd : decode M.2.1 pc = .ok (.invokestatic idx, 3)) (hl0 : Cond.methodLink M.1.cls idx M'.1 ∈ lU) (hi : MIS M' 4) (hlen : (entL [x1, x2, x3, x4]).length ≤ M'.2.2.1) (hlo : lo' = entL [x1, x2, x3, x4] ++ List.replicate (M'.2.2.1 - (entL [x1, x2, x3, x4]).length) none) (hst : (st.map fun v => v.category).sum ≤ 8) (hcall : TT M' d 0 lo' [] σ (rt (some (.long r)) σ1)) (kk : TT M (d + 1) (pc + 3) lo (.long r :: st) σ1 Q) : TT M (d + 1) pc lo (x4 :: x3 :: x2 :: x1 :: st) σ Q := T_invS4 hd hl0 hi hlen hlo hst hcall (fun _ _ h => by obtain ⟨h1, h2⟩ := h; subst h1; subst h2; exact kk)
theorem T_invS4v {idx : Nat} {x1 x2 x3 x4 : Value}  (hd : decode M.2.1 pc = .ok (.invokestatic idx, 3)) (hl0 : Cond.methodLink M.1.cls idx M'.1 ∈ lU) (hi : MIS M' 4) (hlen : (entL [x1, x2, x3, x4]).length ≤ M'.2.2.1) (hlo : lo' = entL [x1, x2, x3, x4] ++ List.replicate (M'.2.2.1 - (entL [x1, x2, x3, x4]).length) none) (hst : (st.map fun v => v.category).sum ≤ 8) (hcall : TT M' d 0 lo' [] σ (rt none σ1)) (kk : TT M (d + 1) (pc + 3) lo (st) σ1 Q) : TT M (d + 1) pc lo (x4 :: x3 :: x2 :: x1 :: st) σ Q := T_invS4 hd hl0 hi hlen hlo hst hcall (fun _ _ h => by obtain ⟨h1, h2⟩ := h; subst h1; subst h2; exact kk)
theorem T_invS5i {idx : Nat} {x1 x2 x3 x4 x5 : Value} {r : Int32} (hd : decode M.2.1 pc = .ok (.invokestatic idx, 3)) (hl0 : Cond.methodLink M.1.cls idx M'.1 ∈ lU) (hi : MIS M' 5) (hlen : (entL [x1, x2, x3, x4, x5]).length ≤ M'.2.2.1) (hlo : lo' = entL [x1, x2, x3, x4, x5] ++ List.replicate (M'.2.2.1 - (entL [x1, x2, x3, x4, x5]).length) none) (hst : (st.map fun v => v.category).sum ≤ 8) (hcall : TT M' d 0 lo' [] σ (rt (some (.int r)) σ1)) (kk : TT M (d + 1) (pc + 3) lo (.int r :: st) σ1 Q) : TT M (d + 1) pc lo (x5 :: x4 :: x3 :: x2 :: x1 :: st) σ Q := T_invS5 hd hl0 hi hlen hlo hst hcall (fun _ _ h => by obtain ⟨h1, h2⟩ := h; subst h1; subst h2; exact kk)
theorem T_invS5l {idx : Nat} {x1 x2 x3 x4 x5 : Value} {r : Int64} (hd : decode M.2.1 pc = .ok (.invokestatic idx, 3)) (hl0 : Cond.methodLink M.1.cls idx M'.1 ∈ lU) (hi : MIS M' 5) (hlen : (entL [x1, x2, x3, x4, x5]).length ≤ M'.2.2.1) (hlo : lo' = entL [x1, x2, x3, x4, x5] ++ List.replicate (M'.2.2.1 - (entL [x1, x2, x3, x4, x5]).length) none) (hst : (st.map fun v => v.category).sum ≤ 8) (hcall : TT M' d 0 lo' [] σ (rt (some (.long r)) σ1)) (kk : TT M (d + 1) (pc + 3) lo (.long r :: st) σ1 Q) : TT M (d + 1) pc lo (x5 :: x4 :: x3 :: x2 :: x1 :: st) σ Q := T_invS5 hd hl0 hi hlen hlo hst hcall (fun _ _ h => by obtain ⟨h1, h2⟩ := h; subst h1; subst h2; exact kk)
theorem T_invS5v {idx : Nat} {x1 x2 x3 x4 x5 : Value}  (hd : decode M.2.1 pc = .ok (.invokestatic idx, 3)) (hl0 : Cond.methodLink M.1.cls idx M'.1 ∈ lU) (hi : MIS M' 5) (hlen : (entL [x1, x2, x3, x4, x5]).length ≤ M'.2.2.1) (hlo : lo' = entL [x1, x2, x3, x4, x5] ++ List.replicate (M'.2.2.1 - (entL [x1, x2, x3, x4, x5]).length) none) (hst : (st.map fun v => v.category).sum ≤ 8) (hcall : TT M' d 0 lo' [] σ (rt none σ1)) (kk : TT M (d + 1) (pc + 3) lo (st) σ1 Q) : TT M (d + 1) pc lo (x5 :: x4 :: x3 :: x2 :: x1 :: st) σ Q := T_invS5 hd hl0 hi hlen hlo hst hcall (fun _ _ h => by obtain ⟨h1, h2⟩ := h; subst h1; subst h2; exact kk)
theorem T_invS6i {idx : Nat} {x1 x2 x3 x4 x5 x6 : Value} {r : Int32} (hd : decode M.2.1 pc = .ok (.invokestatic idx, 3)) (hl0 : Cond.methodLink M.1.cls idx M'.1 ∈ lU) (hi : MIS M' 6) (hlen : (entL [x1, x2, x3, x4, x5, x6]).length ≤ M'.2.2.1) (hlo : lo' = entL [x1, x2, x3, x4, x5, x6] ++ List.replicate (M'.2.2.1 - (entL [x1, x2, x3, x4, x5, x6]).length) none) (hst : (st.map fun v => v.category).sum ≤ 8) (hcall : TT M' d 0 lo' [] σ (rt (some (.int r)) σ1)) (kk : TT M (d + 1) (pc + 3) lo (.int r :: st) σ1 Q) : TT M (d + 1) pc lo (x6 :: x5 :: x4 :: x3 :: x2 :: x1 :: st) σ Q := T_invS6 hd hl0 hi hlen hlo hst hcall (fun _ _ h => by obtain ⟨h1, h2⟩ := h; subst h1; subst h2; exact kk)
theorem T_invS6l {idx : Nat} {x1 x2 x3 x4 x5 x6 : Value} {r : Int64} (hd : decode M.2.1 pc = .ok (.invokestatic idx, 3)) (hl0 : Cond.methodLink M.1.cls idx M'.1 ∈ lU) (hi : MIS M' 6) (hlen : (entL [x1, x2, x3, x4, x5, x6]).length ≤ M'.2.2.1) (hlo : lo' = entL [x1, x2, x3, x4, x5, x6] ++ List.replicate (M'.2.2.1 - (entL [x1, x2, x3, x4, x5, x6]).length) none) (hst : (st.map fun v => v.category).sum ≤ 8) (hcall : TT M' d 0 lo' [] σ (rt (some (.long r)) σ1)) (kk : TT M (d + 1) (pc + 3) lo (.long r :: st) σ1 Q) : TT M (d + 1) pc lo (x6 :: x5 :: x4 :: x3 :: x2 :: x1 :: st) σ Q := T_invS6 hd hl0 hi hlen hlo hst hcall (fun _ _ h => by obtain ⟨h1, h2⟩ := h; subst h1; subst h2; exact kk)
theorem T_invS6v {idx : Nat} {x1 x2 x3 x4 x5 x6 : Value}  (hd : decode M.2.1 pc = .ok (.invokestatic idx, 3)) (hl0 : Cond.methodLink M.1.cls idx M'.1 ∈ lU) (hi : MIS M' 6) (hlen : (entL [x1, x2, x3, x4, x5, x6]).length ≤ M'.2.2.1) (hlo : lo' = entL [x1, x2, x3, x4, x5, x6] ++ List.replicate (M'.2.2.1 - (entL [x1, x2, x3, x4, x5, x6]).length) none) (hst : (st.map fun v => v.category).sum ≤ 8) (hcall : TT M' d 0 lo' [] σ (rt none σ1)) (kk : TT M (d + 1) (pc + 3) lo (st) σ1 Q) : TT M (d + 1) pc lo (x6 :: x5 :: x4 :: x3 :: x2 :: x1 :: st) σ Q := T_invS6 hd hl0 hi hlen hlo hst hcall (fun _ _ h => by obtain ⟨h1, h2⟩ := h; subst h1; subst h2; exact kk)
theorem T_invSN0i {idx : Nat}  {r : Int32} (hd : decode M.2.1 pc = .ok (.invokestatic idx, 3)) (hl0 : Cond.methodLinkNest M.1.cls idx M'.1 RX6 ∈ nwL) (hi : MIS M' 0) (hlen : (entL []).length ≤ M'.2.2.1) (hlo : lo' = entL [] ++ List.replicate (M'.2.2.1 - (entL []).length) none) (hst : (st.map fun v => v.category).sum ≤ 8) (hcall : TT M' d 0 lo' [] σ (rt (some (.int r)) σ1)) (kk : TT M (d + 1) (pc + 3) lo (.int r :: st) σ1 Q) : TT M (d + 1) pc lo (st) σ Q := T_invSN0 hd hl0 hi hlen hlo hst hcall (fun _ _ h => by obtain ⟨h1, h2⟩ := h; subst h1; subst h2; exact kk)
theorem T_invSN0l {idx : Nat}  {r : Int64} (hd : decode M.2.1 pc = .ok (.invokestatic idx, 3)) (hl0 : Cond.methodLinkNest M.1.cls idx M'.1 RX6 ∈ nwL) (hi : MIS M' 0) (hlen : (entL []).length ≤ M'.2.2.1) (hlo : lo' = entL [] ++ List.replicate (M'.2.2.1 - (entL []).length) none) (hst : (st.map fun v => v.category).sum ≤ 8) (hcall : TT M' d 0 lo' [] σ (rt (some (.long r)) σ1)) (kk : TT M (d + 1) (pc + 3) lo (.long r :: st) σ1 Q) : TT M (d + 1) pc lo (st) σ Q := T_invSN0 hd hl0 hi hlen hlo hst hcall (fun _ _ h => by obtain ⟨h1, h2⟩ := h; subst h1; subst h2; exact kk)
theorem T_invSN0v {idx : Nat}   (hd : decode M.2.1 pc = .ok (.invokestatic idx, 3)) (hl0 : Cond.methodLinkNest M.1.cls idx M'.1 RX6 ∈ nwL) (hi : MIS M' 0) (hlen : (entL []).length ≤ M'.2.2.1) (hlo : lo' = entL [] ++ List.replicate (M'.2.2.1 - (entL []).length) none) (hst : (st.map fun v => v.category).sum ≤ 8) (hcall : TT M' d 0 lo' [] σ (rt none σ1)) (kk : TT M (d + 1) (pc + 3) lo (st) σ1 Q) : TT M (d + 1) pc lo (st) σ Q := T_invSN0 hd hl0 hi hlen hlo hst hcall (fun _ _ h => by obtain ⟨h1, h2⟩ := h; subst h1; subst h2; exact kk)
theorem T_invSN1i {idx : Nat} {x1 : Value} {r : Int32} (hd : decode M.2.1 pc = .ok (.invokestatic idx, 3)) (hl0 : Cond.methodLinkNest M.1.cls idx M'.1 RX6 ∈ nwL) (hi : MIS M' 1) (hlen : (entL [x1]).length ≤ M'.2.2.1) (hlo : lo' = entL [x1] ++ List.replicate (M'.2.2.1 - (entL [x1]).length) none) (hst : (st.map fun v => v.category).sum ≤ 8) (hcall : TT M' d 0 lo' [] σ (rt (some (.int r)) σ1)) (kk : TT M (d + 1) (pc + 3) lo (.int r :: st) σ1 Q) : TT M (d + 1) pc lo (x1 :: st) σ Q := T_invSN1 hd hl0 hi hlen hlo hst hcall (fun _ _ h => by obtain ⟨h1, h2⟩ := h; subst h1; subst h2; exact kk)
theorem T_invSN1l {idx : Nat} {x1 : Value} {r : Int64} (hd : decode M.2.1 pc = .ok (.invokestatic idx, 3)) (hl0 : Cond.methodLinkNest M.1.cls idx M'.1 RX6 ∈ nwL) (hi : MIS M' 1) (hlen : (entL [x1]).length ≤ M'.2.2.1) (hlo : lo' = entL [x1] ++ List.replicate (M'.2.2.1 - (entL [x1]).length) none) (hst : (st.map fun v => v.category).sum ≤ 8) (hcall : TT M' d 0 lo' [] σ (rt (some (.long r)) σ1)) (kk : TT M (d + 1) (pc + 3) lo (.long r :: st) σ1 Q) : TT M (d + 1) pc lo (x1 :: st) σ Q := T_invSN1 hd hl0 hi hlen hlo hst hcall (fun _ _ h => by obtain ⟨h1, h2⟩ := h; subst h1; subst h2; exact kk)
theorem T_invSN1v {idx : Nat} {x1 : Value}  (hd : decode M.2.1 pc = .ok (.invokestatic idx, 3)) (hl0 : Cond.methodLinkNest M.1.cls idx M'.1 RX6 ∈ nwL) (hi : MIS M' 1) (hlen : (entL [x1]).length ≤ M'.2.2.1) (hlo : lo' = entL [x1] ++ List.replicate (M'.2.2.1 - (entL [x1]).length) none) (hst : (st.map fun v => v.category).sum ≤ 8) (hcall : TT M' d 0 lo' [] σ (rt none σ1)) (kk : TT M (d + 1) (pc + 3) lo (st) σ1 Q) : TT M (d + 1) pc lo (x1 :: st) σ Q := T_invSN1 hd hl0 hi hlen hlo hst hcall (fun _ _ h => by obtain ⟨h1, h2⟩ := h; subst h1; subst h2; exact kk)
theorem T_invSN2i {idx : Nat} {x1 x2 : Value} {r : Int32} (hd : decode M.2.1 pc = .ok (.invokestatic idx, 3)) (hl0 : Cond.methodLinkNest M.1.cls idx M'.1 RX6 ∈ nwL) (hi : MIS M' 2) (hlen : (entL [x1, x2]).length ≤ M'.2.2.1) (hlo : lo' = entL [x1, x2] ++ List.replicate (M'.2.2.1 - (entL [x1, x2]).length) none) (hst : (st.map fun v => v.category).sum ≤ 8) (hcall : TT M' d 0 lo' [] σ (rt (some (.int r)) σ1)) (kk : TT M (d + 1) (pc + 3) lo (.int r :: st) σ1 Q) : TT M (d + 1) pc lo (x2 :: x1 :: st) σ Q := T_invSN2 hd hl0 hi hlen hlo hst hcall (fun _ _ h => by obtain ⟨h1, h2⟩ := h; subst h1; subst h2; exact kk)
theorem T_invSN2l {idx : Nat} {x1 x2 : Value} {r : Int64} (hd : decode M.2.1 pc = .ok (.invokestatic idx, 3)) (hl0 : Cond.methodLinkNest M.1.cls idx M'.1 RX6 ∈ nwL) (hi : MIS M' 2) (hlen : (entL [x1, x2]).length ≤ M'.2.2.1) (hlo : lo' = entL [x1, x2] ++ List.replicate (M'.2.2.1 - (entL [x1, x2]).length) none) (hst : (st.map fun v => v.category).sum ≤ 8) (hcall : TT M' d 0 lo' [] σ (rt (some (.long r)) σ1)) (kk : TT M (d + 1) (pc + 3) lo (.long r :: st) σ1 Q) : TT M (d + 1) pc lo (x2 :: x1 :: st) σ Q := T_invSN2 hd hl0 hi hlen hlo hst hcall (fun _ _ h => by obtain ⟨h1, h2⟩ := h; subst h1; subst h2; exact kk)
theorem T_invSN2v {idx : Nat} {x1 x2 : Value}  (hd : decode M.2.1 pc = .ok (.invokestatic idx, 3)) (hl0 : Cond.methodLinkNest M.1.cls idx M'.1 RX6 ∈ nwL) (hi : MIS M' 2) (hlen : (entL [x1, x2]).length ≤ M'.2.2.1) (hlo : lo' = entL [x1, x2] ++ List.replicate (M'.2.2.1 - (entL [x1, x2]).length) none) (hst : (st.map fun v => v.category).sum ≤ 8) (hcall : TT M' d 0 lo' [] σ (rt none σ1)) (kk : TT M (d + 1) (pc + 3) lo (st) σ1 Q) : TT M (d + 1) pc lo (x2 :: x1 :: st) σ Q := T_invSN2 hd hl0 hi hlen hlo hst hcall (fun _ _ h => by obtain ⟨h1, h2⟩ := h; subst h1; subst h2; exact kk)
theorem T_invSN3i {idx : Nat} {x1 x2 x3 : Value} {r : Int32} (hd : decode M.2.1 pc = .ok (.invokestatic idx, 3)) (hl0 : Cond.methodLinkNest M.1.cls idx M'.1 RX6 ∈ nwL) (hi : MIS M' 3) (hlen : (entL [x1, x2, x3]).length ≤ M'.2.2.1) (hlo : lo' = entL [x1, x2, x3] ++ List.replicate (M'.2.2.1 - (entL [x1, x2, x3]).length) none) (hst : (st.map fun v => v.category).sum ≤ 8) (hcall : TT M' d 0 lo' [] σ (rt (some (.int r)) σ1)) (kk : TT M (d + 1) (pc + 3) lo (.int r :: st) σ1 Q) : TT M (d + 1) pc lo (x3 :: x2 :: x1 :: st) σ Q := T_invSN3 hd hl0 hi hlen hlo hst hcall (fun _ _ h => by obtain ⟨h1, h2⟩ := h; subst h1; subst h2; exact kk)
theorem T_invSN3l {idx : Nat} {x1 x2 x3 : Value} {r : Int64} (hd : decode M.2.1 pc = .ok (.invokestatic idx, 3)) (hl0 : Cond.methodLinkNest M.1.cls idx M'.1 RX6 ∈ nwL) (hi : MIS M' 3) (hlen : (entL [x1, x2, x3]).length ≤ M'.2.2.1) (hlo : lo' = entL [x1, x2, x3] ++ List.replicate (M'.2.2.1 - (entL [x1, x2, x3]).length) none) (hst : (st.map fun v => v.category).sum ≤ 8) (hcall : TT M' d 0 lo' [] σ (rt (some (.long r)) σ1)) (kk : TT M (d + 1) (pc + 3) lo (.long r :: st) σ1 Q) : TT M (d + 1) pc lo (x3 :: x2 :: x1 :: st) σ Q := T_invSN3 hd hl0 hi hlen hlo hst hcall (fun _ _ h => by obtain ⟨h1, h2⟩ := h; subst h1; subst h2; exact kk)
theorem T_invSN3v {idx : Nat} {x1 x2 x3 : Value}  (hd : decode M.2.1 pc = .ok (.invokestatic idx, 3)) (hl0 : Cond.methodLinkNest M.1.cls idx M'.1 RX6 ∈ nwL) (hi : MIS M' 3) (hlen : (entL [x1, x2, x3]).length ≤ M'.2.2.1) (hlo : lo' = entL [x1, x2, x3] ++ List.replicate (M'.2.2.1 - (entL [x1, x2, x3]).length) none) (hst : (st.map fun v => v.category).sum ≤ 8) (hcall : TT M' d 0 lo' [] σ (rt none σ1)) (kk : TT M (d + 1) (pc + 3) lo (st) σ1 Q) : TT M (d + 1) pc lo (x3 :: x2 :: x1 :: st) σ Q := T_invSN3 hd hl0 hi hlen hlo hst hcall (fun _ _ h => by obtain ⟨h1, h2⟩ := h; subst h1; subst h2; exact kk)
theorem T_invSN4i {idx : Nat} {x1 x2 x3 x4 : Value} {r : Int32} (hd : decode M.2.1 pc = .ok (.invokestatic idx, 3)) (hl0 : Cond.methodLinkNest M.1.cls idx M'.1 RX6 ∈ nwL) (hi : MIS M' 4) (hlen : (entL [x1, x2, x3, x4]).length ≤ M'.2.2.1) (hlo : lo' = entL [x1, x2, x3, x4] ++ List.replicate (M'.2.2.1 - (entL [x1, x2, x3, x4]).length) none) (hst : (st.map fun v => v.category).sum ≤ 8) (hcall : TT M' d 0 lo' [] σ (rt (some (.int r)) σ1)) (kk : TT M (d + 1) (pc + 3) lo (.int r :: st) σ1 Q) : TT M (d + 1) pc lo (x4 :: x3 :: x2 :: x1 :: st) σ Q := T_invSN4 hd hl0 hi hlen hlo hst hcall (fun _ _ h => by obtain ⟨h1, h2⟩ := h; subst h1; subst h2; exact kk)
theorem T_invSN4l {idx : Nat} {x1 x2 x3 x4 : Value} {r : Int64} (hd : decode M.2.1 pc = .ok (.invokestatic idx, 3)) (hl0 : Cond.methodLinkNest M.1.cls idx M'.1 RX6 ∈ nwL) (hi : MIS M' 4) (hlen : (entL [x1, x2, x3, x4]).length ≤ M'.2.2.1) (hlo : lo' = entL [x1, x2, x3, x4] ++ List.replicate (M'.2.2.1 - (entL [x1, x2, x3, x4]).length) none) (hst : (st.map fun v => v.category).sum ≤ 8) (hcall : TT M' d 0 lo' [] σ (rt (some (.long r)) σ1)) (kk : TT M (d + 1) (pc + 3) lo (.long r :: st) σ1 Q) : TT M (d + 1) pc lo (x4 :: x3 :: x2 :: x1 :: st) σ Q := T_invSN4 hd hl0 hi hlen hlo hst hcall (fun _ _ h => by obtain ⟨h1, h2⟩ := h; subst h1; subst h2; exact kk)
theorem T_invSN4v {idx : Nat} {x1 x2 x3 x4 : Value}  (hd : decode M.2.1 pc = .ok (.invokestatic idx, 3)) (hl0 : Cond.methodLinkNest M.1.cls idx M'.1 RX6 ∈ nwL) (hi : MIS M' 4) (hlen : (entL [x1, x2, x3, x4]).length ≤ M'.2.2.1) (hlo : lo' = entL [x1, x2, x3, x4] ++ List.replicate (M'.2.2.1 - (entL [x1, x2, x3, x4]).length) none) (hst : (st.map fun v => v.category).sum ≤ 8) (hcall : TT M' d 0 lo' [] σ (rt none σ1)) (kk : TT M (d + 1) (pc + 3) lo (st) σ1 Q) : TT M (d + 1) pc lo (x4 :: x3 :: x2 :: x1 :: st) σ Q := T_invSN4 hd hl0 hi hlen hlo hst hcall (fun _ _ h => by obtain ⟨h1, h2⟩ := h; subst h1; subst h2; exact kk)
theorem T_invSN5i {idx : Nat} {x1 x2 x3 x4 x5 : Value} {r : Int32} (hd : decode M.2.1 pc = .ok (.invokestatic idx, 3)) (hl0 : Cond.methodLinkNest M.1.cls idx M'.1 RX6 ∈ nwL) (hi : MIS M' 5) (hlen : (entL [x1, x2, x3, x4, x5]).length ≤ M'.2.2.1) (hlo : lo' = entL [x1, x2, x3, x4, x5] ++ List.replicate (M'.2.2.1 - (entL [x1, x2, x3, x4, x5]).length) none) (hst : (st.map fun v => v.category).sum ≤ 8) (hcall : TT M' d 0 lo' [] σ (rt (some (.int r)) σ1)) (kk : TT M (d + 1) (pc + 3) lo (.int r :: st) σ1 Q) : TT M (d + 1) pc lo (x5 :: x4 :: x3 :: x2 :: x1 :: st) σ Q := T_invSN5 hd hl0 hi hlen hlo hst hcall (fun _ _ h => by obtain ⟨h1, h2⟩ := h; subst h1; subst h2; exact kk)
theorem T_invSN5l {idx : Nat} {x1 x2 x3 x4 x5 : Value} {r : Int64} (hd : decode M.2.1 pc = .ok (.invokestatic idx, 3)) (hl0 : Cond.methodLinkNest M.1.cls idx M'.1 RX6 ∈ nwL) (hi : MIS M' 5) (hlen : (entL [x1, x2, x3, x4, x5]).length ≤ M'.2.2.1) (hlo : lo' = entL [x1, x2, x3, x4, x5] ++ List.replicate (M'.2.2.1 - (entL [x1, x2, x3, x4, x5]).length) none) (hst : (st.map fun v => v.category).sum ≤ 8) (hcall : TT M' d 0 lo' [] σ (rt (some (.long r)) σ1)) (kk : TT M (d + 1) (pc + 3) lo (.long r :: st) σ1 Q) : TT M (d + 1) pc lo (x5 :: x4 :: x3 :: x2 :: x1 :: st) σ Q := T_invSN5 hd hl0 hi hlen hlo hst hcall (fun _ _ h => by obtain ⟨h1, h2⟩ := h; subst h1; subst h2; exact kk)
theorem T_invSN5v {idx : Nat} {x1 x2 x3 x4 x5 : Value}  (hd : decode M.2.1 pc = .ok (.invokestatic idx, 3)) (hl0 : Cond.methodLinkNest M.1.cls idx M'.1 RX6 ∈ nwL) (hi : MIS M' 5) (hlen : (entL [x1, x2, x3, x4, x5]).length ≤ M'.2.2.1) (hlo : lo' = entL [x1, x2, x3, x4, x5] ++ List.replicate (M'.2.2.1 - (entL [x1, x2, x3, x4, x5]).length) none) (hst : (st.map fun v => v.category).sum ≤ 8) (hcall : TT M' d 0 lo' [] σ (rt none σ1)) (kk : TT M (d + 1) (pc + 3) lo (st) σ1 Q) : TT M (d + 1) pc lo (x5 :: x4 :: x3 :: x2 :: x1 :: st) σ Q := T_invSN5 hd hl0 hi hlen hlo hst hcall (fun _ _ h => by obtain ⟨h1, h2⟩ := h; subst h1; subst h2; exact kk)
theorem T_invSN6i {idx : Nat} {x1 x2 x3 x4 x5 x6 : Value} {r : Int32} (hd : decode M.2.1 pc = .ok (.invokestatic idx, 3)) (hl0 : Cond.methodLinkNest M.1.cls idx M'.1 RX6 ∈ nwL) (hi : MIS M' 6) (hlen : (entL [x1, x2, x3, x4, x5, x6]).length ≤ M'.2.2.1) (hlo : lo' = entL [x1, x2, x3, x4, x5, x6] ++ List.replicate (M'.2.2.1 - (entL [x1, x2, x3, x4, x5, x6]).length) none) (hst : (st.map fun v => v.category).sum ≤ 8) (hcall : TT M' d 0 lo' [] σ (rt (some (.int r)) σ1)) (kk : TT M (d + 1) (pc + 3) lo (.int r :: st) σ1 Q) : TT M (d + 1) pc lo (x6 :: x5 :: x4 :: x3 :: x2 :: x1 :: st) σ Q := T_invSN6 hd hl0 hi hlen hlo hst hcall (fun _ _ h => by obtain ⟨h1, h2⟩ := h; subst h1; subst h2; exact kk)
theorem T_invSN6l {idx : Nat} {x1 x2 x3 x4 x5 x6 : Value} {r : Int64} (hd : decode M.2.1 pc = .ok (.invokestatic idx, 3)) (hl0 : Cond.methodLinkNest M.1.cls idx M'.1 RX6 ∈ nwL) (hi : MIS M' 6) (hlen : (entL [x1, x2, x3, x4, x5, x6]).length ≤ M'.2.2.1) (hlo : lo' = entL [x1, x2, x3, x4, x5, x6] ++ List.replicate (M'.2.2.1 - (entL [x1, x2, x3, x4, x5, x6]).length) none) (hst : (st.map fun v => v.category).sum ≤ 8) (hcall : TT M' d 0 lo' [] σ (rt (some (.long r)) σ1)) (kk : TT M (d + 1) (pc + 3) lo (.long r :: st) σ1 Q) : TT M (d + 1) pc lo (x6 :: x5 :: x4 :: x3 :: x2 :: x1 :: st) σ Q := T_invSN6 hd hl0 hi hlen hlo hst hcall (fun _ _ h => by obtain ⟨h1, h2⟩ := h; subst h1; subst h2; exact kk)
theorem T_invSN6v {idx : Nat} {x1 x2 x3 x4 x5 x6 : Value}  (hd : decode M.2.1 pc = .ok (.invokestatic idx, 3)) (hl0 : Cond.methodLinkNest M.1.cls idx M'.1 RX6 ∈ nwL) (hi : MIS M' 6) (hlen : (entL [x1, x2, x3, x4, x5, x6]).length ≤ M'.2.2.1) (hlo : lo' = entL [x1, x2, x3, x4, x5, x6] ++ List.replicate (M'.2.2.1 - (entL [x1, x2, x3, x4, x5, x6]).length) none) (hst : (st.map fun v => v.category).sum ≤ 8) (hcall : TT M' d 0 lo' [] σ (rt none σ1)) (kk : TT M (d + 1) (pc + 3) lo (st) σ1 Q) : TT M (d + 1) pc lo (x6 :: x5 :: x4 :: x3 :: x2 :: x1 :: st) σ Q := T_invSN6 hd hl0 hi hlen hlo hst hcall (fun _ _ h => by obtain ⟨h1, h2⟩ := h; subst h1; subst h2; exact kk)
/-- downward: what holds at the end of a counted loop holds at its start -/
theorem up_ind {P : Nat → Prop} (N : Nat) (hN : P N) (hs : ∀ i, i < N → P (i + 1) → P i) : P 0 := by
  have : ∀ k, k ≤ N → P (N - k) := by
    intro k
    induction k with
    | zero => intro _; exact hN
    | succ k ih =>
      intro hk
      refine hs _ (by omega) ?_
      rw [show N - (k + 1) + 1 = N - k by omega]
      exact ih (by omega)
  have h := this N (Nat.le_refl N)
  rwa [Nat.sub_self] at h
end TNAT
end
section
/-! switches; leaves of the class: small static methods, Table's reads -/
section TSW
variable {M : MD} {d pc : Nat} {lo : List (Option Value)} {st : List Value} {σ : SG} {Q : Option Value → SG → Prop}
theorem T_sw {a len : Nat} {dflt b : Int} {offs : Array Int} {x : Int32} (tgs : List Nat) (dt : Nat) (hd : decode M.2.1 pc = .ok (.tableswitch dflt (a : Int) b offs, len)) (hb : b = a + tgs.length - 1) (hok : ∀ j, j < tgs.length → offs[j]? = some ((tgs.getD j 0 : Int) - pc)) (hdt : (pc : Int) + dflt = dt) (hsm : a + tgs.length < 100)
    (kc : ∀ j, j < tgs.length → x = nI (a + j) → TT M d (tgs.getD j 0) lo st σ Q) (ko : (∀ j, j < tgs.length → x ≠ nI (a + j)) → TT M d dt lo st σ Q) : TT M d pc lo (.int x :: st) σ Q := by
  by_cases h : x.toInt < a ∨ b < x.toInt
  · refine T_swOut hd h hdt (ko fun j hj e => ?_)
    rw [e, nI_toInt (by omega)] at h
    omega
  · have h1 : ¬ x.toInt < a := fun q => h (Or.inl q)
    have h2 : ¬ b < x.toInt := fun q => h (Or.inr q)
    have hx : ¬ x < 0 := by
      intro q
      have := Int32.lt_iff_toInt_lt.mp q
      have h0 : (0 : Int32).toInt = 0 := rfl
      omega
    obtain ⟨n, hn, e⟩ := nI_of hx
    have ht : x.toInt = n := by rw [e]; exact nI_toInt hn
    have hj : n - a < tgs.length := by omega
    refine T_swIn hd h1 h2 (off := (tgs.getD (n - a) 0 : Int) - pc) ?_ (by omega) (kc (n - a) hj (by rw [e]; congr 1; omega))
    rw [show (x.toInt - (a : Int)).toNat = n - a by omega]
    exact hok _ hj
theorem T_lk {len : Nat} {dflt : Int} {ps : Array (Int × Int)} {x : Int32} (tgs : List (Nat × Nat)) (dt : Nat) (hd : decode M.2.1 pc = .ok (.lookupswitch dflt ps, len)) (hp : (ps.toList.zip (ps.toList.drop 1)).all (fun (a, next) => a.1 < next.1) = true) (hps : ps.toList = tgs.map (fun q => ((q.1 : Int), (q.2 : Int) - pc))) (hdt : (pc : Int) + dflt = dt) (hsm : ∀ q ∈ tgs, q.1 < 100)
    (kc : ∀ j, j < tgs.length → x = nI (tgs.getD j (0, 0)).1 → TT M d (tgs.getD j (0, 0)).2 lo st σ Q) (ko : (∀ j, j < tgs.length → x ≠ nI (tgs.getD j (0, 0)).1) → TT M d dt lo st σ Q) : TT M d pc lo (.int x :: st) σ Q := by
  have key : ∀ (l : List (Nat × Nat)) (v : Int), (Op.lookupswitch.offset (l.map (fun q => ((q.1 : Int), (q.2 : Int) - pc))) dflt v = dflt ∧ ∀ j, j < l.length → ((l.getD j (0, 0)).1 : Int) ≠ v) ∨ ∃ j, j < l.length ∧ ((l.getD j (0, 0)).1 : Int) = v ∧ Op.lookupswitch.offset (l.map (fun q => ((q.1 : Int), (q.2 : Int) - pc))) dflt v = ((l.getD j (0, 0)).2 : Int) - pc := by
    intro l v
    induction l with
    | nil => left; exact ⟨rfl, fun j hj => absurd hj (Nat.not_lt_zero j)⟩
    | cons q t ih =>
      by_cases hq : (q.1 : Int) = v
      · right
        refine ⟨0, by simp, hq, ?_⟩
        simp [Op.lookupswitch.offset, hq]
      · rcases ih with ⟨h1, h2⟩ | ⟨j, h1, h2, h3⟩
        · left
          refine ⟨by simpa [Op.lookupswitch.offset, hq] using h1, fun j hj => ?_⟩
          match j, hj with
          | 0, _ => exact hq
          | j + 1, hj => exact h2 j (by simpa using hj)
        · right
          exact ⟨j + 1, by simpa using h1, h2, by simpa [Op.lookupswitch.offset, hq] using h3⟩
  have hmem : ∀ j, j < tgs.length → (tgs.getD j (0, 0)).1 < 100 := fun j hj => hsm _ (by rw [List.getD_eq_getElem?_getD, List.getElem?_eq_getElem hj]; exact List.getElem_mem hj)
  rcases key tgs x.toInt with ⟨h1, h2⟩ | ⟨j, h1, h2, h3⟩
  · refine T_look (off := dflt) hd hp (by rw [hps]; exact h1) hdt (ko fun j hj e => ?_)
    refine h2 j hj ?_
    rw [e, nI_toInt (by have := hmem j hj; omega)]
  · refine T_look (off := ((tgs.getD j (0, 0)).2 : Int) - pc) hd hp (by rw [hps]; exact h3) (by omega) (kc j h1 ?_)
    have := hmem j h1
    refine (Int32.toInt_inj).mp ?_
    rw [nI_toInt (by omega)]; omega
end TSW
def blw (x : Int32) (n : Nat) : Bool := decide (∃ j : Nat, j < n ∧ x = nI j)
theorem blw_t {x : Int32} {n : Nat} (h : blw x n = true) : ∃ j : Nat, j < n ∧ x = nI j := of_decide_eq_true h
theorem blw_n {j n : Nat} (h : j < n) : blw (nI j) n = true := decide_eq_true ⟨j, h, rfl⟩
theorem blw_f {x : Int32} {n j : Nat} (h : blw x n = false) (hj : j < n) : x ≠ nI j := fun e => of_decide_eq_false h ⟨j, hj, e⟩
def stp (g a b : Nat) : Nat := if a ≤ b then b - a else b + g - a
def who (g k s p : Nat) : Int32 := if k = s ∨ k = p then -9 else if stp g s k < stp g s p then 0 else 1
def sm (f : Nat → Nat) : Nat → Nat
  | 0 => 0
  | n + 1 => sm f n + f n
def minN (k m so : Nat) : Nat := if k = 2 then (m + so) / 2 else if k = 1 then m + so - 1 else m + so
def nb (g k r : Nat) : Nat := if r % 2 = 0 then (if k = 0 then g - 1 else k - 1) else (if k = g - 1 then 0 else k + 1)
def beh (g b r : Nat) : Option Nat := if r < 2 then (if nb g (b / 8) r = b % 8 then none else some (8 * nb g (b / 8) r + b % 8)) else (if b / 8 = nb g (b % 8) r then none else some (8 * (b / 8) + nb g (b % 8) r))
def isB (g b : Nat) : Bool := decide (b / 8 < g) && decide (b % 8 < g) && decide (b / 8 ≠ b % 8)
theorem sub_add_n {a b g : Nat} (h : a ≤ b + g) : nI b - nI a + nI g = nI (b + g - a) := by
  rw [← pk_sub h, ← nI_add]
  simp only [Int32.sub_eq_add_neg, Int32.add_assoc]
  rw [Int32.add_comm (-nI a) (nI g)]
theorem aunt_n : ∀ v, v < 100 → (if nI v - nI 1 < nI 0 then nI 0 else nI v - nI 1) = nI (v - 1) := by decide +kernel
set_option maxRecDepth 20000 in
theorem c_X6_isBelow {S : Nat → Nat → Int32} {L : Nat → Nat → Int64} {R : Nat × Nat × Nat} {d : Nat} {x : Int32} {n : Nat} (hn : n < 2 ^ 31) : TT mX6_isBelow (d + 0) 0 [some (.int x), some (.int (nI n))] [] (S, L, R) (rt (some (.int (bI (blw x n)))) (S, L, R)) := by
  refine T_ild0 dX6_isBelow_0 ?_
  refine T_iflt (tgt := 13) dX6_isBelow_1 (by decide) (fun h => ?_) (fun h => ?_)
  · refine T_iconst (v := bI false) dX6_isBelow_13 (by decide) ?_
    refine T_bretB dX6_isBelow_14 rfl ?_
    rw [show blw x n = false from decide_eq_false (fun ⟨j, h1, h2⟩ => by rw [h2] at h; exact nI_pos (by omega) h)]
    exact rt_i
  · obtain ⟨j, hj, rfl⟩ := nI_of h
    refine T_ild0 dX6_isBelow_4 ?_
    refine T_ild1 dX6_isBelow_5 ?_
    refine T_cgeN (tgt := 13) dX6_isBelow_6 (by decide) hj hn (fun h6 => ?_) (fun h6 => ?_)
    · refine T_iconst (v := bI false) dX6_isBelow_13 (by decide) ?_
      refine T_bretB dX6_isBelow_14 rfl ?_
      rw [show blw (nI j) n = false from decide_eq_false (fun ⟨i, h1, h2⟩ => by have := nI_inj hj (by omega) h2; omega)]
      exact rt_i
    · refine T_iconst (v := bI true) dX6_isBelow_9 (by decide) ?_
      refine T_goto (tgt := 14) dX6_isBelow_10 (by decide) ?_
      refine T_bretB dX6_isBelow_14 rfl ?_
      rw [show blw (nI j) n = true from decide_eq_true ⟨j, h6, rfl⟩]
      exact rt_i
set_option maxRecDepth 20000 in
theorem c_X6_isSheet {S : Nat → Nat → Int32} {L : Nat → Nat → Int64} {R : Nat × Nat × Nat} {d : Nat} {x : Int32} : TT mX6_isSheet (d + 1) 0 [some (.int x)] [] (S, L, R) (rt (some (.int (bI (blw x 4)))) (S, L, R)) := by
  refine T_ild0 dX6_isSheet_0 ?_
  refine T_iconst (v := nI 4) dX6_isSheet_1 (by decide) ?_
  refine T_invS2i (M' := mX6_isBelow) dX6_isSheet_2 ml_X6_64 imX6_isBelow (Nat.le_of_ble_eq_true rfl) rfl (Nat.le_of_ble_eq_true rfl) (c_X6_isBelow (by omega)) ?_
  refine T_bretB dX6_isSheet_5 rfl ?_
  exact rt_i
set_option maxRecDepth 20000 in
theorem c_X6_borderOf {S : Nat → Nat → Int32} {L : Nat → Nat → Int64} {R : Nat × Nat × Nat} {d : Nat} {a b : Nat} : TT mX6_borderOf (d + 0) 0 [some (.int (nI a)), some (.int (nI b))] [] (S, L, R) (rt (some (.int (nI (8 * a + b)))) (S, L, R)) := by
  refine T_ild0 dX6_borderOf_0 ?_
  refine T_bipush (v := nI 8) dX6_borderOf_1 (by decide) ?_
  refine T_imulN dX6_borderOf_3 ?_
  refine T_ild1 dX6_borderOf_4 ?_
  refine T_iaddN dX6_borderOf_5 ?_
  refine T_iret dX6_borderOf_6 rfl ?_
  rw [Nat.mul_comm a 8]; exact rt_i
set_option maxRecDepth 20000 in
theorem c_X6_saltOf {S : Nat → Nat → Int32} {L : Nat → Nat → Int64} {R : Nat × Nat × Nat} {d : Nat} {b : Nat} (hb : b < 64) : TT mX6_saltOf (d + 0) 0 [some (.int (nI b))] [] (S, L, R) (rt (some (.int (nI (b / 8)))) (S, L, R)) := by
  refine T_ild0 dX6_saltOf_0 ?_
  refine T_bipush (v := nI 8) dX6_saltOf_1 (by decide) ?_
  refine T_idivN dX6_saltOf_3 (by omega) (by omega) (by omega) ?_
  refine T_iret dX6_saltOf_4 rfl ?_
  exact rt_i
set_option maxRecDepth 20000 in
theorem c_X6_pepperOf {S : Nat → Nat → Int32} {L : Nat → Nat → Int64} {R : Nat × Nat × Nat} {d : Nat} {b : Nat} (hb : b < 64) : TT mX6_pepperOf (d + 0) 0 [some (.int (nI b))] [] (S, L, R) (rt (some (.int (nI (b % 8)))) (S, L, R)) := by
  refine T_ild0 dX6_pepperOf_0 ?_
  refine T_bipush (v := nI 8) dX6_pepperOf_1 (by decide) ?_
  refine T_iremN dX6_pepperOf_3 (by omega) (by omega) (by omega) ?_
  refine T_iret dX6_pepperOf_4 rfl ?_
  exact rt_i
set_option maxRecDepth 20000 in
theorem c_X6_standsAt {S : Nat → Nat → Int32} {L : Nat → Nat → Int64} {R : Nat × Nat × Nat} {d : Nat} {b r : Nat} (hb : b < 64) (hr : r < 4) : TT mX6_standsAt (d + 1) 0 [some (.int (nI b)), some (.int (nI r))] [] (S, L, R) (rt (some (.int (nI (if r < 2 then b / 8 else b % 8)))) (S, L, R)) := by
  refine T_ild1 dX6_standsAt_0 ?_
  refine T_iconst (v := nI 2) dX6_standsAt_1 (by decide) ?_
  refine T_cgeN (tgt := 12) dX6_standsAt_2 (by decide) (by omega) (by omega) (fun h2 => ?_) (fun h2 => ?_)
  · refine T_ild0 dX6_standsAt_12 ?_
    refine T_invS1i (M' := mX6_pepperOf) dX6_standsAt_13 ml_X6_164 imX6_pepperOf (Nat.le_of_ble_eq_true rfl) rfl (Nat.le_of_ble_eq_true rfl) (c_X6_pepperOf (by omega)) ?_
    refine T_iret dX6_standsAt_16 rfl ?_
    first | (rw [if_pos (by omega)]; exact rt_i) | (rw [if_neg (by omega)]; exact rt_i)
  · refine T_ild0 dX6_standsAt_5 ?_
    refine T_invS1i (M' := mX6_saltOf) dX6_standsAt_6 ml_X6_161 imX6_saltOf (Nat.le_of_ble_eq_true rfl) rfl (Nat.le_of_ble_eq_true rfl) (c_X6_saltOf (by omega)) ?_
    refine T_goto (tgt := 16) dX6_standsAt_9 (by decide) ?_
    refine T_iret dX6_standsAt_16 rfl ?_
    first | (rw [if_pos (by omega)]; exact rt_i) | (rw [if_neg (by omega)]; exact rt_i)
set_option maxRecDepth 20000 in
theorem c_X4_isLaid {S : Nat → Nat → Int32} {L : Nat → Nat → Int64} {R : Nat × Nat × Nat} {d : Nat} {T : Nat} (hT : T = 19 ∨ T = 28) {g : Nat} (hg : S T 8 = nI g) (hg8 : g ≤ 8) : TT mX4_isLaid (d + 0) 0 [some (.ref T)] [] (S, L, R) (rt (some (.int (bI (decide (0 < g))))) (S, L, R)) := by
  refine T_ald0 dX4_isLaid_0 ?_
  refine T_getN dX4_isLaid_1 lf_X4_36 (kT hT) rfl hg ?_
  refine T_ifleN (tgt := 11) dX4_isLaid_4 (by decide) (by omega) (fun h4 => ?_) (fun h4 => ?_)
  · refine T_iconst (v := bI false) dX4_isLaid_11 (by decide) ?_
    refine T_bretB dX4_isLaid_12 rfl ?_
    first | (rw [decide_eq_true (by omega : 0 < g)]; exact rt_i) | (rw [decide_eq_false (by omega : ¬ 0 < g)]; exact rt_i)
  · refine T_iconst (v := bI true) dX4_isLaid_7 (by decide) ?_
    refine T_goto (tgt := 12) dX4_isLaid_8 (by decide) ?_
    refine T_bretB dX4_isLaid_12 rfl ?_
    first | (rw [decide_eq_true (by omega : 0 < g)]; exact rt_i) | (rw [decide_eq_false (by omega : ¬ 0 < g)]; exact rt_i)
set_option maxRecDepth 20000 in
theorem c_X4_stepsBehind {S : Nat → Nat → Int32} {L : Nat → Nat → Int64} {R : Nat × Nat × Nat} {d : Nat} {T : Nat} (hT : T = 19 ∨ T = 28) {g : Nat} (hg : S T 8 = nI g) (hg8 : g ≤ 8) {a b : Nat} (ha : a < g) (hb : b < g) : TT mX4_stepsBehind (d + 0) 0 [some (.ref T), some (.int (nI a)), some (.int (nI b))] [] (S, L, R) (rt (some (.int (nI (stp g a b)))) (S, L, R)) := by
  refine T_ild2 dX4_stepsBehind_0 ?_
  refine T_ild1 dX4_stepsBehind_1 ?_
  refine T_cltN (tgt := 11) dX4_stepsBehind_2 (by decide) (by omega) (by omega) (fun h2 => ?_) (fun h2 => ?_)
  · refine T_ild2 dX4_stepsBehind_11 ?_
    refine T_ild1 dX4_stepsBehind_12 ?_
    refine T_isub dX4_stepsBehind_13 ?_
    refine T_ald0 dX4_stepsBehind_14 ?_
    refine T_getN dX4_stepsBehind_15 lf_X4_36 (kT hT) rfl hg ?_
    refine T_iadd dX4_stepsBehind_18 ?_
    refine T_iret dX4_stepsBehind_19 rfl ?_
    first | (rw [sub_add_n (by omega), show b + g - a = stp g a b by unfold stp; rw [if_neg (by omega)]]; exact rt_i) | (rw [show b - a = stp g a b by unfold stp; rw [if_pos (by omega)]]; exact rt_i)
  · refine T_ild2 dX4_stepsBehind_5 ?_
    refine T_ild1 dX4_stepsBehind_6 ?_
    refine T_isubN dX4_stepsBehind_7 (by omega) ?_
    refine T_goto (tgt := 19) dX4_stepsBehind_8 (by decide) ?_
    refine T_iret dX4_stepsBehind_19 rfl ?_
    first | (rw [sub_add_n (by omega), show b + g - a = stp g a b by unfold stp; rw [if_neg (by omega)]]; exact rt_i) | (rw [show b - a = stp g a b by unfold stp; rw [if_pos (by omega)]]; exact rt_i)
set_option maxRecDepth 20000 in
theorem c_X4_ownerOf {S : Nat → Nat → Int32} {L : Nat → Nat → Int64} {R : Nat × Nat × Nat} {d : Nat} {T : Nat} (hT : T = 19 ∨ T = 28) {g : Nat} (hg : S T 8 = nI g) (hg8 : g ≤ 8) {k b : Nat} (hk : k < g) (hb : b < 64) (hs : b / 8 < g) (hp : b % 8 < g) : TT mX4_ownerOf (d + 1) 0 [some (.ref T), some (.int (nI k)), some (.int (nI b)), none, none] [] (S, L, R) (rt (some (.int (who g k (b / 8) (b % 8)))) (S, L, R)) := by
  have q1 : stp g (b / 8) k < 100 := by unfold stp; split <;> omega
  have q2 : stp g (b / 8) (b % 8) < 100 := by unfold stp; split <;> omega
  refine T_ild2 dX4_ownerOf_0 ?_
  refine T_invSN1i (M' := mX6_saltOf) dX4_ownerOf_1 ml_X4_100 imX6_saltOf (Nat.le_of_ble_eq_true rfl) rfl (Nat.le_of_ble_eq_true rfl) (c_X6_saltOf (by omega)) ?_
  refine T_ist3 dX4_ownerOf_4 (by decide) rfl ?_
  refine T_ild2 dX4_ownerOf_5 ?_
  refine T_invSN1i (M' := mX6_pepperOf) dX4_ownerOf_6 ml_X4_103 imX6_pepperOf (Nat.le_of_ble_eq_true rfl) rfl (Nat.le_of_ble_eq_true rfl) (c_X6_pepperOf (by omega)) ?_
  refine T_ist4 dX4_ownerOf_9 (by decide) rfl ?_
  refine T_ild1 dX4_ownerOf_11 ?_
  refine T_ild3 dX4_ownerOf_12 ?_
  refine T_ceqN (tgt := 22) dX4_ownerOf_13 (by decide) (by omega) (by omega) (fun h13 => ?_) (fun h13 => ?_)
  · refine T_bipush (v := -9) dX4_ownerOf_22 (by decide) ?_
    refine T_iret dX4_ownerOf_24 rfl ?_
    first | (rw [show who g k (b / 8) (b % 8) = -9 from if_pos (by omega)]; exact rt_i) | (rw [show who g k (b / 8) (b % 8) = nI 0 from (if_neg (by omega)).trans (if_pos (by omega))]; exact rt_i) | (rw [show who g k (b / 8) (b % 8) = nI 1 from (if_neg (by omega)).trans (if_neg (by omega))]; exact rt_i)
  · refine T_ild1 dX4_ownerOf_16 ?_
    refine T_ild4 dX4_ownerOf_17 ?_
    refine T_cneN (tgt := 25) dX4_ownerOf_19 (by decide) (by omega) (by omega) (fun h19 => ?_) (fun h19 => ?_)
    · refine T_ald0 dX4_ownerOf_25 ?_
      refine T_ild3 dX4_ownerOf_26 ?_
      refine T_ild1 dX4_ownerOf_27 ?_
      refine T_invV2i (M' := mX4_stepsBehind) dX4_ownerOf_28 ml_X4_106 imX4_stepsBehind (kT hT) (Nat.le_of_ble_eq_true rfl) rfl (Nat.le_of_ble_eq_true rfl) rfl (Nat.le_of_ble_eq_true rfl) (c_X4_stepsBehind hT hg hg8 (by omega) (by omega)) ?_
      refine T_ald0 dX4_ownerOf_31 ?_
      refine T_ild3 dX4_ownerOf_32 ?_
      refine T_ild4 dX4_ownerOf_33 ?_
      refine T_invV2i (M' := mX4_stepsBehind) dX4_ownerOf_35 ml_X4_106 imX4_stepsBehind (kT hT) (Nat.le_of_ble_eq_true rfl) rfl (Nat.le_of_ble_eq_true rfl) rfl (Nat.le_of_ble_eq_true rfl) (c_X4_stepsBehind hT hg hg8 (by omega) (by omega)) ?_
      refine T_cgeN (tgt := 45) dX4_ownerOf_38 (by decide) (by omega) (by omega) (fun h38 => ?_) (fun h38 => ?_)
      · refine T_iconst (v := nI 1) dX4_ownerOf_45 (by decide) ?_
        refine T_iret dX4_ownerOf_46 rfl ?_
        first | (rw [show who g k (b / 8) (b % 8) = -9 from if_pos (by omega)]; exact rt_i) | (rw [show who g k (b / 8) (b % 8) = nI 0 from (if_neg (by omega)).trans (if_pos (by omega))]; exact rt_i) | (rw [show who g k (b / 8) (b % 8) = nI 1 from (if_neg (by omega)).trans (if_neg (by omega))]; exact rt_i)
      · refine T_iconst (v := nI 0) dX4_ownerOf_41 (by decide) ?_
        refine T_goto (tgt := 46) dX4_ownerOf_42 (by decide) ?_
        refine T_iret dX4_ownerOf_46 rfl ?_
        first | (rw [show who g k (b / 8) (b % 8) = -9 from if_pos (by omega)]; exact rt_i) | (rw [show who g k (b / 8) (b % 8) = nI 0 from (if_neg (by omega)).trans (if_pos (by omega))]; exact rt_i) | (rw [show who g k (b / 8) (b % 8) = nI 1 from (if_neg (by omega)).trans (if_neg (by omega))]; exact rt_i)
    · refine T_bipush (v := -9) dX4_ownerOf_22 (by decide) ?_
      refine T_iret dX4_ownerOf_24 rfl ?_
      first | (rw [show who g k (b / 8) (b % 8) = -9 from if_pos (by omega)]; exact rt_i) | (rw [show who g k (b / 8) (b % 8) = nI 0 from (if_neg (by omega)).trans (if_pos (by omega))]; exact rt_i) | (rw [show who g k (b / 8) (b % 8) = nI 1 from (if_neg (by omega)).trans (if_neg (by omega))]; exact rt_i)
end
section
/-! the table's picture, its plain reads -/
/-- columns: 0 guests, 1 dishes, 2 soup, 3 border, 4 readings; 5 kinds, 6 mouths, 7 arms, 8 seats, 9 worths, 10 who was read, 11 minutes -/
def TV (S : Nat → Nat → Int32) (T : Nat) (a : Nat → Nat → Nat) : Prop := S T 8 = nI (a 0 0) ∧ S T 9 = nI (a 1 0) ∧ S T 10 = nI (a 2 0) ∧ S T 11 = nI (a 3 0) ∧ S T 12 = nI (a 4 0) ∧ (∀ i, i < a 0 0 → S (T + 1) i = nI (a 5 i) ∧ S (T + 2) i = nI (a 6 i) ∧ S (T + 3) i = nI (a 7 i)) ∧ (∀ i, i < a 1 0 → S (T + 5) i = nI (a 8 i) ∧ S (T + 6) i = nI (a 9 i)) ∧ ∀ i, i < a 4 0 → S (T + 7) i = nI (a 10 i) ∧ S (T + 8) i = nI (a 11 i)
def WL (a : Nat → Nat → Nat) : Prop := 3 ≤ a 0 0 ∧ a 0 0 ≤ 8 ∧ 1 ≤ a 1 0 ∧ a 1 0 ≤ 6 ∧ a 2 0 ≤ 3 ∧ a 3 0 < 64 ∧ a 3 0 / 8 < a 0 0 ∧ a 3 0 % 8 < a 0 0 ∧ a 3 0 / 8 ≠ a 3 0 % 8 ∧ a 4 0 ≤ 8 ∧ (∀ i, i < a 0 0 → a 5 i ≤ 2 ∧ a 6 i ≤ 9 ∧ a 7 i ≤ 3) ∧ (∀ i, i < a 1 0 → a 8 i < a 0 0 ∧ a 9 i ≤ 9) ∧ ∀ i, i < a 4 0 → a 10 i < a 0 0 ∧ a 11 i ≤ 19
def landF (a : Nat → Nat → Nat) (c b : Nat) : Nat → Nat := fun e => if who (a 0 0) (a 8 e) (b / 8) (b % 8) = nI c then a 9 e else 0
def land (a : Nat → Nat → Nat) (c b : Nat) : Nat := sm (landF a c b) (a 1 0)
theorem sm_le {f : Nat → Nat} {c : Nat} : ∀ n, (∀ i, i < n → f i ≤ c) → sm f n ≤ n * c
  | 0, _ => Nat.zero_le _
  | n + 1, h => by
    have := sm_le n (fun i hi => h i (by omega))
    have := h n (by omega)
    rw [Nat.succ_mul]; show sm f n + f n ≤ _; omega
theorem landF_le {a : Nat → Nat → Nat} {c b i : Nat} (hW : WL a) (hi : i < a 1 0) : landF a c b i ≤ 9 := by
  unfold landF; split
  · exact (hW.2.2.2.2.2.2.2.2.2.2.2.1 i hi).2
  · omega
theorem land_le {a : Nat → Nat → Nat} {c b : Nat} (hW : WL a) : land a c b ≤ 54 := by
  have h := sm_le (f := landF a c b) (c := 9) (a 1 0) (fun i hi => landF_le hW hi)
  have h6 : a 1 0 ≤ 6 := hW.2.2.2.1
  unfold land; omega
theorem smF_le {a : Nat → Nat → Nat} {c b i : Nat} (hW : WL a) (hi : i ≤ a 1 0) : sm (landF a c b) i ≤ 54 := by
  have h := sm_le (f := landF a c b) (c := 9) i (fun j hj => landF_le hW (by omega))
  have h6 : a 1 0 ≤ 6 := hW.2.2.2.1
  omega
theorem sm_t {a : Nat → Nat → Nat} {c b i : Nat} (h : who (a 0 0) (a 8 i) (b / 8) (b % 8) = nI c) : sm (landF a c b) (i + 1) = sm (landF a c b) i + a 9 i := by
  show sm (landF a c b) i + landF a c b i = _
  rw [show landF a c b i = a 9 i from if_pos h]
theorem sm_f {a : Nat → Nat → Nat} {c b i : Nat} (h : ¬ who (a 0 0) (a 8 i) (b / 8) (b % 8) = nI c) : sm (landF a c b) (i + 1) = sm (landF a c b) i := by
  show sm (landF a c b) i + landF a c b i = _
  rw [show landF a c b i = 0 from if_neg h]; rfl
def miN (a : Nat → Nat → Nat) (k : Nat) : Nat := minN (a 5 k) (a 6 k) (a 2 0)
theorem minN_le {k m so : Nat} : minN k m so ≤ m + so := by unfold minN; split <;> (try split) <;> omega
set_option maxRecDepth 20000 in
theorem c_X4_ownerOfDish {S : Nat → Nat → Int32} {L : Nat → Nat → Int64} {R : Nat × Nat × Nat} {d : Nat} {T : Nat} (hT : T = 19 ∨ T = 28) {a : Nat → Nat → Nat} (hV : TV S T a) (hW : WL a) {b : Nat} (hb : b < 64) (hs : b / 8 < a 0 0) (hp : b % 8 < a 0 0) {e : Nat} (he : e < a 1 0) : TT mX4_ownerOfDish (d + 2) 0 [some (.ref T), some (.int (nI e)), some (.int (nI b))] [] (S, L, R) (rt (some (.int (who (a 0 0) (a 8 e) (b / 8) (b % 8)))) (S, L, R)) := by
  obtain ⟨hg, hdn, hso, hbd, hrn, hgu, hdi, hre⟩ := id hV
  obtain ⟨w3, w8, wd1, wd6, wso, wb, wbs, wbp, wne, wrn, wgu, wdi, wre⟩ := id hW
  have q1 := wdi e he
  refine T_ald0 dX4_ownerOfDish_0 ?_
  refine T_ald0 dX4_ownerOfDish_1 ?_
  refine T_getR (q := T + 5) dX4_ownerOfDish_2 lf_X4_24 (kT hT) rfl (rT5 hT) ?_
  refine T_ild1 dX4_ownerOfDish_5 ?_
  refine T_ialdN dX4_ownerOfDish_6 (kT5 hT) (by rw [lT5 hT]; omega) (hdi _ (by omega)).1 ?_
  refine T_ild2 dX4_ownerOfDish_7 ?_
  refine T_invV2i (M' := mX4_ownerOf) dX4_ownerOfDish_8 ml_X4_109 imX4_ownerOf (kT hT) (Nat.le_of_ble_eq_true rfl) rfl (Nat.le_of_ble_eq_true rfl) rfl (Nat.le_of_ble_eq_true rfl) (c_X4_ownerOf hT hg w8 (by omega) hb hs hp) ?_
  refine T_iret dX4_ownerOfDish_11 rfl ?_
  exact rt_i
set_option maxRecDepth 20000 in
theorem c_X4_landOf {S : Nat → Nat → Int32} {L : Nat → Nat → Int64} {R : Nat × Nat × Nat} {d : Nat} {T : Nat} (hT : T = 19 ∨ T = 28) {a : Nat → Nat → Nat} (hV : TV S T a) (hW : WL a) {b : Nat} (hb : b < 64) (hs : b / 8 < a 0 0) (hp : b % 8 < a 0 0) {c : Nat} : TT mX4_landOf (d + 2) 0 [some (.ref T), some (.int (nI c)), some (.int (nI b)), none, none] [] (S, L, R) (rt (some (.int (nI (land a c b)))) (S, L, R)) := by
  obtain ⟨hg, hdn, hso, hbd, hrn, hgu, hdi, hre⟩ := id hV
  obtain ⟨w3, w8, wd1, wd6, wso, wb, wbs, wbp, wne, wrn, wgu, wdi, wre⟩ := id hW
  refine T_iconst (v := nI 0) dX4_landOf_0 (by decide) ?_
  refine T_ist3 dX4_landOf_1 (by decide) rfl ?_
  refine T_iconst (v := nI 0) dX4_landOf_2 (by decide) ?_
  refine T_ist4 dX4_landOf_3 (by decide) rfl ?_
  skip
  refine up_ind (P := fun i => TT mX4_landOf (d + 2) 5 [some (.ref T), some (.int (nI c)), some (.int (nI b)), some (.int (nI (sm (landF a c b) i))), some (.int (nI i))] [] (S, L, R) (rt (some (.int (nI (land a c b)))) (S, L, R))) (a 1 0) ?_ ?_
  · refine T_ild4 dX4_landOf_5 ?_
    refine T_ald0 dX4_landOf_7 ?_
    refine T_getN dX4_landOf_8 lf_X4_97 (kT hT) rfl hdn ?_
    refine T_cgeN (tgt := 46) dX4_landOf_11 (by decide) (by omega) (by omega) (fun h11 => ?_) (fun h11 => ?_)
    · refine T_ild3 dX4_landOf_46 ?_
      refine T_iret dX4_landOf_47 rfl ?_
      exact rt_i
    · exfalso; omega
  · intro i hi ih
    have q1 := wdi i hi
    have q0 := smF_le (a := a) (c := c) (b := b) hW (i := i) (by omega)
    refine T_ild4 dX4_landOf_5 ?_
    refine T_ald0 dX4_landOf_7 ?_
    refine T_getN dX4_landOf_8 lf_X4_97 (kT hT) rfl hdn ?_
    refine T_cgeN (tgt := 46) dX4_landOf_11 (by decide) (by omega) (by omega) (fun h11 => ?_) (fun h11 => ?_)
    · exfalso; omega
    · refine T_ald0 dX4_landOf_14 ?_
      refine T_ald0 dX4_landOf_15 ?_
      refine T_getR (q := T + 5) dX4_landOf_16 lf_X4_24 (kT hT) rfl (rT5 hT) ?_
      refine T_ild4 dX4_landOf_19 ?_
      refine T_ialdN dX4_landOf_21 (kT5 hT) (by rw [lT5 hT]; omega) (hdi _ (by omega)).1 ?_
      refine T_ild2 dX4_landOf_22 ?_
      refine T_invV2i (M' := mX4_ownerOf) dX4_landOf_23 ml_X4_109 imX4_ownerOf (kT hT) (Nat.le_of_ble_eq_true rfl) rfl (Nat.le_of_ble_eq_true rfl) rfl (Nat.le_of_ble_eq_true rfl) (c_X4_ownerOf hT hg w8 (by omega) hb hs hp) ?_
      refine T_ild1 dX4_landOf_26 ?_
      refine T_cne (tgt := 40) dX4_landOf_27 (by decide) (fun h27 => ?_) (fun h27 => ?_)
      · refine T_inc4N dX4_landOf_40 (by decide) rfl ?_
        refine T_goto (tgt := 5) dX4_landOf_43 (by decide) ?_
        first | (rw [sm_t (by assumption)] at ih; exact ih) | (rw [sm_f (by assumption)] at ih; exact ih)
      · refine T_ild3 dX4_landOf_30 ?_
        refine T_ald0 dX4_landOf_31 ?_
        refine T_getR (q := T + 6) dX4_landOf_32 lf_X4_27 (kT hT) rfl (rT6 hT) ?_
        refine T_ild4 dX4_landOf_35 ?_
        refine T_ialdN dX4_landOf_37 (kT6 hT) (by rw [lT6 hT]; omega) (hdi _ (by omega)).2 ?_
        refine T_iaddN dX4_landOf_38 ?_
        refine T_ist3 dX4_landOf_39 (by decide) rfl ?_
        refine T_inc4N dX4_landOf_40 (by decide) rfl ?_
        refine T_goto (tgt := 5) dX4_landOf_43 (by decide) ?_
        first | (rw [sm_t (by assumption)] at ih; exact ih) | (rw [sm_f (by assumption)] at ih; exact ih)
set_option maxRecDepth 20000 in
theorem c_X4_minutesAs {S : Nat → Nat → Int32} {L : Nat → Nat → Int64} {R : Nat × Nat × Nat} {d : Nat} {k m so : Nat} (hk : k ≤ 2) (hm : m ≤ 9) (hso : so ≤ 3) : TT mX4_minutesAs (d + 1) 0 [some (.int (nI k)), some (.int (nI m)), some (.int (nI so)), none] [] (S, L, R) (rt (some (.int (nI (minN k m so)))) (S, L, R)) := by
  refine T_ild1 dX4_minutesAs_0 ?_
  refine T_ild2 dX4_minutesAs_1 ?_
  refine T_iaddN dX4_minutesAs_2 ?_
  refine T_ist3 dX4_minutesAs_3 (by decide) rfl ?_
  refine T_ild0 dX4_minutesAs_4 ?_
  
  refine T_lk [(1, 36), (2, 32)] 44 dX4_minutesAs_5 (by decide) (by decide) (by decide) (by decide) (fun j hj e5 => ?_) (fun e5 => ?_)
  · match j, hj, e5 with
    | 0, _, e5 =>
      refine T_ild3 dX4_minutesAs_36 ?_
      refine T_iconst (v := nI 1) dX4_minutesAs_37 (by decide) ?_
      refine T_isub dX4_minutesAs_38 ?_
      refine T_iconst (v := nI 0) dX4_minutesAs_39 (by decide) ?_
      refine T_max dX4_minutesAs_40 ml_X4_112 (Nat.le_of_ble_eq_true rfl) ?_
      refine T_iret dX4_minutesAs_43 rfl ?_
      have q := nI_inj (by omega) (by decide) e5
      rw [aunt_n _ (by omega), show minN k m so = m + so - 1 from (if_neg (by rw [q]; decide)).trans (if_pos q)]; exact rt_i
    | 1, _, e5 =>
      refine T_ild3 dX4_minutesAs_32 ?_
      refine T_iconst (v := nI 2) dX4_minutesAs_33 (by decide) ?_
      refine T_idivN dX4_minutesAs_34 (by omega) (by omega) (by omega) ?_
      refine T_iret dX4_minutesAs_35 rfl ?_
      have q := nI_inj (by omega) (by decide) e5
      rw [show minN k m so = (m + so) / 2 from if_pos q]; exact rt_i
    | j + 2, hj, _ => exact absurd hj (by simp)
  · refine T_ild3 dX4_minutesAs_44 ?_
    refine T_iret dX4_minutesAs_45 rfl ?_
    have q1 : k ≠ 1 := fun e => e5 0 (by decide) (by rw [e]; rfl)
    have q2 : k ≠ 2 := fun e => e5 1 (by decide) (by rw [e]; rfl)
    rw [show minN k m so = m + so from (if_neg q2).trans (if_neg q1)]; exact rt_i
set_option maxRecDepth 20000 in
theorem c_X4_minutesOf {S : Nat → Nat → Int32} {L : Nat → Nat → Int64} {R : Nat × Nat × Nat} {d : Nat} {T : Nat} (hT : T = 19 ∨ T = 28) {a : Nat → Nat → Nat} (hV : TV S T a) (hW : WL a) {k : Nat} (hk : k < a 0 0) : TT mX4_minutesOf (d + 2) 0 [some (.ref T), some (.int (nI k))] [] (S, L, R) (rt (some (.int (nI (miN a k)))) (S, L, R)) := by
  obtain ⟨hg, hdn, hso, hbd, hrn, hgu, hdi, hre⟩ := id hV
  obtain ⟨w3, w8, wd1, wd6, wso, wb, wbs, wbp, wne, wrn, wgu, wdi, wre⟩ := id hW
  have q1 := wgu k hk
  refine T_ald0 dX4_minutesOf_0 ?_
  refine T_getR (q := T + 1) dX4_minutesOf_1 lf_X4_9 (kT hT) rfl (rT1 hT) ?_
  refine T_ild1 dX4_minutesOf_4 ?_
  refine T_ialdN dX4_minutesOf_5 (kT1 hT) (by rw [lT1 hT]; omega) (hgu _ (by omega)).1 ?_
  refine T_ald0 dX4_minutesOf_6 ?_
  refine T_getR (q := T + 2) dX4_minutesOf_7 lf_X4_15 (kT hT) rfl (rT2 hT) ?_
  refine T_ild1 dX4_minutesOf_10 ?_
  refine T_ialdN dX4_minutesOf_11 (kT2 hT) (by rw [lT2 hT]; omega) (hgu _ (by omega)).2.1 ?_
  refine T_ald0 dX4_minutesOf_12 ?_
  refine T_getN dX4_minutesOf_13 lf_X4_70 (kT hT) rfl hso ?_
  refine T_invS3i (M' := mX4_minutesAs) dX4_minutesOf_16 ml_X4_117 imX4_minutesAs (Nat.le_of_ble_eq_true rfl) rfl (Nat.le_of_ble_eq_true rfl) (c_X4_minutesAs q1.1 q1.2.1 wso) ?_
  refine T_iret dX4_minutesOf_19 rfl ?_
  exact rt_i
set_option maxRecDepth 20000 in
theorem c_X4_neighbour {S : Nat → Nat → Int32} {L : Nat → Nat → Int64} {R : Nat × Nat × Nat} {d : Nat} {T : Nat} (hT : T = 19 ∨ T = 28) {g : Nat} (hg : S T 8 = nI g) (hg8 : g ≤ 8) {k r : Nat} (hk : k < g) (hr : r < 4) : TT mX4_neighbour (d + 0) 0 [some (.ref T), some (.int (nI k)), some (.int (nI r))] [] (S, L, R) (rt (some (.int (nI (nb g k r)))) (S, L, R)) := by
  refine T_ild2 dX4_neighbour_0 ?_
  refine T_iconst (v := nI 2) dX4_neighbour_1 (by decide) ?_
  refine T_iremN dX4_neighbour_2 (by omega) (by omega) (by omega) ?_
  refine T_ifneN (tgt := 23) dX4_neighbour_3 (by decide) (by omega) (fun h3 => ?_) (fun h3 => ?_)
  · refine T_ild1 dX4_neighbour_23 ?_
    refine T_ald0 dX4_neighbour_24 ?_
    refine T_getN dX4_neighbour_25 lf_X4_36 (kT hT) rfl hg ?_
    refine T_iconst (v := nI 1) dX4_neighbour_28 (by decide) ?_
    refine T_isubN dX4_neighbour_29 (by omega) ?_
    refine T_cneN (tgt := 37) dX4_neighbour_30 (by decide) (by omega) (by omega) (fun h30 => ?_) (fun h30 => ?_)
    · refine T_ild1 dX4_neighbour_37 ?_
      refine T_iconst (v := nI 1) dX4_neighbour_38 (by decide) ?_
      refine T_iaddN dX4_neighbour_39 ?_
      refine T_iret dX4_neighbour_40 rfl ?_
      first | (rw [show nb g k r = g - 1 from (if_pos (by omega)).trans (if_pos (by omega))]; exact rt_i) | (rw [show nb g k r = k - 1 from (if_pos (by omega)).trans (if_neg (by omega))]; exact rt_i) | (rw [show nb g k r = 0 from (if_neg (by omega)).trans (if_pos (by omega))]; exact rt_i) | (rw [show nb g k r = k + 1 from (if_neg (by omega)).trans (if_neg (by omega))]; exact rt_i)
    · refine T_iconst (v := nI 0) dX4_neighbour_33 (by decide) ?_
      refine T_goto (tgt := 40) dX4_neighbour_34 (by decide) ?_
      refine T_iret dX4_neighbour_40 rfl ?_
      first | (rw [show nb g k r = g - 1 from (if_pos (by omega)).trans (if_pos (by omega))]; exact rt_i) | (rw [show nb g k r = k - 1 from (if_pos (by omega)).trans (if_neg (by omega))]; exact rt_i) | (rw [show nb g k r = 0 from (if_neg (by omega)).trans (if_pos (by omega))]; exact rt_i) | (rw [show nb g k r = k + 1 from (if_neg (by omega)).trans (if_neg (by omega))]; exact rt_i)
  · refine T_ild1 dX4_neighbour_6 ?_
    refine T_ifneN (tgt := 19) dX4_neighbour_7 (by decide) (by omega) (fun h7 => ?_) (fun h7 => ?_)
    · refine T_ild1 dX4_neighbour_19 ?_
      refine T_iconst (v := nI 1) dX4_neighbour_20 (by decide) ?_
      refine T_isubN dX4_neighbour_21 (by omega) ?_
      refine T_iret dX4_neighbour_22 rfl ?_
      first | (rw [show nb g k r = g - 1 from (if_pos (by omega)).trans (if_pos (by omega))]; exact rt_i) | (rw [show nb g k r = k - 1 from (if_pos (by omega)).trans (if_neg (by omega))]; exact rt_i) | (rw [show nb g k r = 0 from (if_neg (by omega)).trans (if_pos (by omega))]; exact rt_i) | (rw [show nb g k r = k + 1 from (if_neg (by omega)).trans (if_neg (by omega))]; exact rt_i)
    · refine T_ald0 dX4_neighbour_10 ?_
      refine T_getN dX4_neighbour_11 lf_X4_36 (kT hT) rfl hg ?_
      refine T_iconst (v := nI 1) dX4_neighbour_14 (by decide) ?_
      refine T_isubN dX4_neighbour_15 (by omega) ?_
      refine T_goto (tgt := 22) dX4_neighbour_16 (by decide) ?_
      refine T_iret dX4_neighbour_22 rfl ?_
      first | (rw [show nb g k r = g - 1 from (if_pos (by omega)).trans (if_pos (by omega))]; exact rt_i) | (rw [show nb g k r = k - 1 from (if_pos (by omega)).trans (if_neg (by omega))]; exact rt_i) | (rw [show nb g k r = 0 from (if_neg (by omega)).trans (if_pos (by omega))]; exact rt_i) | (rw [show nb g k r = k + 1 from (if_neg (by omega)).trans (if_neg (by omega))]; exact rt_i)
theorem nb_lt {g k r : Nat} (hk : k < g) : nb g k r < g := by unfold nb; split <;> split <;> omega
theorem oI_none : oI none = -9 := rfl
set_option maxRecDepth 20000 in
theorem c_X4_borderBehind {S : Nat → Nat → Int32} {L : Nat → Nat → Int64} {R : Nat × Nat × Nat} {d : Nat} {T : Nat} (hT : T = 19 ∨ T = 28) {g : Nat} (hg : S T 8 = nI g) (hg8 : g ≤ 8) {b r : Nat} (hb : b < 64) (hs : b / 8 < g) (hp : b % 8 < g) (hr : r < 4) : TT mX4_borderBehind (d + 1) 0 [some (.ref T), some (.int (nI b)), some (.int (nI r)), none, none] [] (S, L, R) (rt (some (.int (oI (beh g b r)))) (S, L, R)) := by
  have q1 := nb_lt (r := r) hs
  have q2 := nb_lt (r := r) hp
  refine T_ild1 dX4_borderBehind_0 ?_
  refine T_invSN1i (M' := mX6_saltOf) dX4_borderBehind_1 ml_X4_100 imX6_saltOf (Nat.le_of_ble_eq_true rfl) rfl (Nat.le_of_ble_eq_true rfl) (c_X6_saltOf (by omega)) ?_
  refine T_ist3 dX4_borderBehind_4 (by decide) rfl ?_
  refine T_ild1 dX4_borderBehind_5 ?_
  refine T_invSN1i (M' := mX6_pepperOf) dX4_borderBehind_6 ml_X4_103 imX6_pepperOf (Nat.le_of_ble_eq_true rfl) rfl (Nat.le_of_ble_eq_true rfl) (c_X6_pepperOf (by omega)) ?_
  refine T_ist4 dX4_borderBehind_9 (by decide) rfl ?_
  refine T_ild2 dX4_borderBehind_11 ?_
  refine T_iconst (v := nI 2) dX4_borderBehind_12 (by decide) ?_
  refine T_cgeN (tgt := 26) dX4_borderBehind_13 (by decide) (by omega) (by omega) (fun h13 => ?_) (fun h13 => ?_)
  · refine T_ald0 dX4_borderBehind_26 ?_
    refine T_ild4 dX4_borderBehind_27 ?_
    refine T_ild2 dX4_borderBehind_29 ?_
    refine T_invV2i (M' := mX4_neighbour) dX4_borderBehind_30 ml_X4_121 imX4_neighbour (kT hT) (Nat.le_of_ble_eq_true rfl) rfl (Nat.le_of_ble_eq_true rfl) rfl (Nat.le_of_ble_eq_true rfl) (c_X4_neighbour hT hg hg8 (by omega) hr) ?_
    refine T_ist4 dX4_borderBehind_33 (by decide) rfl ?_
    refine T_ild3 dX4_borderBehind_35 ?_
    refine T_ild4 dX4_borderBehind_36 ?_
    refine T_cneN (tgt := 46) dX4_borderBehind_38 (by decide) (by omega) (by omega) (fun h38 => ?_) (fun h38 => ?_)
    · refine T_ild3 dX4_borderBehind_46 ?_
      refine T_ild4 dX4_borderBehind_47 ?_
      refine T_invSN2i (M' := mX6_borderOf) dX4_borderBehind_49 ml_X4_88 imX6_borderOf (Nat.le_of_ble_eq_true rfl) rfl (Nat.le_of_ble_eq_true rfl) c_X6_borderOf ?_
      refine T_iret dX4_borderBehind_52 rfl ?_
      first | (rw [show beh g b r = none from (if_pos (by omega)).trans (if_pos (by omega))]; exact rt_i) | (rw [show beh g b r = none from (if_neg (by omega)).trans (if_pos (by omega))]; exact rt_i) | (rw [show beh g b r = some (8 * nb g (b / 8) r + b % 8) from (if_pos (by omega)).trans (if_neg (by omega))]; exact rt_i) | (rw [show beh g b r = some (8 * (b / 8) + nb g (b % 8) r) from (if_neg (by omega)).trans (if_neg (by omega))]; exact rt_i)
    · refine T_bipush (v := -9) dX4_borderBehind_41 (by decide) ?_
      refine T_goto (tgt := 52) dX4_borderBehind_43 (by decide) ?_
      refine T_iret dX4_borderBehind_52 rfl ?_
      first | (rw [show beh g b r = none from (if_pos (by omega)).trans (if_pos (by omega))]; exact rt_i) | (rw [show beh g b r = none from (if_neg (by omega)).trans (if_pos (by omega))]; exact rt_i) | (rw [show beh g b r = some (8 * nb g (b / 8) r + b % 8) from (if_pos (by omega)).trans (if_neg (by omega))]; exact rt_i) | (rw [show beh g b r = some (8 * (b / 8) + nb g (b % 8) r) from (if_neg (by omega)).trans (if_neg (by omega))]; exact rt_i)
  · refine T_ald0 dX4_borderBehind_16 ?_
    refine T_ild3 dX4_borderBehind_17 ?_
    refine T_ild2 dX4_borderBehind_18 ?_
    refine T_invV2i (M' := mX4_neighbour) dX4_borderBehind_19 ml_X4_121 imX4_neighbour (kT hT) (Nat.le_of_ble_eq_true rfl) rfl (Nat.le_of_ble_eq_true rfl) rfl (Nat.le_of_ble_eq_true rfl) (c_X4_neighbour hT hg hg8 (by omega) hr) ?_
    refine T_ist3 dX4_borderBehind_22 (by decide) rfl ?_
    refine T_goto (tgt := 35) dX4_borderBehind_23 (by decide) ?_
    refine T_ild3 dX4_borderBehind_35 ?_
    refine T_ild4 dX4_borderBehind_36 ?_
    refine T_cneN (tgt := 46) dX4_borderBehind_38 (by decide) (by omega) (by omega) (fun h38 => ?_) (fun h38 => ?_)
    · refine T_ild3 dX4_borderBehind_46 ?_
      refine T_ild4 dX4_borderBehind_47 ?_
      refine T_invSN2i (M' := mX6_borderOf) dX4_borderBehind_49 ml_X4_88 imX6_borderOf (Nat.le_of_ble_eq_true rfl) rfl (Nat.le_of_ble_eq_true rfl) c_X6_borderOf ?_
      refine T_iret dX4_borderBehind_52 rfl ?_
      first | (rw [show beh g b r = none from (if_pos (by omega)).trans (if_pos (by omega))]; exact rt_i) | (rw [show beh g b r = none from (if_neg (by omega)).trans (if_pos (by omega))]; exact rt_i) | (rw [show beh g b r = some (8 * nb g (b / 8) r + b % 8) from (if_pos (by omega)).trans (if_neg (by omega))]; exact rt_i) | (rw [show beh g b r = some (8 * (b / 8) + nb g (b % 8) r) from (if_neg (by omega)).trans (if_neg (by omega))]; exact rt_i)
    · refine T_bipush (v := -9) dX4_borderBehind_41 (by decide) ?_
      refine T_goto (tgt := 52) dX4_borderBehind_43 (by decide) ?_
      refine T_iret dX4_borderBehind_52 rfl ?_
      first | (rw [show beh g b r = none from (if_pos (by omega)).trans (if_pos (by omega))]; exact rt_i) | (rw [show beh g b r = none from (if_neg (by omega)).trans (if_pos (by omega))]; exact rt_i) | (rw [show beh g b r = some (8 * nb g (b / 8) r + b % 8) from (if_pos (by omega)).trans (if_neg (by omega))]; exact rt_i) | (rw [show beh g b r = some (8 * (b / 8) + nb g (b % 8) r) from (if_neg (by omega)).trans (if_neg (by omega))]; exact rt_i)
theorem beh_some {g b r b' : Nat} (hg : g ≤ 8) (hs : b / 8 < g) (hp : b % 8 < g) (h : beh g b r = some b') : b' < 64 ∧ b' / 8 < g ∧ b' % 8 < g ∧ b' / 8 ≠ b' % 8 := by
  have q1 := nb_lt (r := r) hs
  have q2 := nb_lt (r := r) hp
  unfold beh at h
  split at h <;> split at h <;> first | cases h; done | (cases h; omega)
theorem oI_ne {g b r b' : Nat} (hg : g ≤ 8) (hs : b / 8 < g) (hp : b % 8 < g) (h : beh g b r = some b') : ¬ oI (some b') = -9 := by
  have := (beh_some hg hs hp h).1
  intro e
  have h1 : nI b' = -9 := e
  have h2 := congrArg Int32.toInt h1
  rw [nI_toInt (by omega)] at h2
  have h3 : (-9 : Int32).toInt = -9 := by decide
  omega
set_option maxRecDepth 20000 in
theorem c_X4_isBorder {S : Nat → Nat → Int32} {L : Nat → Nat → Int64} {R : Nat × Nat × Nat} {d : Nat} {T : Nat} (hT : T = 19 ∨ T = 28) {g : Nat} (hg : S T 8 = nI g) (hg8 : g ≤ 8) {b : Nat} (hb : b < 64) : TT mX4_isBorder (d + 1) 0 [some (.ref T), some (.int (nI b)), none, none] [] (S, L, R) (rt (some (.int (bI (isB g b)))) (S, L, R)) := by
  refine T_ild1 dX4_isBorder_0 ?_
  refine T_invSN1i (M' := mX6_saltOf) dX4_isBorder_1 ml_X4_100 imX6_saltOf (Nat.le_of_ble_eq_true rfl) rfl (Nat.le_of_ble_eq_true rfl) (c_X6_saltOf (by omega)) ?_
  refine T_ist2 dX4_isBorder_4 (by decide) rfl ?_
  refine T_ild1 dX4_isBorder_5 ?_
  refine T_invSN1i (M' := mX6_pepperOf) dX4_isBorder_6 ml_X4_103 imX6_pepperOf (Nat.le_of_ble_eq_true rfl) rfl (Nat.le_of_ble_eq_true rfl) (c_X6_pepperOf (by omega)) ?_
  refine T_ist3 dX4_isBorder_9 (by decide) rfl ?_
  refine T_ild2 dX4_isBorder_10 ?_
  refine T_ald0 dX4_isBorder_11 ?_
  refine T_getN dX4_isBorder_12 lf_X4_36 (kT hT) rfl hg ?_
  refine T_cgeN (tgt := 35) dX4_isBorder_15 (by decide) (by omega) (by omega) (fun h15 => ?_) (fun h15 => ?_)
  · refine T_iconst (v := bI false) dX4_isBorder_35 (by decide) ?_
    refine T_bretB dX4_isBorder_36 rfl ?_
    first | (rw [show isB g b = true by simp only [isB, Bool.and_eq_true, decide_eq_true_eq]; omega]; exact rt_i) | (rw [show isB g b = false by simp only [isB, Bool.and_eq_false_iff, decide_eq_false_iff_not]; omega]; exact rt_i)
  · refine T_ild3 dX4_isBorder_18 ?_
    refine T_ald0 dX4_isBorder_19 ?_
    refine T_getN dX4_isBorder_20 lf_X4_36 (kT hT) rfl hg ?_
    refine T_cgeN (tgt := 35) dX4_isBorder_23 (by decide) (by omega) (by omega) (fun h23 => ?_) (fun h23 => ?_)
    · refine T_iconst (v := bI false) dX4_isBorder_35 (by decide) ?_
      refine T_bretB dX4_isBorder_36 rfl ?_
      first | (rw [show isB g b = true by simp only [isB, Bool.and_eq_true, decide_eq_true_eq]; omega]; exact rt_i) | (rw [show isB g b = false by simp only [isB, Bool.and_eq_false_iff, decide_eq_false_iff_not]; omega]; exact rt_i)
    · refine T_ild2 dX4_isBorder_26 ?_
      refine T_ild3 dX4_isBorder_27 ?_
      refine T_ceqN (tgt := 35) dX4_isBorder_28 (by decide) (by omega) (by omega) (fun h28 => ?_) (fun h28 => ?_)
      · refine T_iconst (v := bI false) dX4_isBorder_35 (by decide) ?_
        refine T_bretB dX4_isBorder_36 rfl ?_
        first | (rw [show isB g b = true by simp only [isB, Bool.and_eq_true, decide_eq_true_eq]; omega]; exact rt_i) | (rw [show isB g b = false by simp only [isB, Bool.and_eq_false_iff, decide_eq_false_iff_not]; omega]; exact rt_i)
      · refine T_iconst (v := bI true) dX4_isBorder_31 (by decide) ?_
        refine T_goto (tgt := 36) dX4_isBorder_32 (by decide) ?_
        refine T_bretB dX4_isBorder_36 rfl ?_
        first | (rw [show isB g b = true by simp only [isB, Bool.and_eq_true, decide_eq_true_eq]; omega]; exact rt_i) | (rw [show isB g b = false by simp only [isB, Bool.and_eq_false_iff, decide_eq_false_iff_not]; omega]; exact rt_i)
end
section
/-! game, spilt, readings of the class's Table -/
theorem nI_m9 {n : Nat} (h : n < 2 ^ 31) : ¬ nI n = -9 := by
  intro e
  have h2 := congrArg Int32.toInt e
  rw [nI_toInt h] at h2
  have h3 : (-9 : Int32).toInt = -9 := by decide
  omega
def zI (z : Int) : Int32 := Int32.ofInt z
theorem zI_toInt {z : Int} (h1 : -10000 ≤ z) (h2 : z ≤ 10000) : (zI z).toInt = z := Int32.toInt_ofInt_of_le (by omega) (by omega)
theorem zI_lt {x y : Int} (h1 : -10000 ≤ x) (h2 : x ≤ 10000) (h3 : -10000 ≤ y) (h4 : y ≤ 10000) : zI x < zI y ↔ x < y := by
  rw [Int32.lt_iff_toInt_lt, zI_toInt h1 h2, zI_toInt h3 h4]
theorem zI_le {x y : Int} (h1 : -10000 ≤ x) (h2 : x ≤ 10000) (h3 : -10000 ≤ y) (h4 : y ≤ 10000) : zI x ≤ zI y ↔ x ≤ y := by
  rw [Int32.le_iff_toInt_le, zI_toInt h1 h2, zI_toInt h3 h4]
theorem zI_eq {x y : Int} (h1 : -10000 ≤ x) (h2 : x ≤ 10000) (h3 : -10000 ≤ y) (h4 : y ≤ 10000) : zI x = zI y ↔ x = y := by
  rw [← Int32.toInt_inj, zI_toInt h1 h2, zI_toInt h3 h4]
theorem nI_zI (n : Nat) : nI n = zI n := (Int32.ofInt_eq_ofNat).symm
theorem zI_sub (x y : Int) : zI x - zI y = zI (x - y) := (Int32.ofInt_sub x y).symm
theorem zI_add (x y : Int) : zI x + zI y = zI (x + y) := (Int32.ofInt_add x y).symm
theorem zI_neg (x : Int) : -zI x = zI (-x) := (Int32.ofInt_neg x).symm
def mxs (f : Nat → Int) : Nat → Int
  | 0 => -1000
  | k + 1 => if mxs f k < f k then f k else mxs f k
def GM (a : Nat → Nat → Nat) : Nat → Nat → Nat → Int
  | 0, c, b => (land a c b : Int) - (land a (1 - c) b : Int)
  | n + 1, c, b => mxs (fun r => match beh (a 0 0) b r with
    | none => -1000
    | some b' => - GM a n (1 - c) b') 4
def MB (a : Nat → Nat → Nat) (n c b r : Nat) : Int := match beh (a 0 0) b r with
  | none => -1000
  | some b' => - GM a n (1 - c) b'
theorem GM_s (a : Nat → Nat → Nat) (n c b : Nat) : GM a (n + 1) c b = mxs (MB a n c b) 4 := rfl
theorem mxs_b {f : Nat → Int} (h : ∀ r, -1000 ≤ f r ∧ f r ≤ 1000) : ∀ k, -1000 ≤ mxs f k ∧ mxs f k ≤ 1000
  | 0 => by simp [mxs]
  | k + 1 => by
    have h1 := mxs_b h k
    have h2 := h k
    unfold mxs; split <;> omega
theorem GM_b {a : Nat → Nat → Nat} (hW : WL a) : ∀ n c b, -1000 ≤ GM a n c b ∧ GM a n c b ≤ 1000
  | 0, c, b => by
    have h1 := land_le (c := c) (b := b) hW
    have h2 := land_le (c := 1 - c) (b := b) hW
    show -1000 ≤ ((land a c b : Int) - (land a (1 - c) b : Int)) ∧ ((land a c b : Int) - (land a (1 - c) b : Int)) ≤ 1000
    omega
  | n + 1, c, b => by
    rw [GM_s]
    refine mxs_b (fun r => ?_) 4
    unfold MB
    split
    · omega
    · have := GM_b hW n (1 - c)
      rename_i b' _
      have := this b'
      omega
theorem MB_b {a : Nat → Nat → Nat} (hW : WL a) (n c b r : Nat) : -1000 ≤ MB a n c b r ∧ MB a n c b r ≤ 1000 := by
  unfold MB
  split
  · omega
  · rename_i b' _
    have := GM_b hW n (1 - c) b'
    omega
theorem zI_max {x y : Int} (h1 : -1000 ≤ x ∧ x ≤ 1000) (h2 : -1000 ≤ y ∧ y ≤ 1000) : (if zI x < zI y then zI y else zI x) = zI (if x < y then y else x) := by
  by_cases h : x < y
  · rw [if_pos h, if_pos ((zI_lt (by omega) (by omega) (by omega) (by omega)).mpr h)]
  · rw [if_neg h, if_neg (fun q => h ((zI_lt (by omega) (by omega) (by omega) (by omega)).mp q))]
set_option maxRecDepth 20000 in
theorem c_bb_n {S : Nat → Nat → Int32} {L : Nat → Nat → Int64} {R : Nat × Nat × Nat} {d : Nat} {T : Nat} (hT : T = 19 ∨ T = 28) {g : Nat} (hg : S T 8 = nI g) (hg8 : g ≤ 8) {b r : Nat} (hb : b < 64) (hs : b / 8 < g) (hp : b % 8 < g) (hr : r < 4) (h : beh g b r = none) : TT mX4_borderBehind (d + 1) 0 [some (.ref T), some (.int (nI b)), some (.int (nI r)), none, none] [] (S, L, R) (rt (some (.int (-9))) (S, L, R)) := by
  have q := c_X4_borderBehind (L := L) (R := R) (d := d) hT hg hg8 hb hs hp hr
  rw [h] at q; exact q
theorem c_bb_s {S : Nat → Nat → Int32} {L : Nat → Nat → Int64} {R : Nat × Nat × Nat} {d : Nat} {T : Nat} (hT : T = 19 ∨ T = 28) {g : Nat} (hg : S T 8 = nI g) (hg8 : g ≤ 8) {b r b' : Nat} (hb : b < 64) (hs : b / 8 < g) (hp : b % 8 < g) (hr : r < 4) (h : beh g b r = some b') : TT mX4_borderBehind (d + 1) 0 [some (.ref T), some (.int (nI b)), some (.int (nI r)), none, none] [] (S, L, R) (rt (some (.int (nI b'))) (S, L, R)) := by
  have q := c_X4_borderBehind (L := L) (R := R) (d := d) hT hg hg8 hb hs hp hr
  rw [h] at q; exact q
set_option maxRecDepth 20000 in
theorem c_mb_open {S : Nat → Nat → Int32} {L : Nat → Nat → Int64} {R : Nat × Nat × Nat} {T : Nat} (hT : T = 19 ∨ T = 28) {a : Nat → Nat → Nat} (hV : TV S T a) (hW : WL a) {n : Nat} (IH : ∀ d c b : Nat, c ≤ 1 → b < 64 → b / 8 < a 0 0 → b % 8 < a 0 0 → TT mX4_bestMargin (d + 2 * n + 3) 0 [some (.ref T), some (.int (nI b)), some (.int (nI c)), some (.int (nI n)), none, none] [] (S, L, R) (rt (some (.int (zI (GM a n c b)))) (S, L, R))) (d : Nat) {c r : Nat} (hc : c ≤ 1) {b : Nat} (hb : b < 64) (hs : b / 8 < a 0 0) (hp : b % 8 < a 0 0) (hr : r < 4) (hn : n ≤ 4) : TT mX4_marginBehind (d + 2 * n + 4) 0 [some (.ref T), some (.int (nI b)), some (.int (nI c)), some (.int (nI (n + 1))), some (.int (nI r)), none] [] (S, L, R) (rt (some (.int (zI (MB a n c b r)))) (S, L, R)) := by
  obtain ⟨hg, hdn, hso, hbd, hrn, hgu, hdi, hre⟩ := id hV
  obtain ⟨w3, w8, wd1, wd6, wso, wb, wbs, wbp, wne, wrn, wgu, wdi, wre⟩ := id hW
  cases hbe : beh (a 0 0) b r with
  | none =>
    refine T_ald0 dX4_marginBehind_0 ?_
    refine T_ild1 dX4_marginBehind_1 ?_
    refine T_ild4 dX4_marginBehind_2 ?_
    refine T_invV2i (M' := mX4_borderBehind) dX4_marginBehind_4 ml_X4_131 imX4_borderBehind (kT hT) (Nat.le_of_ble_eq_true rfl) rfl (Nat.le_of_ble_eq_true rfl) rfl (Nat.le_of_ble_eq_true rfl) (c_bb_n hT hg w8 hb hs hp hr hbe) ?_
    refine T_ist5 dX4_marginBehind_7 (by decide) rfl ?_
    refine T_ild5 dX4_marginBehind_9 ?_
    refine T_bipush (v := -9) dX4_marginBehind_11 (by decide) ?_
    refine T_cne (tgt := 22) dX4_marginBehind_13 (by decide) (fun h13 => ?_) (fun h13 => ?_)
    · exact absurd rfl h13
    · refine T_sipush (v := -1000) dX4_marginBehind_16 (by decide) ?_
      refine T_goto (tgt := 35) dX4_marginBehind_19 (by decide) ?_
      refine T_iret dX4_marginBehind_35 rfl ?_
      rw [show MB a n c b r = -1000 by unfold MB; rw [hbe]]; exact rt_i
  | some b' =>
    have q := beh_some w8 hs hp hbe
    refine T_ald0 dX4_marginBehind_0 ?_
    refine T_ild1 dX4_marginBehind_1 ?_
    refine T_ild4 dX4_marginBehind_2 ?_
    refine T_invV2i (M' := mX4_borderBehind) dX4_marginBehind_4 ml_X4_131 imX4_borderBehind (kT hT) (Nat.le_of_ble_eq_true rfl) rfl (Nat.le_of_ble_eq_true rfl) rfl (Nat.le_of_ble_eq_true rfl) (c_bb_s hT hg w8 hb hs hp hr hbe) ?_
    refine T_ist5 dX4_marginBehind_7 (by decide) rfl ?_
    refine T_ild5 dX4_marginBehind_9 ?_
    refine T_bipush (v := -9) dX4_marginBehind_11 (by decide) ?_
    refine T_cne (tgt := 22) dX4_marginBehind_13 (by decide) (fun h13 => ?_) (fun h13 => ?_)
    · refine T_ald0 dX4_marginBehind_22 ?_
      refine T_ild5 dX4_marginBehind_23 ?_
      refine T_iconst (v := nI 1) dX4_marginBehind_25 (by decide) ?_
      refine T_ild2 dX4_marginBehind_26 ?_
      refine T_isubN dX4_marginBehind_27 (by omega) ?_
      refine T_ild3 dX4_marginBehind_28 ?_
      refine T_iconst (v := nI 1) dX4_marginBehind_29 (by decide) ?_
      refine T_isubN dX4_marginBehind_30 (by omega) ?_
      refine T_invV3i (M' := mX4_bestMargin) dX4_marginBehind_31 ml_X4_134 imX4_bestMargin (kT hT) (Nat.le_of_ble_eq_true rfl) rfl (Nat.le_of_ble_eq_true rfl) rfl (Nat.le_of_ble_eq_true rfl) (IH d (1 - c) b' (by omega) q.1 q.2.1 q.2.2.1) ?_
      refine T_ineg dX4_marginBehind_34 ?_
      refine T_iret dX4_marginBehind_35 rfl ?_
      rw [zI_neg, show -GM a n (1 - c) b' = MB a n c b r by unfold MB; rw [hbe]]; exact rt_i
    · exact absurd h13 (nI_m9 (by omega))
set_option maxRecDepth 20000 in
theorem c_bm {S : Nat → Nat → Int32} {L : Nat → Nat → Int64} {R : Nat × Nat × Nat} {T : Nat} (hT : T = 19 ∨ T = 28) {a : Nat → Nat → Nat} (hV : TV S T a) (hW : WL a) : ∀ n, n ≤ 4 → ∀ d c b : Nat, c ≤ 1 → b < 64 → b / 8 < a 0 0 → b % 8 < a 0 0 → TT mX4_bestMargin (d + 2 * n + 3) 0 [some (.ref T), some (.int (nI b)), some (.int (nI c)), some (.int (nI n)), none, none] [] (S, L, R) (rt (some (.int (zI (GM a n c b)))) (S, L, R)) := by
  intro n
  obtain ⟨hg, hdn, hso, hbd, hrn, hgu, hdi, hre⟩ := id hV
  obtain ⟨w3, w8, wd1, wd6, wso, wb, wbs, wbp, wne, wrn, wgu, wdi, wre⟩ := id hW
  induction n with
  | zero =>
    intro _ d c b hc hb hs hp
    have l1 := land_le (c := c) (b := b) hW
    have l2 := land_le (c := 1 - c) (b := b) hW
    refine T_ild3 dX4_bestMargin_0 ?_
    refine T_ifgtN (tgt := 20) dX4_bestMargin_1 (by decide) (by omega) (fun h1 => ?_) (fun h1 => ?_)
    · exfalso; omega
    · refine T_ald0 dX4_bestMargin_4 ?_
      refine T_ild2 dX4_bestMargin_5 ?_
      refine T_ild1 dX4_bestMargin_6 ?_
      refine T_invV2i (M' := mX4_landOf) dX4_bestMargin_7 ml_X4_124 imX4_landOf (kT hT) (Nat.le_of_ble_eq_true rfl) rfl (Nat.le_of_ble_eq_true rfl) rfl (Nat.le_of_ble_eq_true rfl) (c_X4_landOf hT hV hW hb hs hp) ?_
      refine T_ald0 dX4_bestMargin_10 ?_
      refine T_iconst (v := nI 1) dX4_bestMargin_11 (by decide) ?_
      refine T_ild2 dX4_bestMargin_12 ?_
      refine T_isubN dX4_bestMargin_13 (by omega) ?_
      refine T_ild1 dX4_bestMargin_14 ?_
      refine T_invV2i (M' := mX4_landOf) dX4_bestMargin_15 ml_X4_124 imX4_landOf (kT hT) (Nat.le_of_ble_eq_true rfl) rfl (Nat.le_of_ble_eq_true rfl) rfl (Nat.le_of_ble_eq_true rfl) (c_X4_landOf hT hV hW hb hs hp) ?_
      refine T_isub dX4_bestMargin_18 ?_
      refine T_iret dX4_bestMargin_19 rfl ?_
      rw [nI_zI, nI_zI, zI_sub]; exact rt_i
  | succ n ih =>
    intro hn d c b hc hb hs hp
    have IH := ih (by omega)
    refine T_ild3 dX4_bestMargin_0 ?_
    refine T_ifgtN (tgt := 20) dX4_bestMargin_1 (by decide) (by omega) (fun h1 => ?_) (fun h1 => ?_)
    · refine T_sipush (v := -1000) dX4_bestMargin_20 (by decide) ?_
      refine T_ist4 dX4_bestMargin_23 (by decide) rfl ?_
      refine T_iconst (v := nI 0) dX4_bestMargin_25 (by decide) ?_
      refine T_ist5 dX4_bestMargin_26 (by decide) rfl ?_
      refine up_ind (P := fun i => TT mX4_bestMargin (d + 2 * (n + 1) + 3) 28 [some (.ref T), some (.int (nI b)), some (.int (nI c)), some (.int (nI (n + 1))), some (.int (zI (mxs (MB a n c b) i))), some (.int (nI i))] [] (S, L, R) (rt (some (.int (zI (GM a (n + 1) c b)))) (S, L, R))) 4 ?_ ?_
      · refine T_ild5 dX4_bestMargin_28 ?_
        refine T_iconst (v := nI 4) dX4_bestMargin_30 (by decide) ?_
        refine T_cgeN (tgt := 56) dX4_bestMargin_31 (by decide) (by omega) (by omega) (fun h31 => ?_) (fun h31 => ?_)
        · refine T_ild4 dX4_bestMargin_56 ?_
          refine T_iret dX4_bestMargin_58 rfl ?_
          exact rt_i
        · exfalso; omega
      · intro i hi ih
        refine T_ild5 dX4_bestMargin_28 ?_
        refine T_iconst (v := nI 4) dX4_bestMargin_30 (by decide) ?_
        refine T_cgeN (tgt := 56) dX4_bestMargin_31 (by decide) (by omega) (by omega) (fun h31 => ?_) (fun h31 => ?_)
        · exfalso; omega
        · refine T_ild4 dX4_bestMargin_34 ?_
          refine T_ald0 dX4_bestMargin_36 ?_
          refine T_ild1 dX4_bestMargin_37 ?_
          refine T_ild2 dX4_bestMargin_38 ?_
          refine T_ild3 dX4_bestMargin_39 ?_
          refine T_ild5 dX4_bestMargin_40 ?_
          refine T_invV4i (M' := mX4_marginBehind) dX4_bestMargin_42 ml_X4_127 imX4_marginBehind (kT hT) (Nat.le_of_ble_eq_true rfl) rfl (Nat.le_of_ble_eq_true rfl) rfl (Nat.le_of_ble_eq_true rfl) (c_mb_open hT hV hW IH d hc hb hs hp hi (by omega)) ?_
          refine T_max dX4_bestMargin_45 ml_X4_112 (Nat.le_of_ble_eq_true rfl) ?_
          rw [zI_max (mxs_b (MB_b hW n c b) i) (MB_b hW n c b i)]
          refine T_ist4 dX4_bestMargin_48 (by decide) rfl ?_
          refine T_inc5N dX4_bestMargin_50 (by decide) rfl ?_
          refine T_goto (tgt := 28) dX4_bestMargin_53 (by decide) ?_
          exact ih
    · exfalso; omega
def mxt (f : Nat → Int) : Nat → Int
  | 0 => f 0
  | k + 1 => if mxt f k < f (k + 1) then f (k + 1) else mxt f k
def arx (f : Nat → Int) : Nat → Nat
  | 0 => 0
  | k + 1 => if mxt f k < f (k + 1) then k + 1 else arx f k
theorem mxt_b {f : Nat → Int} (h : ∀ r, -1000 ≤ f r ∧ f r ≤ 1000) : ∀ k, -1000 ≤ mxt f k ∧ mxt f k ≤ 1000
  | 0 => h 0
  | k + 1 => by
    have h1 := mxt_b h k
    have h2 := h (k + 1)
    unfold mxt; split <;> omega
set_option maxRecDepth 20000 in
theorem c_X4_bestRequest {S : Nat → Nat → Int32} {L : Nat → Nat → Int64} {R : Nat × Nat × Nat} {d : Nat} {T : Nat} (hT : T = 19 ∨ T = 28) {a : Nat → Nat → Nat} (hV : TV S T a) (hW : WL a) {n c : Nat} (hn : n < 4) (hc : c ≤ 1) : TT mX4_bestRequest (d + 2 * n + 5) 0 [some (.ref T), some (.int (nI c)), some (.int (nI (n + 1))), none, none, none, none] [] (S, L, R) (rt (some (.int (nI (arx (MB a n c (a 3 0)) 3)))) (S, L, R)) := by
  obtain ⟨hg, hdn, hso, hbd, hrn, hgu, hdi, hre⟩ := id hV
  obtain ⟨w3, w8, wd1, wd6, wso, wb, wbs, wbp, wne, wrn, wgu, wdi, wre⟩ := id hW
  have IH := c_bm (L := L) (R := R) hT hV hW n (by omega)
  refine T_iconst (v := nI 0) dX4_bestRequest_0 (by decide) ?_
  refine T_ist3 dX4_bestRequest_1 (by decide) rfl ?_
  refine T_ald0 dX4_bestRequest_2 ?_
  refine T_ald0 dX4_bestRequest_3 ?_
  refine T_getN dX4_bestRequest_4 lf_X4_91 (kT hT) rfl hbd ?_
  refine T_ild1 dX4_bestRequest_7 ?_
  refine T_ild2 dX4_bestRequest_8 ?_
  refine T_iconst (v := nI 0) dX4_bestRequest_9 (by decide) ?_
  refine T_invV4i (M' := mX4_marginBehind) dX4_bestRequest_10 ml_X4_127 imX4_marginBehind (kT hT) (Nat.le_of_ble_eq_true rfl) rfl (Nat.le_of_ble_eq_true rfl) rfl (Nat.le_of_ble_eq_true rfl) (c_mb_open hT hV hW IH d hc wb wbs wbp (by omega) (by omega)) ?_
  refine T_ist4 dX4_bestRequest_13 (by decide) rfl ?_
  refine T_iconst (v := nI 1) dX4_bestRequest_15 (by decide) ?_
  refine T_ist5 dX4_bestRequest_16 (by decide) rfl ?_
  skip
  refine up_ind (P := fun i => ∀ x6, TT mX4_bestRequest (d + 2 * n + 5) 18 [some (.ref T), some (.int (nI c)), some (.int (nI (n + 1))), some (.int (nI (arx (MB a n c (a 3 0)) i))), some (.int (zI (mxt (MB a n c (a 3 0)) i))), some (.int (nI (i + 1))), x6] [] (S, L, R) (rt (some (.int (nI (arx (MB a n c (a 3 0)) 3)))) (S, L, R))) 3 ?_ ?_ none
  · intro x6
    refine T_ild5 dX4_bestRequest_18 ?_
    refine T_iconst (v := nI 4) dX4_bestRequest_20 (by decide) ?_
    refine T_cgeN (tgt := 58) dX4_bestRequest_21 (by decide) (by omega) (by omega) (fun h21 => ?_) (fun h21 => ?_)
    · refine T_ild3 dX4_bestRequest_58 ?_
      refine T_iret dX4_bestRequest_59 rfl ?_
      exact rt_i
    · exfalso; omega
  · intro i hi ih x6
    have z1 := mxt_b (MB_b hW n c (a 3 0)) i
    have z2 := MB_b hW n c (a 3 0) (i + 1)
    refine T_ild5 dX4_bestRequest_18 ?_
    refine T_iconst (v := nI 4) dX4_bestRequest_20 (by decide) ?_
    refine T_cgeN (tgt := 58) dX4_bestRequest_21 (by decide) (by omega) (by omega) (fun h21 => ?_) (fun h21 => ?_)
    · exfalso; omega
    · refine T_ald0 dX4_bestRequest_24 ?_
      refine T_ald0 dX4_bestRequest_25 ?_
      refine T_getN dX4_bestRequest_26 lf_X4_91 (kT hT) rfl hbd ?_
      refine T_ild1 dX4_bestRequest_29 ?_
      refine T_ild2 dX4_bestRequest_30 ?_
      refine T_ild5 dX4_bestRequest_31 ?_
      refine T_invV4i (M' := mX4_marginBehind) dX4_bestRequest_33 ml_X4_127 imX4_marginBehind (kT hT) (Nat.le_of_ble_eq_true rfl) rfl (Nat.le_of_ble_eq_true rfl) rfl (Nat.le_of_ble_eq_true rfl) (c_mb_open hT hV hW IH d hc wb wbs wbp (by omega) (by omega)) ?_
      refine T_ist6 dX4_bestRequest_36 (by decide) rfl ?_
      refine T_ild6 dX4_bestRequest_38 ?_
      refine T_ild4 dX4_bestRequest_40 ?_
      refine T_cle (tgt := 52) dX4_bestRequest_42 (by decide) (fun h42 => ?_) (fun h42 => ?_)
      · refine T_inc5N dX4_bestRequest_52 (by decide) rfl ?_
        refine T_goto (tgt := 18) dX4_bestRequest_55 (by decide) ?_
        first | (have q := (zI_le (by omega) (by omega) (by omega) (by omega)).mp h42; have e1 : arx (MB a n c (a 3 0)) (i + 1) = arx (MB a n c (a 3 0)) i := if_neg (by omega); have e2 : mxt (MB a n c (a 3 0)) (i + 1) = mxt (MB a n c (a 3 0)) i := if_neg (by omega); rw [e1, e2] at ih; exact ih _) | (have q : ¬ MB a n c (a 3 0) (i + 1) ≤ mxt (MB a n c (a 3 0)) i := fun q => h42 ((zI_le (by omega) (by omega) (by omega) (by omega)).mpr q); have e1 : arx (MB a n c (a 3 0)) (i + 1) = i + 1 := if_pos (by omega); have e2 : mxt (MB a n c (a 3 0)) (i + 1) = MB a n c (a 3 0) (i + 1) := if_pos (by omega); rw [e1, e2] at ih; exact ih _)
      · refine T_ild5 dX4_bestRequest_45 ?_
        refine T_ist3 dX4_bestRequest_47 (by decide) rfl ?_
        refine T_ild6 dX4_bestRequest_48 ?_
        refine T_ist4 dX4_bestRequest_50 (by decide) rfl ?_
        refine T_inc5N dX4_bestRequest_52 (by decide) rfl ?_
        refine T_goto (tgt := 18) dX4_bestRequest_55 (by decide) ?_
        first | (have q := (zI_le (by omega) (by omega) (by omega) (by omega)).mp h42; have e1 : arx (MB a n c (a 3 0)) (i + 1) = arx (MB a n c (a 3 0)) i := if_neg (by omega); have e2 : mxt (MB a n c (a 3 0)) (i + 1) = mxt (MB a n c (a 3 0)) i := if_neg (by omega); rw [e1, e2] at ih; exact ih _) | (have q : ¬ MB a n c (a 3 0) (i + 1) ≤ mxt (MB a n c (a 3 0)) i := fun q => h42 ((zI_le (by omega) (by omega) (by omega) (by omega)).mpr q); have e1 : arx (MB a n c (a 3 0)) (i + 1) = i + 1 := if_pos (by omega); have e2 : mxt (MB a n c (a 3 0)) (i + 1) = MB a n c (a 3 0) (i + 1) := if_pos (by omega); rw [e1, e2] at ih; exact ih _)
end
