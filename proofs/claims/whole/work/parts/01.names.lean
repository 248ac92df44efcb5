-- ===== PART A: goes FIRST, ahead of the names: the tables' words, and 'selects' of the private methods out of them =====
/-- a private method of a class that the tables say can be made, by its rows of tables_1 -/
def lw_okq (q : MethodName × Nat) : Prop := (q.1.cls ≠ "java/lang/invoke/MethodHandle" ∧ q.1.cls ≠ "java/lang/invoke/VarHandle") ∧ Cond.instantiable q.1.cls q.2 ∈ tables_1 ∧ Cond.privateMethod q.1 ∈ tables_1 ∧ Cond.instanceMethod q.1 ∈ tables_1
theorem lw_p0 : lw_okq (⟨"LevelLadders$Ladder", "isBuilt", "([I)Z"⟩, 7) := ⟨⟨by decide +kernel, by decide +kernel⟩, List.mem_of_getElem? (i := 73) (by decide +kernel), List.mem_of_getElem? (i := 351) (by decide +kernel), List.mem_of_getElem? (i := 352) (by decide +kernel)⟩
theorem lw_p1 : lw_okq (⟨"LevelLadders$Ladder", "fillActs", "(III)V"⟩, 7) := ⟨⟨by decide +kernel, by decide +kernel⟩, List.mem_of_getElem? (i := 73) (by decide +kernel), List.mem_of_getElem? (i := 359) (by decide +kernel), List.mem_of_getElem? (i := 360) (by decide +kernel)⟩
theorem lw_p2 : lw_okq (⟨"LevelLadders$Ladder", "exchanged", "(III)I"⟩, 7) := ⟨⟨by decide +kernel, by decide +kernel⟩, List.mem_of_getElem? (i := 73) (by decide +kernel), List.mem_of_getElem? (i := 370) (by decide +kernel), List.mem_of_getElem? (i := 371) (by decide +kernel)⟩
theorem lw_p3 : lw_okq (⟨"LevelLadders$Ladder", "fillForms", "(I)V"⟩, 7) := ⟨⟨by decide +kernel, by decide +kernel⟩, List.mem_of_getElem? (i := 73) (by decide +kernel), List.mem_of_getElem? (i := 380) (by decide +kernel), List.mem_of_getElem? (i := 381) (by decide +kernel)⟩
theorem lw_p4 : lw_okq (⟨"LevelLadders$Grid", "pivotRow", "(I)I"⟩, 6) := ⟨⟨by decide +kernel, by decide +kernel⟩, List.mem_of_getElem? (i := 115) (by decide +kernel), List.mem_of_getElem? (i := 414) (by decide +kernel), List.mem_of_getElem? (i := 415) (by decide +kernel)⟩
theorem lw_p5 : lw_okq (⟨"LevelLadders$Grid", "exchange", "(II)V"⟩, 6) := ⟨⟨by decide +kernel, by decide +kernel⟩, List.mem_of_getElem? (i := 115) (by decide +kernel), List.mem_of_getElem? (i := 418) (by decide +kernel), List.mem_of_getElem? (i := 419) (by decide +kernel)⟩
theorem lw_p6 : lw_okq (⟨"LevelLadders$Grid", "multiplyRow", "(II)V"⟩, 6) := ⟨⟨by decide +kernel, by decide +kernel⟩, List.mem_of_getElem? (i := 115) (by decide +kernel), List.mem_of_getElem? (i := 426) (by decide +kernel), List.mem_of_getElem? (i := 427) (by decide +kernel)⟩
theorem lw_p7 : lw_okq (⟨"LevelLadders$Grid", "clearColumn", "(II)V"⟩, 6) := ⟨⟨by decide +kernel, by decide +kernel⟩, List.mem_of_getElem? (i := 115) (by decide +kernel), List.mem_of_getElem? (i := 430) (by decide +kernel), List.mem_of_getElem? (i := 431) (by decide +kernel)⟩
theorem lw_p8 : lw_okq (⟨"LevelLadders$Sweep", "extend", "(II)V"⟩, 4) := ⟨⟨by decide +kernel, by decide +kernel⟩, List.mem_of_getElem? (i := 166) (by decide +kernel), List.mem_of_getElem? (i := 455) (by decide +kernel), List.mem_of_getElem? (i := 456) (by decide +kernel)⟩
theorem lw_p9 : lw_okq (⟨"LevelLadders$Grid", "freeColumn", "()I"⟩, 6) := ⟨⟨by decide +kernel, by decide +kernel⟩, List.mem_of_getElem? (i := 115) (by decide +kernel), List.mem_of_getElem? (i := 480) (by decide +kernel), List.mem_of_getElem? (i := 481) (by decide +kernel)⟩
theorem lw_p10 : lw_okq (⟨"LevelLadders$Grid", "rawNullNumber", "(II)I"⟩, 6) := ⟨⟨by decide +kernel, by decide +kernel⟩, List.mem_of_getElem? (i := 115) (by decide +kernel), List.mem_of_getElem? (i := 484) (by decide +kernel), List.mem_of_getElem? (i := 485) (by decide +kernel)⟩
theorem lw_p11 : lw_okq (⟨"LevelLadders", "sumOfTerms", "()I"⟩, 11) := ⟨⟨by decide +kernel, by decide +kernel⟩, List.mem_of_getElem? (i := 17) (by decide +kernel), List.mem_of_getElem? (i := 517) (by decide +kernel), List.mem_of_getElem? (i := 518) (by decide +kernel)⟩
theorem lw_p12 : lw_okq (⟨"LevelLadders$Text", "addMode", "(I)V"⟩, 6) := ⟨⟨by decide +kernel, by decide +kernel⟩, List.mem_of_getElem? (i := 186) (by decide +kernel), List.mem_of_getElem? (i := 529) (by decide +kernel), List.mem_of_getElem? (i := 530) (by decide +kernel)⟩
theorem lw_p13 : lw_okq (⟨"LevelLadders", "addTerm", "()V"⟩, 11) := ⟨⟨by decide +kernel, by decide +kernel⟩, List.mem_of_getElem? (i := 17) (by decide +kernel), List.mem_of_getElem? (i := 541) (by decide +kernel), List.mem_of_getElem? (i := 542) (by decide +kernel)⟩
theorem lw_p14 : lw_okq (⟨"LevelLadders", "hasNumber", "(II)Z"⟩, 11) := ⟨⟨by decide +kernel, by decide +kernel⟩, List.mem_of_getElem? (i := 17) (by decide +kernel), List.mem_of_getElem? (i := 580) (by decide +kernel), List.mem_of_getElem? (i := 581) (by decide +kernel)⟩
theorem lw_p15 : lw_okq (⟨"LevelLadders", "endsAsZero", "(II)Z"⟩, 11) := ⟨⟨by decide +kernel, by decide +kernel⟩, List.mem_of_getElem? (i := 17) (by decide +kernel), List.mem_of_getElem? (i := 621) (by decide +kernel), List.mem_of_getElem? (i := 622) (by decide +kernel)⟩
def lw_privs_1 : List (MethodName × Nat) := [(⟨"LevelLadders$Ladder", "isBuilt", "([I)Z"⟩, 7), (⟨"LevelLadders$Ladder", "fillActs", "(III)V"⟩, 7), (⟨"LevelLadders$Ladder", "exchanged", "(III)I"⟩, 7), (⟨"LevelLadders$Ladder", "fillForms", "(I)V"⟩, 7), (⟨"LevelLadders$Grid", "pivotRow", "(I)I"⟩, 6), (⟨"LevelLadders$Grid", "exchange", "(II)V"⟩, 6), (⟨"LevelLadders$Grid", "multiplyRow", "(II)V"⟩, 6), (⟨"LevelLadders$Grid", "clearColumn", "(II)V"⟩, 6), (⟨"LevelLadders$Sweep", "extend", "(II)V"⟩, 4), (⟨"LevelLadders$Grid", "freeColumn", "()I"⟩, 6), (⟨"LevelLadders$Grid", "rawNullNumber", "(II)I"⟩, 6), (⟨"LevelLadders", "sumOfTerms", "()I"⟩, 11), (⟨"LevelLadders$Text", "addMode", "(I)V"⟩, 6), (⟨"LevelLadders", "addTerm", "()V"⟩, 11), (⟨"LevelLadders", "hasNumber", "(II)Z"⟩, 11), (⟨"LevelLadders", "endsAsZero", "(II)Z"⟩, 11)]
theorem lw_r1 : ∀ q ∈ lw_privs_1, lw_okq q := List.forall_mem_cons.mpr ⟨lw_p0, List.forall_mem_cons.mpr ⟨lw_p1, List.forall_mem_cons.mpr ⟨lw_p2, List.forall_mem_cons.mpr ⟨lw_p3, List.forall_mem_cons.mpr ⟨lw_p4, List.forall_mem_cons.mpr ⟨lw_p5, List.forall_mem_cons.mpr ⟨lw_p6, List.forall_mem_cons.mpr ⟨lw_p7, List.forall_mem_cons.mpr ⟨lw_p8, List.forall_mem_cons.mpr ⟨lw_p9, List.forall_mem_cons.mpr ⟨lw_p10, List.forall_mem_cons.mpr ⟨lw_p11, List.forall_mem_cons.mpr ⟨lw_p12, List.forall_mem_cons.mpr ⟨lw_p13, List.forall_mem_cons.mpr ⟨lw_p14, List.forall_mem_cons.mpr ⟨lw_p15, fun _ h => absurd h List.not_mem_nil⟩⟩⟩⟩⟩⟩⟩⟩⟩⟩⟩⟩⟩⟩⟩⟩
theorem lw_p16 : lw_okq (⟨"LevelLadders", "doRow", "(II)V"⟩, 11) := ⟨⟨by decide +kernel, by decide +kernel⟩, List.mem_of_getElem? (i := 17) (by decide +kernel), List.mem_of_getElem? (i := 640) (by decide +kernel), List.mem_of_getElem? (i := 641) (by decide +kernel)⟩
theorem lw_p17 : lw_okq (⟨"LevelLadders$Text", "appendTerm", "(II)V"⟩, 6) := ⟨⟨by decide +kernel, by decide +kernel⟩, List.mem_of_getElem? (i := 186) (by decide +kernel), List.mem_of_getElem? (i := 657) (by decide +kernel), List.mem_of_getElem? (i := 658) (by decide +kernel)⟩
theorem lw_p18 : lw_okq (⟨"LevelLadders$Text", "appendNumber", "(I)V"⟩, 6) := ⟨⟨by decide +kernel, by decide +kernel⟩, List.mem_of_getElem? (i := 186) (by decide +kernel), List.mem_of_getElem? (i := 662) (by decide +kernel), List.mem_of_getElem? (i := 663) (by decide +kernel)⟩
theorem lw_p19 : lw_okq (⟨"LevelLaddersModel", "follows", "(I)V"⟩, 34) := ⟨⟨by decide +kernel, by decide +kernel⟩, List.mem_of_getElem? (i := 711) (by decide +kernel), List.mem_of_getElem? (i := 717) (by decide +kernel), List.mem_of_getElem? (i := 718) (by decide +kernel)⟩
theorem lw_p20 : lw_okq (⟨"LevelLaddersModel", "slope", "(II)I"⟩, 34) := ⟨⟨by decide +kernel, by decide +kernel⟩, List.mem_of_getElem? (i := 711) (by decide +kernel), List.mem_of_getElem? (i := 845) (by decide +kernel), List.mem_of_getElem? (i := 846) (by decide +kernel)⟩
theorem lw_p21 : lw_okq (⟨"LevelLaddersModel", "centre", "(I)I"⟩, 34) := ⟨⟨by decide +kernel, by decide +kernel⟩, List.mem_of_getElem? (i := 711) (by decide +kernel), List.mem_of_getElem? (i := 852) (by decide +kernel), List.mem_of_getElem? (i := 853) (by decide +kernel)⟩
theorem lw_p22 : lw_okq (⟨"LevelLaddersModel", "isOf", "(II)Z"⟩, 34) := ⟨⟨by decide +kernel, by decide +kernel⟩, List.mem_of_getElem? (i := 711) (by decide +kernel), List.mem_of_getElem? (i := 860) (by decide +kernel), List.mem_of_getElem? (i := 861) (by decide +kernel)⟩
theorem lw_p23 : lw_okq (⟨"LevelLaddersModel", "many", "(I)I"⟩, 34) := ⟨⟨by decide +kernel, by decide +kernel⟩, List.mem_of_getElem? (i := 711) (by decide +kernel), List.mem_of_getElem? (i := 867) (by decide +kernel), List.mem_of_getElem? (i := 868) (by decide +kernel)⟩
theorem lw_p24 : lw_okq (⟨"LevelLaddersModel", "layAll", "()V"⟩, 34) := ⟨⟨by decide +kernel, by decide +kernel⟩, List.mem_of_getElem? (i := 711) (by decide +kernel), List.mem_of_getElem? (i := 875) (by decide +kernel), List.mem_of_getElem? (i := 876) (by decide +kernel)⟩
theorem lw_p25 : lw_okq (⟨"LevelLaddersModel", "lays", "(II)V"⟩, 34) := ⟨⟨by decide +kernel, by decide +kernel⟩, List.mem_of_getElem? (i := 711) (by decide +kernel), List.mem_of_getElem? (i := 879) (by decide +kernel), List.mem_of_getElem? (i := 880) (by decide +kernel)⟩
theorem lw_p26 : lw_okq (⟨"LevelLaddersModel", "placeOf", "(III)I"⟩, 34) := ⟨⟨by decide +kernel, by decide +kernel⟩, List.mem_of_getElem? (i := 711) (by decide +kernel), List.mem_of_getElem? (i := 886) (by decide +kernel), List.mem_of_getElem? (i := 887) (by decide +kernel)⟩
theorem lw_p27 : lw_okq (⟨"LevelLaddersModel", "addsTo", "(IIII)V"⟩, 34) := ⟨⟨by decide +kernel, by decide +kernel⟩, List.mem_of_getElem? (i := 711) (by decide +kernel), List.mem_of_getElem? (i := 890) (by decide +kernel), List.mem_of_getElem? (i := 891) (by decide +kernel)⟩
theorem lw_p28 : lw_okq (⟨"LevelLaddersModel", "formOf", "(III)I"⟩, 34) := ⟨⟨by decide +kernel, by decide +kernel⟩, List.mem_of_getElem? (i := 711) (by decide +kernel), List.mem_of_getElem? (i := 898) (by decide +kernel), List.mem_of_getElem? (i := 899) (by decide +kernel)⟩
theorem lw_p29 : lw_okq (⟨"LevelLaddersModel", "thinks", "(II)V"⟩, 34) := ⟨⟨by decide +kernel, by decide +kernel⟩, List.mem_of_getElem? (i := 711) (by decide +kernel), List.mem_of_getElem? (i := 902) (by decide +kernel), List.mem_of_getElem? (i := 903) (by decide +kernel)⟩
theorem lw_p30 : lw_okq (⟨"LevelLaddersModel", "goes", "(I)V"⟩, 34) := ⟨⟨by decide +kernel, by decide +kernel⟩, List.mem_of_getElem? (i := 711) (by decide +kernel), List.mem_of_getElem? (i := 906) (by decide +kernel), List.mem_of_getElem? (i := 907) (by decide +kernel)⟩
theorem lw_p31 : lw_okq (⟨"LevelLaddersModel", "layForms", "(I)V"⟩, 34) := ⟨⟨by decide +kernel, by decide +kernel⟩, List.mem_of_getElem? (i := 711) (by decide +kernel), List.mem_of_getElem? (i := 914) (by decide +kernel), List.mem_of_getElem? (i := 915) (by decide +kernel)⟩
def lw_privs_2 : List (MethodName × Nat) := [(⟨"LevelLadders", "doRow", "(II)V"⟩, 11), (⟨"LevelLadders$Text", "appendTerm", "(II)V"⟩, 6), (⟨"LevelLadders$Text", "appendNumber", "(I)V"⟩, 6), (⟨"LevelLaddersModel", "follows", "(I)V"⟩, 34), (⟨"LevelLaddersModel", "slope", "(II)I"⟩, 34), (⟨"LevelLaddersModel", "centre", "(I)I"⟩, 34), (⟨"LevelLaddersModel", "isOf", "(II)Z"⟩, 34), (⟨"LevelLaddersModel", "many", "(I)I"⟩, 34), (⟨"LevelLaddersModel", "layAll", "()V"⟩, 34), (⟨"LevelLaddersModel", "lays", "(II)V"⟩, 34), (⟨"LevelLaddersModel", "placeOf", "(III)I"⟩, 34), (⟨"LevelLaddersModel", "addsTo", "(IIII)V"⟩, 34), (⟨"LevelLaddersModel", "formOf", "(III)I"⟩, 34), (⟨"LevelLaddersModel", "thinks", "(II)V"⟩, 34), (⟨"LevelLaddersModel", "goes", "(I)V"⟩, 34), (⟨"LevelLaddersModel", "layForms", "(I)V"⟩, 34)]
theorem lw_r2 : ∀ q ∈ lw_privs_2, lw_okq q := List.forall_mem_cons.mpr ⟨lw_p16, List.forall_mem_cons.mpr ⟨lw_p17, List.forall_mem_cons.mpr ⟨lw_p18, List.forall_mem_cons.mpr ⟨lw_p19, List.forall_mem_cons.mpr ⟨lw_p20, List.forall_mem_cons.mpr ⟨lw_p21, List.forall_mem_cons.mpr ⟨lw_p22, List.forall_mem_cons.mpr ⟨lw_p23, List.forall_mem_cons.mpr ⟨lw_p24, List.forall_mem_cons.mpr ⟨lw_p25, List.forall_mem_cons.mpr ⟨lw_p26, List.forall_mem_cons.mpr ⟨lw_p27, List.forall_mem_cons.mpr ⟨lw_p28, List.forall_mem_cons.mpr ⟨lw_p29, List.forall_mem_cons.mpr ⟨lw_p30, List.forall_mem_cons.mpr ⟨lw_p31, fun _ h => absurd h List.not_mem_nil⟩⟩⟩⟩⟩⟩⟩⟩⟩⟩⟩⟩⟩⟩⟩⟩
theorem lw_p32 : lw_okq (⟨"LevelLaddersModel", "steps", "(I)V"⟩, 34) := ⟨⟨by decide +kernel, by decide +kernel⟩, List.mem_of_getElem? (i := 711) (by decide +kernel), List.mem_of_getElem? (i := 918) (by decide +kernel), List.mem_of_getElem? (i := 919) (by decide +kernel)⟩
theorem lw_p33 : lw_okq (⟨"LevelLaddersModel", "changes", "(II)V"⟩, 34) := ⟨⟨by decide +kernel, by decide +kernel⟩, List.mem_of_getElem? (i := 711) (by decide +kernel), List.mem_of_getElem? (i := 922) (by decide +kernel), List.mem_of_getElem? (i := 923) (by decide +kernel)⟩
theorem lw_p34 : lw_okq (⟨"LevelLaddersModel", "clears", "(III)V"⟩, 34) := ⟨⟨by decide +kernel, by decide +kernel⟩, List.mem_of_getElem? (i := 711) (by decide +kernel), List.mem_of_getElem? (i := 929) (by decide +kernel), List.mem_of_getElem? (i := 930) (by decide +kernel)⟩
theorem lw_p35 : lw_okq (⟨"LevelLaddersModel", "weighs", "(III)I"⟩, 34) := ⟨⟨by decide +kernel, by decide +kernel⟩, List.mem_of_getElem? (i := 711) (by decide +kernel), List.mem_of_getElem? (i := 941) (by decide +kernel), List.mem_of_getElem? (i := 942) (by decide +kernel)⟩
theorem lw_p36 : lw_okq (⟨"LevelLaddersModel", "layLowering", "(I)V"⟩, 34) := ⟨⟨by decide +kernel, by decide +kernel⟩, List.mem_of_getElem? (i := 711) (by decide +kernel), List.mem_of_getElem? (i := 953) (by decide +kernel), List.mem_of_getElem? (i := 954) (by decide +kernel)⟩
theorem lw_p37 : lw_okq (⟨"LevelLaddersModel", "readTerms", "()Z"⟩, 34) := ⟨⟨by decide +kernel, by decide +kernel⟩, List.mem_of_getElem? (i := 711) (by decide +kernel), List.mem_of_getElem? (i := 968) (by decide +kernel), List.mem_of_getElem? (i := 969) (by decide +kernel)⟩
theorem lw_p38 : lw_okq (⟨"LevelLaddersModel", "readTerm", "()Z"⟩, 34) := ⟨⟨by decide +kernel, by decide +kernel⟩, List.mem_of_getElem? (i := 711) (by decide +kernel), List.mem_of_getElem? (i := 972) (by decide +kernel), List.mem_of_getElem? (i := 973) (by decide +kernel)⟩
theorem lw_p39 : lw_okq (⟨"LevelLaddersModel", "readNumber", "()V"⟩, 34) := ⟨⟨by decide +kernel, by decide +kernel⟩, List.mem_of_getElem? (i := 711) (by decide +kernel), List.mem_of_getElem? (i := 976) (by decide +kernel), List.mem_of_getElem? (i := 977) (by decide +kernel)⟩
theorem lw_p40 : lw_okq (⟨"LevelLaddersModel", "isHere", "(II)Z"⟩, 34) := ⟨⟨by decide +kernel, by decide +kernel⟩, List.mem_of_getElem? (i := 711) (by decide +kernel), List.mem_of_getElem? (i := 980) (by decide +kernel), List.mem_of_getElem? (i := 981) (by decide +kernel)⟩
theorem lw_p41 : lw_okq (⟨"LevelLaddersModel", "takes", "(I)Z"⟩, 34) := ⟨⟨by decide +kernel, by decide +kernel⟩, List.mem_of_getElem? (i := 711) (by decide +kernel), List.mem_of_getElem? (i := 984) (by decide +kernel), List.mem_of_getElem? (i := 985) (by decide +kernel)⟩
theorem lw_p42 : lw_okq (⟨"LevelLaddersModel", "readMode", "()Z"⟩, 34) := ⟨⟨by decide +kernel, by decide +kernel⟩, List.mem_of_getElem? (i := 711) (by decide +kernel), List.mem_of_getElem? (i := 988) (by decide +kernel), List.mem_of_getElem? (i := 989) (by decide +kernel)⟩
theorem lw_p43 : lw_okq (⟨"LevelLaddersModel", "levelOfTerm", "(I)I"⟩, 34) := ⟨⟨by decide +kernel, by decide +kernel⟩, List.mem_of_getElem? (i := 711) (by decide +kernel), List.mem_of_getElem? (i := 992) (by decide +kernel), List.mem_of_getElem? (i := 993) (by decide +kernel)⟩
theorem lw_p44 : lw_okq (⟨"LevelLaddersModel", "termDone", "(I)V"⟩, 34) := ⟨⟨by decide +kernel, by decide +kernel⟩, List.mem_of_getElem? (i := 711) (by decide +kernel), List.mem_of_getElem? (i := 996) (by decide +kernel), List.mem_of_getElem? (i := 997) (by decide +kernel)⟩
theorem lw_p45 : lw_okq (⟨"LevelLaddersModel", "becomesThought", "(I)V"⟩, 34) := ⟨⟨by decide +kernel, by decide +kernel⟩, List.mem_of_getElem? (i := 711) (by decide +kernel), List.mem_of_getElem? (i := 1004) (by decide +kernel), List.mem_of_getElem? (i := 1005) (by decide +kernel)⟩
theorem lw_p46 : lw_okq (⟨"LevelLaddersModel", "isCoordinate", "(II)Z"⟩, 34) := ⟨⟨by decide +kernel, by decide +kernel⟩, List.mem_of_getElem? (i := 711) (by decide +kernel), List.mem_of_getElem? (i := 1016) (by decide +kernel), List.mem_of_getElem? (i := 1017) (by decide +kernel)⟩
theorem lw_p47 : lw_okq (⟨"LevelLaddersModel", "thinksOf", "(I)V"⟩, 34) := ⟨⟨by decide +kernel, by decide +kernel⟩, List.mem_of_getElem? (i := 711) (by decide +kernel), List.mem_of_getElem? (i := 1028) (by decide +kernel), List.mem_of_getElem? (i := 1029) (by decide +kernel)⟩
def lw_privs_3 : List (MethodName × Nat) := [(⟨"LevelLaddersModel", "steps", "(I)V"⟩, 34), (⟨"LevelLaddersModel", "changes", "(II)V"⟩, 34), (⟨"LevelLaddersModel", "clears", "(III)V"⟩, 34), (⟨"LevelLaddersModel", "weighs", "(III)I"⟩, 34), (⟨"LevelLaddersModel", "layLowering", "(I)V"⟩, 34), (⟨"LevelLaddersModel", "readTerms", "()Z"⟩, 34), (⟨"LevelLaddersModel", "readTerm", "()Z"⟩, 34), (⟨"LevelLaddersModel", "readNumber", "()V"⟩, 34), (⟨"LevelLaddersModel", "isHere", "(II)Z"⟩, 34), (⟨"LevelLaddersModel", "takes", "(I)Z"⟩, 34), (⟨"LevelLaddersModel", "readMode", "()Z"⟩, 34), (⟨"LevelLaddersModel", "levelOfTerm", "(I)I"⟩, 34), (⟨"LevelLaddersModel", "termDone", "(I)V"⟩, 34), (⟨"LevelLaddersModel", "becomesThought", "(I)V"⟩, 34), (⟨"LevelLaddersModel", "isCoordinate", "(II)Z"⟩, 34), (⟨"LevelLaddersModel", "thinksOf", "(I)V"⟩, 34)]
theorem lw_r3 : ∀ q ∈ lw_privs_3, lw_okq q := List.forall_mem_cons.mpr ⟨lw_p32, List.forall_mem_cons.mpr ⟨lw_p33, List.forall_mem_cons.mpr ⟨lw_p34, List.forall_mem_cons.mpr ⟨lw_p35, List.forall_mem_cons.mpr ⟨lw_p36, List.forall_mem_cons.mpr ⟨lw_p37, List.forall_mem_cons.mpr ⟨lw_p38, List.forall_mem_cons.mpr ⟨lw_p39, List.forall_mem_cons.mpr ⟨lw_p40, List.forall_mem_cons.mpr ⟨lw_p41, List.forall_mem_cons.mpr ⟨lw_p42, List.forall_mem_cons.mpr ⟨lw_p43, List.forall_mem_cons.mpr ⟨lw_p44, List.forall_mem_cons.mpr ⟨lw_p45, List.forall_mem_cons.mpr ⟨lw_p46, List.forall_mem_cons.mpr ⟨lw_p47, fun _ h => absurd h List.not_mem_nil⟩⟩⟩⟩⟩⟩⟩⟩⟩⟩⟩⟩⟩⟩⟩⟩
theorem lw_p48 : lw_okq (⟨"LevelLaddersModel", "isNought", "()Z"⟩, 34) := ⟨⟨by decide +kernel, by decide +kernel⟩, List.mem_of_getElem? (i := 711) (by decide +kernel), List.mem_of_getElem? (i := 1044) (by decide +kernel), List.mem_of_getElem? (i := 1045) (by decide +kernel)⟩
theorem lw_p49 : lw_okq (⟨"LevelLaddersModel", "endsAsNought", "(II)Z"⟩, 34) := ⟨⟨by decide +kernel, by decide +kernel⟩, List.mem_of_getElem? (i := 711) (by decide +kernel), List.mem_of_getElem? (i := 1053) (by decide +kernel), List.mem_of_getElem? (i := 1054) (by decide +kernel)⟩
theorem lw_p50 : lw_okq (⟨"LevelLaddersModel", "rowDone", "(II)V"⟩, 34) := ⟨⟨by decide +kernel, by decide +kernel⟩, List.mem_of_getElem? (i := 711) (by decide +kernel), List.mem_of_getElem? (i := 1066) (by decide +kernel), List.mem_of_getElem? (i := 1067) (by decide +kernel)⟩
theorem lw_p51 : lw_okq (⟨"LevelLaddersModel", "writes", "(I)V"⟩, 34) := ⟨⟨by decide +kernel, by decide +kernel⟩, List.mem_of_getElem? (i := 711) (by decide +kernel), List.mem_of_getElem? (i := 1074) (by decide +kernel), List.mem_of_getElem? (i := 1075) (by decide +kernel)⟩
theorem lw_p52 : lw_okq (⟨"LevelLaddersModel", "writesNumber", "(I)V"⟩, 34) := ⟨⟨by decide +kernel, by decide +kernel⟩, List.mem_of_getElem? (i := 711) (by decide +kernel), List.mem_of_getElem? (i := 1078) (by decide +kernel), List.mem_of_getElem? (i := 1079) (by decide +kernel)⟩
def lw_privs_4 : List (MethodName × Nat) := [(⟨"LevelLaddersModel", "isNought", "()Z"⟩, 34), (⟨"LevelLaddersModel", "endsAsNought", "(II)Z"⟩, 34), (⟨"LevelLaddersModel", "rowDone", "(II)V"⟩, 34), (⟨"LevelLaddersModel", "writes", "(I)V"⟩, 34), (⟨"LevelLaddersModel", "writesNumber", "(I)V"⟩, 34)]
theorem lw_r4 : ∀ q ∈ lw_privs_4, lw_okq q := List.forall_mem_cons.mpr ⟨lw_p48, List.forall_mem_cons.mpr ⟨lw_p49, List.forall_mem_cons.mpr ⟨lw_p50, List.forall_mem_cons.mpr ⟨lw_p51, List.forall_mem_cons.mpr ⟨lw_p52, fun _ h => absurd h List.not_mem_nil⟩⟩⟩⟩⟩
def lw_privs : List (MethodName × Nat) := lw_privs_1 ++ (lw_privs_2 ++ (lw_privs_3 ++ (lw_privs_4)))
def lw_tbl : List Cond := k2_sels lw_privs ++ tables_1
theorem lw_privs_ok : ∀ q ∈ lw_privs, lw_okq q := by
  show ∀ q ∈ lw_privs_1 ++ (lw_privs_2 ++ (lw_privs_3 ++ (lw_privs_4))), lw_okq q
  exact List.forall_mem_append.mpr ⟨lw_r1, List.forall_mem_append.mpr ⟨lw_r2, List.forall_mem_append.mpr ⟨lw_r3, lw_r4⟩⟩⟩
def RX0 : String := "LevelLadders$Charged"
def TX0 : u_T := fun k => match k with
  | _ => ("", "", "", false)
def tyX0 : Nat → FieldType := fun k => match k with
  | _ => .int
abbrev wsX00 : List Cond := u_ws RX0 TX0 0
theorem nmX0 : ∀ a, a < 0 → ∀ b, b < 0 → a ≠ b → (TX0 a).2.1 ≠ (TX0 b).2.1 := by decide +kernel
theorem tyX0_ok : ∀ k, k < 0 → parseFieldDescriptor (TX0 k).2.2.1 = some (tyX0 k) := by decide +kernel
abbrev cX0_init : ByteArray := prog_2_method_1_code
def yX0_init : MethodName := ⟨RX0, "<init>", "()V"⟩
abbrev cX0_centre : ByteArray := prog_2_method_2_code
def yX0_centre : MethodName := ⟨RX0, "centre", "(III)I"⟩
def RX1 : String := "LevelLadders$Free"
def TX1 : u_T := fun k => match k with
  | _ => ("", "", "", false)
def tyX1 : Nat → FieldType := fun k => match k with
  | _ => .int
abbrev wsX10 : List Cond := u_ws RX1 TX1 0
theorem nmX1 : ∀ a, a < 0 → ∀ b, b < 0 → a ≠ b → (TX1 a).2.1 ≠ (TX1 b).2.1 := by decide +kernel
theorem tyX1_ok : ∀ k, k < 0 → parseFieldDescriptor (TX1 k).2.2.1 = some (tyX1 k) := by decide +kernel
abbrev cX1_init : ByteArray := prog_3_method_1_code
def yX1_init : MethodName := ⟨RX1, "<init>", "()V"⟩
abbrev cX1_slope : ByteArray := prog_3_method_2_code
def yX1_slope : MethodName := ⟨RX1, "slope", "(II)I"⟩
abbrev cX1_centre : ByteArray := prog_3_method_3_code
def yX1_centre : MethodName := ⟨RX1, "centre", "(III)I"⟩
def RX2 : String := "LevelLadders$Grid"
def TX2 : u_T := fun k => match k with
  | 0 => ("LevelLadders$Grid", "cells", "[I", true)
  | 1 => ("LevelLadders$Grid", "pivotRows", "[I", true)
  | 2 => ("LevelLadders$Grid", "rows", "I", false)
  | 3 => ("LevelLadders$Grid", "columns", "I", false)
  | 4 => ("LevelLadders$Grid", "found", "I", false)
  | _ => ("LevelLadders$Grid", "product", "I", false)
def tyX2 : Nat → FieldType := fun k => match k with
  | 0 => .array .int
  | 1 => .array .int
  | 2 => .int
  | 3 => .int
  | 4 => .int
  | _ => .int
abbrev wsX20 : List Cond := u_ws RX2 TX2 6
theorem nmX2 : ∀ a, a < 6 → ∀ b, b < 6 → a ≠ b → (TX2 a).2.1 ≠ (TX2 b).2.1 := by decide +kernel
theorem tyX2_ok : ∀ k, k < 6 → parseFieldDescriptor (TX2 k).2.2.1 = some (tyX2 k) := by decide +kernel
abbrev cX2_init : ByteArray := prog_4_method_1_code
def yX2_init : MethodName := ⟨RX2, "<init>", "()V"⟩
abbrev cX2_resize : ByteArray := prog_4_method_2_code
def yX2_resize : MethodName := ⟨RX2, "resize", "(II)V"⟩
abbrev cX2_store : ByteArray := prog_4_method_3_code
def yX2_store : MethodName := ⟨RX2, "store", "(III)V"⟩
abbrev cX2_reduce : ByteArray := prog_4_method_4_code
def yX2_reduce : MethodName := ⟨RX2, "reduce", "()V"⟩
abbrev cX2_pivotRow : ByteArray := prog_4_method_5_code
def yX2_pivotRow : MethodName := ⟨RX2, "pivotRow", "(I)I"⟩
abbrev cX2_exchange : ByteArray := prog_4_method_6_code
def yX2_exchange : MethodName := ⟨RX2, "exchange", "(II)V"⟩
abbrev cX2_multiplyRow : ByteArray := prog_4_method_7_code
def yX2_multiplyRow : MethodName := ⟨RX2, "multiplyRow", "(II)V"⟩
abbrev cX2_clearColumn : ByteArray := prog_4_method_8_code
def yX2_clearColumn : MethodName := ⟨RX2, "clearColumn", "(II)V"⟩
abbrev cX2_nullNumber : ByteArray := prog_4_method_9_code
def yX2_nullNumber : MethodName := ⟨RX2, "nullNumber", "(I)I"⟩
abbrev cX2_freeColumn : ByteArray := prog_4_method_10_code
def yX2_freeColumn : MethodName := ⟨RX2, "freeColumn", "()I"⟩
abbrev cX2_rawNullNumber : ByteArray := prog_4_method_11_code
def yX2_rawNullNumber : MethodName := ⟨RX2, "rawNullNumber", "(II)I"⟩
def RX3 : String := "LevelLadders$Ladder"
def TX3 : u_T := fun k => match k with
  | 0 => ("LevelLadders$Ladder", "kinds", "[LLevelLadders$Free;", true)
  | 1 => ("LevelLadders$Ladder", "built", "[I", true)
  | 2 => ("LevelLadders$Ladder", "top", "I", false)
  | 3 => ("LevelLadders$Ladder", "acts", "[I", true)
  | 4 => ("LevelLadders$Ladder", "forms", "[I", true)
  | 5 => ("LevelLadders$Ladder", "moved", "[I", true)
  | _ => ("LevelLadders$Ladder", "grid", "LLevelLadders$Grid;", true)
def tyX3 : Nat → FieldType := fun k => match k with
  | 0 => .array (.object "LevelLadders$Free")
  | 1 => .array .int
  | 2 => .int
  | 3 => .array .int
  | 4 => .array .int
  | 5 => .array .int
  | _ => .object "LevelLadders$Grid"
abbrev wsX30 : List Cond := u_ws RX3 TX3 7
theorem nmX3 : ∀ a, a < 7 → ∀ b, b < 7 → a ≠ b → (TX3 a).2.1 ≠ (TX3 b).2.1 := by decide +kernel
theorem tyX3_ok : ∀ k, k < 7 → parseFieldDescriptor (TX3 k).2.2.1 = some (tyX3 k) := by decide +kernel
abbrev cX3_init : ByteArray := prog_5_method_1_code
def yX3_init : MethodName := ⟨RX3, "<init>", "()V"⟩
abbrev cX3_kindOf : ByteArray := prog_5_method_2_code
def yX3_kindOf : MethodName := ⟨RX3, "kindOf", "([I)LLevelLadders$Free;"⟩
abbrev cX3_made : ByteArray := prog_5_method_3_code
def yX3_made : MethodName := ⟨RX3, "made", "(II)I"⟩
abbrev cX3_formed : ByteArray := prog_5_method_4_code
def yX3_formed : MethodName := ⟨RX3, "formed", "(II)I"⟩
abbrev cX3_build : ByteArray := prog_5_method_5_code
def yX3_build : MethodName := ⟨RX3, "build", "([II)V"⟩
abbrev cX3_isBuilt : ByteArray := prog_5_method_6_code
def yX3_isBuilt : MethodName := ⟨RX3, "isBuilt", "([I)Z"⟩
abbrev cX3_fillActs : ByteArray := prog_5_method_7_code
def yX3_fillActs : MethodName := ⟨RX3, "fillActs", "(III)V"⟩
abbrev cX3_joined : ByteArray := prog_5_method_8_code
def yX3_joined : MethodName := ⟨RX3, "joined", "(III)I"⟩
abbrev cX3_exchanged : ByteArray := prog_5_method_9_code
def yX3_exchanged : MethodName := ⟨RX3, "exchanged", "(III)I"⟩
abbrev cX3_fillForms : ByteArray := prog_5_method_10_code
def yX3_fillForms : MethodName := ⟨RX3, "fillForms", "(I)V"⟩
abbrev cX3_move : ByteArray := prog_5_method_11_code
def yX3_move : MethodName := ⟨RX3, "move", "(LLevelLadders$Vector;I)V"⟩
abbrev cX3_productOf : ByteArray := prog_5_method_12_code
def yX3_productOf : MethodName := ⟨RX3, "productOf", "(LLevelLadders$Vector;LLevelLadders$Vector;)I"⟩
abbrev cX3_reducedForms : ByteArray := prog_5_method_13_code
def yX3_reducedForms : MethodName := ⟨RX3, "reducedForms", "(I)LLevelLadders$Grid;"⟩
abbrev cX3_reducedLowerings : ByteArray := prog_5_method_14_code
def yX3_reducedLowerings : MethodName := ⟨RX3, "reducedLowerings", "(I)LLevelLadders$Grid;"⟩
def RX4 : String := "LevelLadders$State"
def TX4 : u_T := fun k => match k with
  | 0 => ("LevelLadders$State", "law", "[I", true)
  | 1 => ("LevelLadders$State", "vectors", "[LLevelLadders$Vector;", true)
  | 2 => ("LevelLadders$State", "rowWhats", "[I", true)
  | 3 => ("LevelLadders$State", "rowNumbers", "[I", true)
  | _ => ("LevelLadders$State", "rows", "I", false)
def tyX4 : Nat → FieldType := fun k => match k with
  | 0 => .array .int
  | 1 => .array (.object "LevelLadders$Vector")
  | 2 => .array .int
  | 3 => .array .int
  | _ => .int
abbrev wsX40 : List Cond := u_ws RX4 TX4 5
theorem nmX4 : ∀ a, a < 5 → ∀ b, b < 5 → a ≠ b → (TX4 a).2.1 ≠ (TX4 b).2.1 := by decide +kernel
theorem tyX4_ok : ∀ k, k < 5 → parseFieldDescriptor (TX4 k).2.2.1 = some (tyX4 k) := by decide +kernel
abbrev cX4_init : ByteArray := prog_6_method_1_code
def yX4_init : MethodName := ⟨RX4, "<init>", "()V"⟩
abbrev cX4_copyFrom : ByteArray := prog_6_method_2_code
def yX4_copyFrom : MethodName := ⟨RX4, "copyFrom", "(LLevelLadders$State;)V"⟩
abbrev cX4_filledNumbers : ByteArray := prog_6_method_3_code
def yX4_filledNumbers : MethodName := ⟨RX4, "filledNumbers", "()I"⟩
def RX5 : String := "LevelLadders$Strings"
def TX5 : u_T := fun k => match k with
  | _ => ("", "", "", false)
def tyX5 : Nat → FieldType := fun k => match k with
  | _ => .int
abbrev wsX50 : List Cond := u_ws RX5 TX5 0
theorem nmX5 : ∀ a, a < 0 → ∀ b, b < 0 → a ≠ b → (TX5 a).2.1 ≠ (TX5 b).2.1 := by decide +kernel
theorem tyX5_ok : ∀ k, k < 0 → parseFieldDescriptor (TX5 k).2.2.1 = some (tyX5 k) := by decide +kernel
abbrev cX5_init : ByteArray := prog_7_method_1_code
def yX5_init : MethodName := ⟨RX5, "<init>", "()V"⟩
abbrev cX5_slope : ByteArray := prog_7_method_2_code
def yX5_slope : MethodName := ⟨RX5, "slope", "(II)I"⟩
abbrev cX5_centre : ByteArray := prog_7_method_3_code
def yX5_centre : MethodName := ⟨RX5, "centre", "(III)I"⟩
def RX6 : String := "LevelLadders$Sweep"
def TX6 : u_T := fun k => match k with
  | 0 => ("LevelLadders$Sweep", "values", "[I", true)
  | 1 => ("LevelLadders$Sweep", "known", "[Z", true)
  | 2 => ("LevelLadders$Sweep", "trial", "[I", true)
  | _ => ("LevelLadders$Sweep", "edge", "[I", true)
def tyX6 : Nat → FieldType := fun k => match k with
  | 0 => .array .int
  | 1 => .array .boolean
  | 2 => .array .int
  | _ => .array .int
abbrev wsX60 : List Cond := u_ws RX6 TX6 4
theorem nmX6 : ∀ a, a < 4 → ∀ b, b < 4 → a ≠ b → (TX6 a).2.1 ≠ (TX6 b).2.1 := by decide +kernel
theorem tyX6_ok : ∀ k, k < 4 → parseFieldDescriptor (TX6 k).2.2.1 = some (tyX6 k) := by decide +kernel
abbrev cX6_init : ByteArray := prog_8_method_1_code
def yX6_init : MethodName := ⟨RX6, "<init>", "()V"⟩
abbrev cX6_learn : ByteArray := prog_8_method_2_code
def yX6_learn : MethodName := ⟨RX6, "learn", "(LLevelLadders$Ladder;[II)V"⟩
abbrev cX6_extend : ByteArray := prog_8_method_3_code
def yX6_extend : MethodName := ⟨RX6, "extend", "(II)V"⟩
abbrev cX6_howMany : ByteArray := prog_8_method_4_code
def yX6_howMany : MethodName := ⟨RX6, "howMany", "(II)I"⟩
abbrev cX6_weight : ByteArray := prog_8_method_5_code
def yX6_weight : MethodName := ⟨RX6, "weight", "(III)I"⟩
def RX7 : String := "LevelLadders$Text"
def TX7 : u_T := fun k => match k with
  | 0 => ("LevelLadders$Text", "bytes", "[B", true)
  | 1 => ("LevelLadders$Text", "size", "I", false)
  | 2 => ("LevelLadders$Text", "place", "I", false)
  | 3 => ("LevelLadders$Text", "number", "I", false)
  | 4 => ("LevelLadders$Text", "modes", "[I", true)
  | _ => ("LevelLadders$Text", "modeCount", "I", false)
def tyX7 : Nat → FieldType := fun k => match k with
  | 0 => .array .byte
  | 1 => .int
  | 2 => .int
  | 3 => .int
  | 4 => .array .int
  | _ => .int
abbrev wsX70 : List Cond := u_ws RX7 TX7 6
theorem nmX7 : ∀ a, a < 6 → ∀ b, b < 6 → a ≠ b → (TX7 a).2.1 ≠ (TX7 b).2.1 := by decide +kernel
theorem tyX7_ok : ∀ k, k < 6 → parseFieldDescriptor (TX7 k).2.2.1 = some (tyX7 k) := by decide +kernel
abbrev cX7_init : ByteArray := prog_9_method_1_code
def yX7_init : MethodName := ⟨RX7, "<init>", "(I)V"⟩
abbrev cX7_clear : ByteArray := prog_9_method_2_code
def yX7_clear : MethodName := ⟨RX7, "clear", "()V"⟩
abbrev cX7_append : ByteArray := prog_9_method_3_code
def yX7_append : MethodName := ⟨RX7, "append", "(I)Z"⟩
abbrev cX7_fault : ByteArray := prog_9_method_4_code
def yX7_fault : MethodName := ⟨RX7, "fault", "()I"⟩
abbrev cX7_next : ByteArray := prog_9_method_5_code
def yX7_next : MethodName := ⟨RX7, "next", "(II)I"⟩
abbrev cX7_modeBegun : ByteArray := prog_9_method_6_code
def yX7_modeBegun : MethodName := ⟨RX7, "modeBegun", "(I)I"⟩
abbrev cX7_isFigure : ByteArray := prog_9_method_7_code
def yX7_isFigure : MethodName := ⟨RX7, "isFigure", "(III)Z"⟩
abbrev cX7_rewind : ByteArray := prog_9_method_8_code
def yX7_rewind : MethodName := ⟨RX7, "rewind", "()V"⟩
abbrev cX7_nextTerm : ByteArray := prog_9_method_9_code
def yX7_nextTerm : MethodName := ⟨RX7, "nextTerm", "()Z"⟩
abbrev cX7_addMode : ByteArray := prog_9_method_10_code
def yX7_addMode : MethodName := ⟨RX7, "addMode", "(I)V"⟩
abbrev cX7_termLevel : ByteArray := prog_9_method_11_code
def yX7_termLevel : MethodName := ⟨RX7, "termLevel", "()I"⟩
abbrev cX7_appendTerms : ByteArray := prog_9_method_12_code
def yX7_appendTerms : MethodName := ⟨RX7, "appendTerms", "(LLevelLadders$Vector;)V"⟩
abbrev cX7_appendTerm : ByteArray := prog_9_method_13_code
def yX7_appendTerm : MethodName := ⟨RX7, "appendTerm", "(II)V"⟩
abbrev cX7_appendNumber : ByteArray := prog_9_method_14_code
def yX7_appendNumber : MethodName := ⟨RX7, "appendNumber", "(I)V"⟩
def RX8 : String := "LevelLadders$Turned"
def TX8 : u_T := fun k => match k with
  | _ => ("", "", "", false)
def tyX8 : Nat → FieldType := fun k => match k with
  | _ => .int
abbrev wsX80 : List Cond := u_ws RX8 TX8 0
theorem nmX8 : ∀ a, a < 0 → ∀ b, b < 0 → a ≠ b → (TX8 a).2.1 ≠ (TX8 b).2.1 := by decide +kernel
theorem tyX8_ok : ∀ k, k < 0 → parseFieldDescriptor (TX8 k).2.2.1 = some (tyX8 k) := by decide +kernel
abbrev cX8_init : ByteArray := prog_10_method_1_code
def yX8_init : MethodName := ⟨RX8, "<init>", "()V"⟩
abbrev cX8_slope : ByteArray := prog_10_method_2_code
def yX8_slope : MethodName := ⟨RX8, "slope", "(II)I"⟩
abbrev cX8_centre : ByteArray := prog_10_method_3_code
def yX8_centre : MethodName := ⟨RX8, "centre", "(III)I"⟩
def RX9 : String := "LevelLadders$Twice"
def TX9 : u_T := fun k => match k with
  | _ => ("", "", "", false)
def tyX9 : Nat → FieldType := fun k => match k with
  | _ => .int
abbrev wsX90 : List Cond := u_ws RX9 TX9 0
theorem nmX9 : ∀ a, a < 0 → ∀ b, b < 0 → a ≠ b → (TX9 a).2.1 ≠ (TX9 b).2.1 := by decide +kernel
theorem tyX9_ok : ∀ k, k < 0 → parseFieldDescriptor (TX9 k).2.2.1 = some (tyX9 k) := by decide +kernel
abbrev cX9_init : ByteArray := prog_11_method_1_code
def yX9_init : MethodName := ⟨RX9, "<init>", "()V"⟩
abbrev cX9_centre : ByteArray := prog_11_method_2_code
def yX9_centre : MethodName := ⟨RX9, "centre", "(III)I"⟩
def RX10 : String := "LevelLadders$Vector"
def TX10 : u_T := fun k => match k with
  | 0 => ("LevelLadders$Vector", "height", "I", false)
  | _ => ("LevelLadders$Vector", "numbers", "[I", true)
def tyX10 : Nat → FieldType := fun k => match k with
  | 0 => .int
  | _ => .array .int
abbrev wsX100 : List Cond := u_ws RX10 TX10 2
theorem nmX10 : ∀ a, a < 2 → ∀ b, b < 2 → a ≠ b → (TX10 a).2.1 ≠ (TX10 b).2.1 := by decide +kernel
theorem tyX10_ok : ∀ k, k < 2 → parseFieldDescriptor (TX10 k).2.2.1 = some (tyX10 k) := by decide +kernel
abbrev cX10_init : ByteArray := prog_12_method_1_code
def yX10_init : MethodName := ⟨RX10, "<init>", "()V"⟩
abbrev cX10_copyFrom : ByteArray := prog_12_method_2_code
def yX10_copyFrom : MethodName := ⟨RX10, "copyFrom", "(LLevelLadders$Vector;)V"⟩
abbrev cX10_becomeZero : ByteArray := prog_12_method_3_code
def yX10_becomeZero : MethodName := ⟨RX10, "becomeZero", "(I)V"⟩
abbrev cX10_becomeBasis : ByteArray := prog_12_method_4_code
def yX10_becomeBasis : MethodName := ⟨RX10, "becomeBasis", "(II)V"⟩
abbrev cX10_addTimes : ByteArray := prog_12_method_5_code
def yX10_addTimes : MethodName := ⟨RX10, "addTimes", "(LLevelLadders$Vector;I)V"⟩
abbrev cX10_multiply : ByteArray := prog_12_method_6_code
def yX10_multiply : MethodName := ⟨RX10, "multiply", "(I)V"⟩
abbrev cX10_filled : ByteArray := prog_12_method_7_code
def yX10_filled : MethodName := ⟨RX10, "filled", "()I"⟩
abbrev cX10_isZero : ByteArray := prog_12_method_8_code
def yX10_isZero : MethodName := ⟨RX10, "isZero", "()Z"⟩
def RX11 : String := "LevelLadders"
def TX11 : u_T := fun k => match k with
  | 0 => ("LevelLadders", "now", "LLevelLadders$State;", true)
  | 1 => ("LevelLadders", "kept", "LLevelLadders$State;", true)
  | 2 => ("LevelLadders", "hasImage", "Z", false)
  | 3 => ("LevelLadders", "ladder", "LLevelLadders$Ladder;", true)
  | 4 => ("LevelLadders", "sweep", "LLevelLadders$Sweep;", true)
  | 5 => ("LevelLadders", "tape", "LLevelLadders$Text;", true)
  | 6 => ("LevelLadders", "page", "LLevelLadders$Text;", true)
  | 7 => ("LevelLadders", "thought", "LLevelLadders$Vector;", true)
  | 8 => ("LevelLadders", "sum", "LLevelLadders$Vector;", true)
  | 9 => ("LevelLadders", "lists", "[[J", true)
  | _ => ("LevelLadders", "listSizes", "[I", true)
def tyX11 : Nat → FieldType := fun k => match k with
  | 0 => .object "LevelLadders$State"
  | 1 => .object "LevelLadders$State"
  | 2 => .boolean
  | 3 => .object "LevelLadders$Ladder"
  | 4 => .object "LevelLadders$Sweep"
  | 5 => .object "LevelLadders$Text"
  | 6 => .object "LevelLadders$Text"
  | 7 => .object "LevelLadders$Vector"
  | 8 => .object "LevelLadders$Vector"
  | 9 => .array (.array .long)
  | _ => .array .int
abbrev wsX110 : List Cond := u_ws RX11 TX11 11
theorem nmX11 : ∀ a, a < 11 → ∀ b, b < 11 → a ≠ b → (TX11 a).2.1 ≠ (TX11 b).2.1 := by decide +kernel
theorem tyX11_ok : ∀ k, k < 11 → parseFieldDescriptor (TX11 k).2.2.1 = some (tyX11 k) := by decide +kernel
abbrev cX11_init : ByteArray := prog_1_method_1_code
def yX11_init : MethodName := ⟨RX11, "<init>", "()V"⟩
abbrev cX11_set : ByteArray := prog_1_method_2_code
def yX11_set : MethodName := ⟨RX11, "set", "(II)I"⟩
abbrev cX11_of : ByteArray := prog_1_method_3_code
def yX11_of : MethodName := ⟨RX11, "of", "(I)I"⟩
abbrev cX11_bracket : ByteArray := prog_1_method_4_code
def yX11_bracket : MethodName := ⟨RX11, "bracket", "(III)I"⟩
abbrev cX11_partition : ByteArray := prog_1_method_5_code
def yX11_partition : MethodName := ⟨RX11, "partition", "(III)I"⟩
abbrev cX11_act : ByteArray := prog_1_method_6_code
def yX11_act : MethodName := ⟨RX11, "act", "(IIII)I"⟩
abbrev cX11_form : ByteArray := prog_1_method_7_code
def yX11_form : MethodName := ⟨RX11, "form", "(III)I"⟩
abbrev cX11_determinant : ByteArray := prog_1_method_8_code
def yX11_determinant : MethodName := ⟨RX11, "determinant", "(I)I"⟩
abbrev cX11_rank : ByteArray := prog_1_method_9_code
def yX11_rank : MethodName := ⟨RX11, "rank", "(I)I"⟩
abbrev cX11_zeros : ByteArray := prog_1_method_10_code
def yX11_zeros : MethodName := ⟨RX11, "zeros", "(II)I"⟩
abbrev cX11_vanishing : ByteArray := prog_1_method_11_code
def yX11_vanishing : MethodName := ⟨RX11, "vanishing", "(II)I"⟩
abbrev cX11_were : ByteArray := prog_1_method_12_code
def yX11_were : MethodName := ⟨RX11, "were", "(III)I"⟩
abbrev cX11_feed : ByteArray := prog_1_method_13_code
def yX11_feed : MethodName := ⟨RX11, "feed", "(I)I"⟩
abbrev cX11_read : ByteArray := prog_1_method_14_code
def yX11_read : MethodName := ⟨RX11, "read", "(I)I"⟩
abbrev cX11_become : ByteArray := prog_1_method_15_code
def yX11_become : MethodName := ⟨RX11, "become", "(III)I"⟩
abbrev cX11_level : ByteArray := prog_1_method_16_code
def yX11_level : MethodName := ⟨RX11, "level", "(I)I"⟩
abbrev cX11_coordinate : ByteArray := prog_1_method_17_code
def yX11_coordinate : MethodName := ⟨RX11, "coordinate", "(II)I"⟩
abbrev cX11_put : ByteArray := prog_1_method_18_code
def yX11_put : MethodName := ⟨RX11, "put", "(III)I"⟩
abbrev cX11_raise : ByteArray := prog_1_method_19_code
def yX11_raise : MethodName := ⟨RX11, "raise", "(II)I"⟩
abbrev cX11_add : ByteArray := prog_1_method_20_code
def yX11_add : MethodName := ⟨RX11, "add", "(III)I"⟩
abbrev cX11_product : ByteArray := prog_1_method_21_code
def yX11_product : MethodName := ⟨RX11, "product", "(II)I"⟩
abbrev cX11_isLowest : ByteArray := prog_1_method_22_code
def yX11_isLowest : MethodName := ⟨RX11, "isLowest", "(I)I"⟩
abbrev cX11_odds : ByteArray := prog_1_method_23_code
def yX11_odds : MethodName := ⟨RX11, "odds", "(IIII)J"⟩
abbrev cX11_plan : ByteArray := prog_1_method_24_code
def yX11_plan : MethodName := ⟨RX11, "plan", "(II)I"⟩
abbrev cX11_behind : ByteArray := prog_1_method_25_code
def yX11_behind : MethodName := ⟨RX11, "behind", "(II)I"⟩
abbrev cX11_write : ByteArray := prog_1_method_26_code
def yX11_write : MethodName := ⟨RX11, "write", "(I)I"⟩
abbrev cX11_paper : ByteArray := prog_1_method_27_code
def yX11_paper : MethodName := ⟨RX11, "paper", "(I)I"⟩
abbrev cX11_judge : ByteArray := prog_1_method_28_code
def yX11_judge : MethodName := ⟨RX11, "judge", "(II)I"⟩
abbrev cX11_list : ByteArray := prog_1_method_29_code
def yX11_list : MethodName := ⟨RX11, "list", "(II)I"⟩
abbrev cX11_lay : ByteArray := prog_1_method_30_code
def yX11_lay : MethodName := ⟨RX11, "lay", "(IIJ)I"⟩
abbrev cX11_get : ByteArray := prog_1_method_31_code
def yX11_get : MethodName := ⟨RX11, "get", "(II)J"⟩
abbrev cX11_image : ByteArray := prog_1_method_32_code
def yX11_image : MethodName := ⟨RX11, "image", "()I"⟩
abbrev cX11_undo : ByteArray := prog_1_method_33_code
def yX11_undo : MethodName := ⟨RX11, "undo", "()I"⟩
abbrev cX11_count : ByteArray := prog_1_method_34_code
def yX11_count : MethodName := ⟨RX11, "count", "(I)I"⟩
abbrev cX11_isWithin : ByteArray := prog_1_method_35_code
def yX11_isWithin : MethodName := ⟨RX11, "isWithin", "(II)Z"⟩
abbrev cX11_isMode : ByteArray := prog_1_method_36_code
def yX11_isMode : MethodName := ⟨RX11, "isMode", "(I)Z"⟩
abbrev cX11_isLevel : ByteArray := prog_1_method_37_code
def yX11_isLevel : MethodName := ⟨RX11, "isLevel", "(I)Z"⟩
abbrev cX11_isBasis : ByteArray := prog_1_method_38_code
def yX11_isBasis : MethodName := ⟨RX11, "isBasis", "(II)Z"⟩
abbrev cX11_isVector : ByteArray := prog_1_method_39_code
def yX11_isVector : MethodName := ⟨RX11, "isVector", "(I)Z"⟩
abbrev cX11_hasNumber : ByteArray := prog_1_method_40_code
def yX11_hasNumber : MethodName := ⟨RX11, "hasNumber", "(II)Z"⟩
abbrev cX11_isRowNumber : ByteArray := prog_1_method_41_code
def yX11_isRowNumber : MethodName := ⟨RX11, "isRowNumber", "(II)Z"⟩
abbrev cX11_part : ByteArray := prog_1_method_42_code
def yX11_part : MethodName := ⟨RX11, "part", "(II)I"⟩
abbrev cX11_modulo : ByteArray := prog_1_method_43_code
def yX11_modulo : MethodName := ⟨RX11, "modulo", "(I)I"⟩
abbrev cX11_inverse : ByteArray := prog_1_method_44_code
def yX11_inverse : MethodName := ⟨RX11, "inverse", "(I)I"⟩
abbrev cX11_commonDivisor : ByteArray := prog_1_method_45_code
def yX11_commonDivisor : MethodName := ⟨RX11, "commonDivisor", "(II)I"⟩
abbrev cX11_sumOfTerms : ByteArray := prog_1_method_46_code
def yX11_sumOfTerms : MethodName := ⟨RX11, "sumOfTerms", "()I"⟩
abbrev cX11_addTerm : ByteArray := prog_1_method_47_code
def yX11_addTerm : MethodName := ⟨RX11, "addTerm", "()V"⟩
abbrev cX11_endsAsZero : ByteArray := prog_1_method_48_code
def yX11_endsAsZero : MethodName := ⟨RX11, "endsAsZero", "(II)Z"⟩
abbrev cX11_doRow : ByteArray := prog_1_method_49_code
def yX11_doRow : MethodName := ⟨RX11, "doRow", "(II)V"⟩
def RX12 : String := "LevelLaddersModel"
def TX12 : u_T := fun k => match k with
  | 0 => ("LevelLaddersModel", "law", "[I", true)
  | 1 => ("LevelLaddersModel", "firstOf", "[I", true)
  | 2 => ("LevelLaddersModel", "levelOf", "[I", true)
  | 3 => ("LevelLaddersModel", "longOf", "[I", true)
  | 4 => ("LevelLaddersModel", "number", "[I", true)
  | 5 => ("LevelLaddersModel", "level", "[I", true)
  | 6 => ("LevelLaddersModel", "at", "[I", true)
  | 7 => ("LevelLaddersModel", "tape", "[I", true)
  | 8 => ("LevelLaddersModel", "taped", "I", false)
  | 9 => ("LevelLaddersModel", "paper", "[I", true)
  | 10 => ("LevelLaddersModel", "papers", "I", false)
  | 11 => ("LevelLaddersModel", "rows", "I", false)
  | 12 => ("LevelLaddersModel", "rowWhat", "[I", true)
  | 13 => ("LevelLaddersModel", "rowBy", "[I", true)
  | 14 => ("LevelLaddersModel", "size", "[I", true)
  | 15 => ("LevelLaddersModel", "cell", "[J", true)
  | 16 => ("LevelLaddersModel", "made", "[I", true)
  | 17 => ("LevelLaddersModel", "thoughtLevel", "I", false)
  | 18 => ("LevelLaddersModel", "thought", "[I", true)
  | 19 => ("LevelLaddersModel", "between", "[I", true)
  | 20 => ("LevelLaddersModel", "table", "[I", true)
  | 21 => ("LevelLaddersModel", "tableRows", "I", false)
  | 22 => ("LevelLaddersModel", "pivots", "I", false)
  | 23 => ("LevelLaddersModel", "pivotAt", "[I", true)
  | 24 => ("LevelLaddersModel", "measure", "I", false)
  | 25 => ("LevelLaddersModel", "next", "I", false)
  | 26 => ("LevelLaddersModel", "terms", "I", false)
  | 27 => ("LevelLaddersModel", "termBy", "[I", true)
  | 28 => ("LevelLaddersModel", "termFrom", "[I", true)
  | 29 => ("LevelLaddersModel", "modes", "I", false)
  | 30 => ("LevelLaddersModel", "mode", "[I", true)
  | 31 => ("LevelLaddersModel", "sum", "[I", true)
  | 32 => ("LevelLaddersModel", "hasImage", "Z", false)
  | _ => ("LevelLaddersModel", "imaged", "[I", true)
def tyX12 : Nat → FieldType := fun k => match k with
  | 0 => .array .int
  | 1 => .array .int
  | 2 => .array .int
  | 3 => .array .int
  | 4 => .array .int
  | 5 => .array .int
  | 6 => .array .int
  | 7 => .array .int
  | 8 => .int
  | 9 => .array .int
  | 10 => .int
  | 11 => .int
  | 12 => .array .int
  | 13 => .array .int
  | 14 => .array .int
  | 15 => .array .long
  | 16 => .array .int
  | 17 => .int
  | 18 => .array .int
  | 19 => .array .int
  | 20 => .array .int
  | 21 => .int
  | 22 => .int
  | 23 => .array .int
  | 24 => .int
  | 25 => .int
  | 26 => .int
  | 27 => .array .int
  | 28 => .array .int
  | 29 => .int
  | 30 => .array .int
  | 31 => .array .int
  | 32 => .boolean
  | _ => .array .int
abbrev wsX120 : List Cond := u_ws RX12 TX12 34
theorem nmX12 : ∀ a, a < 34 → ∀ b, b < 34 → a ≠ b → (TX12 a).2.1 ≠ (TX12 b).2.1 := by decide +kernel
theorem tyX12_ok : ∀ k, k < 34 → parseFieldDescriptor (TX12 k).2.2.1 = some (tyX12 k) := by decide +kernel
abbrev cX12_init : ByteArray := prog_14_method_1_code
def yX12_init : MethodName := ⟨RX12, "<init>", "()V"⟩
abbrev cX12_follows : ByteArray := prog_14_method_2_code
def yX12_follows : MethodName := ⟨RX12, "follows", "(I)V"⟩
abbrev cX12_in : ByteArray := prog_14_method_3_code
def yX12_in : MethodName := ⟨RX12, "in", "(III)Z"⟩
abbrev cX12_mod : ByteArray := prog_14_method_4_code
def yX12_mod : MethodName := ⟨RX12, "mod", "(I)I"⟩
abbrev cX12_inverse : ByteArray := prog_14_method_5_code
def yX12_inverse : MethodName := ⟨RX12, "inverse", "(I)I"⟩
abbrev cX12_isLevel : ByteArray := prog_14_method_6_code
def yX12_isLevel : MethodName := ⟨RX12, "isLevel", "(I)Z"⟩
abbrev cX12_isMode : ByteArray := prog_14_method_7_code
def yX12_isMode : MethodName := ⟨RX12, "isMode", "(I)Z"⟩
abbrev cX12_many : ByteArray := prog_14_method_8_code
def yX12_many : MethodName := ⟨RX12, "many", "(I)I"⟩
abbrev cX12_isOf : ByteArray := prog_14_method_9_code
def yX12_isOf : MethodName := ⟨RX12, "isOf", "(II)Z"⟩
abbrev cX12_isVector : ByteArray := prog_14_method_10_code
def yX12_isVector : MethodName := ⟨RX12, "isVector", "(I)Z"⟩
abbrev cX12_set : ByteArray := prog_14_method_11_code
def yX12_set : MethodName := ⟨RX12, "set", "(II)I"⟩
abbrev cX12_of : ByteArray := prog_14_method_12_code
def yX12_of : MethodName := ⟨RX12, "of", "(I)I"⟩
abbrev cX12_slope : ByteArray := prog_14_method_13_code
def yX12_slope : MethodName := ⟨RX12, "slope", "(II)I"⟩
abbrev cX12_centre : ByteArray := prog_14_method_14_code
def yX12_centre : MethodName := ⟨RX12, "centre", "(I)I"⟩
abbrev cX12_bracket : ByteArray := prog_14_method_15_code
def yX12_bracket : MethodName := ⟨RX12, "bracket", "(III)I"⟩
abbrev cX12_row : ByteArray := prog_14_method_16_code
def yX12_row : MethodName := ⟨RX12, "row", "(II)I"⟩
abbrev cX12_placeOf : ByteArray := prog_14_method_17_code
def yX12_placeOf : MethodName := ⟨RX12, "placeOf", "(III)I"⟩
abbrev cX12_addsTo : ByteArray := prog_14_method_18_code
def yX12_addsTo : MethodName := ⟨RX12, "addsTo", "(IIII)V"⟩
abbrev cX12_lays : ByteArray := prog_14_method_19_code
def yX12_lays : MethodName := ⟨RX12, "lays", "(II)V"⟩
abbrev cX12_layAll : ByteArray := prog_14_method_20_code
def yX12_layAll : MethodName := ⟨RX12, "layAll", "()V"⟩
abbrev cX12_thinks : ByteArray := prog_14_method_21_code
def yX12_thinks : MethodName := ⟨RX12, "thinks", "(II)V"⟩
abbrev cX12_thinksOf : ByteArray := prog_14_method_22_code
def yX12_thinksOf : MethodName := ⟨RX12, "thinksOf", "(I)V"⟩
abbrev cX12_goes : ByteArray := prog_14_method_23_code
def yX12_goes : MethodName := ⟨RX12, "goes", "(I)V"⟩
abbrev cX12_isNought : ByteArray := prog_14_method_24_code
def yX12_isNought : MethodName := ⟨RX12, "isNought", "()Z"⟩
abbrev cX12_partition : ByteArray := prog_14_method_25_code
def yX12_partition : MethodName := ⟨RX12, "partition", "(III)I"⟩
abbrev cX12_act : ByteArray := prog_14_method_26_code
def yX12_act : MethodName := ⟨RX12, "act", "(IIII)I"⟩
abbrev cX12_formOf : ByteArray := prog_14_method_27_code
def yX12_formOf : MethodName := ⟨RX12, "formOf", "(III)I"⟩
abbrev cX12_form : ByteArray := prog_14_method_28_code
def yX12_form : MethodName := ⟨RX12, "form", "(III)I"⟩
abbrev cX12_changes : ByteArray := prog_14_method_29_code
def yX12_changes : MethodName := ⟨RX12, "changes", "(II)V"⟩
abbrev cX12_clears : ByteArray := prog_14_method_30_code
def yX12_clears : MethodName := ⟨RX12, "clears", "(III)V"⟩
abbrev cX12_steps : ByteArray := prog_14_method_31_code
def yX12_steps : MethodName := ⟨RX12, "steps", "(I)V"⟩
abbrev cX12_layForms : ByteArray := prog_14_method_32_code
def yX12_layForms : MethodName := ⟨RX12, "layForms", "(I)V"⟩
abbrev cX12_determinant : ByteArray := prog_14_method_33_code
def yX12_determinant : MethodName := ⟨RX12, "determinant", "(I)I"⟩
abbrev cX12_rank : ByteArray := prog_14_method_34_code
def yX12_rank : MethodName := ⟨RX12, "rank", "(I)I"⟩
abbrev cX12_weighs : ByteArray := prog_14_method_35_code
def yX12_weighs : MethodName := ⟨RX12, "weighs", "(III)I"⟩
abbrev cX12_zeros : ByteArray := prog_14_method_36_code
def yX12_zeros : MethodName := ⟨RX12, "zeros", "(II)I"⟩
abbrev cX12_were : ByteArray := prog_14_method_37_code
def yX12_were : MethodName := ⟨RX12, "were", "(III)I"⟩
abbrev cX12_layLowering : ByteArray := prog_14_method_38_code
def yX12_layLowering : MethodName := ⟨RX12, "layLowering", "(I)V"⟩
abbrev cX12_vanishing : ByteArray := prog_14_method_39_code
def yX12_vanishing : MethodName := ⟨RX12, "vanishing", "(II)I"⟩
abbrev cX12_feed : ByteArray := prog_14_method_40_code
def yX12_feed : MethodName := ⟨RX12, "feed", "(I)I"⟩
abbrev cX12_takes : ByteArray := prog_14_method_41_code
def yX12_takes : MethodName := ⟨RX12, "takes", "(I)Z"⟩
abbrev cX12_isHere : ByteArray := prog_14_method_42_code
def yX12_isHere : MethodName := ⟨RX12, "isHere", "(II)Z"⟩
abbrev cX12_readNumber : ByteArray := prog_14_method_43_code
def yX12_readNumber : MethodName := ⟨RX12, "readNumber", "()V"⟩
abbrev cX12_readMode : ByteArray := prog_14_method_44_code
def yX12_readMode : MethodName := ⟨RX12, "readMode", "()Z"⟩
abbrev cX12_readTerm : ByteArray := prog_14_method_45_code
def yX12_readTerm : MethodName := ⟨RX12, "readTerm", "()Z"⟩
abbrev cX12_readTerms : ByteArray := prog_14_method_46_code
def yX12_readTerms : MethodName := ⟨RX12, "readTerms", "()Z"⟩
abbrev cX12_levelOfTerm : ByteArray := prog_14_method_47_code
def yX12_levelOfTerm : MethodName := ⟨RX12, "levelOfTerm", "(I)I"⟩
abbrev cX12_termDone : ByteArray := prog_14_method_48_code
def yX12_termDone : MethodName := ⟨RX12, "termDone", "(I)V"⟩
abbrev cX12_read : ByteArray := prog_14_method_49_code
def yX12_read : MethodName := ⟨RX12, "read", "(I)I"⟩
abbrev cX12_becomesThought : ByteArray := prog_14_method_50_code
def yX12_becomesThought : MethodName := ⟨RX12, "becomesThought", "(I)V"⟩
abbrev cX12_become : ByteArray := prog_14_method_51_code
def yX12_become : MethodName := ⟨RX12, "become", "(III)I"⟩
abbrev cX12_level : ByteArray := prog_14_method_52_code
def yX12_level : MethodName := ⟨RX12, "level", "(I)I"⟩
abbrev cX12_isCoordinate : ByteArray := prog_14_method_53_code
def yX12_isCoordinate : MethodName := ⟨RX12, "isCoordinate", "(II)Z"⟩
abbrev cX12_coordinate : ByteArray := prog_14_method_54_code
def yX12_coordinate : MethodName := ⟨RX12, "coordinate", "(II)I"⟩
abbrev cX12_put : ByteArray := prog_14_method_55_code
def yX12_put : MethodName := ⟨RX12, "put", "(III)I"⟩
abbrev cX12_raise : ByteArray := prog_14_method_56_code
def yX12_raise : MethodName := ⟨RX12, "raise", "(II)I"⟩
abbrev cX12_add : ByteArray := prog_14_method_57_code
def yX12_add : MethodName := ⟨RX12, "add", "(III)I"⟩
abbrev cX12_product : ByteArray := prog_14_method_58_code
def yX12_product : MethodName := ⟨RX12, "product", "(II)I"⟩
abbrev cX12_isLowest : ByteArray := prog_14_method_59_code
def yX12_isLowest : MethodName := ⟨RX12, "isLowest", "(I)I"⟩
abbrev cX12_endsAsNought : ByteArray := prog_14_method_60_code
def yX12_endsAsNought : MethodName := ⟨RX12, "endsAsNought", "(II)Z"⟩
abbrev cX12_odds : ByteArray := prog_14_method_61_code
def yX12_odds : MethodName := ⟨RX12, "odds", "(IIII)J"⟩
abbrev cX12_plan : ByteArray := prog_14_method_62_code
def yX12_plan : MethodName := ⟨RX12, "plan", "(II)I"⟩
abbrev cX12_rowDone : ByteArray := prog_14_method_63_code
def yX12_rowDone : MethodName := ⟨RX12, "rowDone", "(II)V"⟩
abbrev cX12_behind : ByteArray := prog_14_method_64_code
def yX12_behind : MethodName := ⟨RX12, "behind", "(II)I"⟩
abbrev cX12_writes : ByteArray := prog_14_method_65_code
def yX12_writes : MethodName := ⟨RX12, "writes", "(I)V"⟩
abbrev cX12_writesNumber : ByteArray := prog_14_method_66_code
def yX12_writesNumber : MethodName := ⟨RX12, "writesNumber", "(I)V"⟩
abbrev cX12_write : ByteArray := prog_14_method_67_code
def yX12_write : MethodName := ⟨RX12, "write", "(I)I"⟩
abbrev cX12_paper : ByteArray := prog_14_method_68_code
def yX12_paper : MethodName := ⟨RX12, "paper", "(I)I"⟩
abbrev cX12_isList : ByteArray := prog_14_method_69_code
def yX12_isList : MethodName := ⟨RX12, "isList", "(I)Z"⟩
abbrev cX12_judge : ByteArray := prog_14_method_70_code
def yX12_judge : MethodName := ⟨RX12, "judge", "(II)I"⟩
abbrev cX12_list : ByteArray := prog_14_method_71_code
def yX12_list : MethodName := ⟨RX12, "list", "(II)I"⟩
abbrev cX12_lay : ByteArray := prog_14_method_72_code
def yX12_lay : MethodName := ⟨RX12, "lay", "(IIJ)I"⟩
abbrev cX12_get : ByteArray := prog_14_method_73_code
def yX12_get : MethodName := ⟨RX12, "get", "(II)J"⟩
abbrev cX12_image : ByteArray := prog_14_method_74_code
def yX12_image : MethodName := ⟨RX12, "image", "()I"⟩
abbrev cX12_undo : ByteArray := prog_14_method_75_code
def yX12_undo : MethodName := ⟨RX12, "undo", "()I"⟩
abbrev cX12_count : ByteArray := prog_14_method_76_code
def yX12_count : MethodName := ⟨RX12, "count", "(I)I"⟩
def RJ9 : String := "java/lang/Math"
abbrev cJ9_floorMod_7cf53 : ByteArray := prog_15_method_50_code
def yJ9_floorMod_7cf53 : MethodName := ⟨RJ9, "floorMod", "(II)I"⟩
abbrev cJ9_max_7cf53 : ByteArray := prog_15_method_65_code
def yJ9_max_7cf53 : MethodName := ⟨RJ9, "max", "(II)I"⟩
abbrev cJ9_min_7cf53 : ByteArray := prog_15_method_69_code
def yJ9_min_7cf53 : MethodName := ⟨RJ9, "min", "(II)I"⟩
def RJ10 : String := "java/lang/System"
def RL : String := "LevelLaddersLaw"
abbrev cL_law : ByteArray := code
def yL_law : MethodName := ⟨RL, "law", "([I)Z"⟩
abbrev vwCl : List vw_C := [(RX0, TX0, 0), (RX1, TX1, 0), (RX2, TX2, 6), (RX3, TX3, 7), (RX4, TX4, 5), (RX5, TX5, 0), (RX6, TX6, 4), (RX7, TX7, 6), (RX8, TX8, 0), (RX9, TX9, 0), (RX10, TX10, 2), (RX11, TX11, 11), (RX12, TX12, 34)]
