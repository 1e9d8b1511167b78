section
-- ===== PART A: goes FIRST, ahead of the names: the tables' words, and 'selects' of the private methods out of them =====
/-- a private method of a class that the tables say can be made, by its rows of tables_1 -/
def lw_okq (q : MethodName × Nat) : Prop := (q.1.cls ≠ "java/lang/invoke/MethodHandle" ∧ q.1.cls ≠ "java/lang/invoke/VarHandle") ∧ Cond.instantiable q.1.cls q.2 ∈ tables_1 ∧ Cond.privateMethod q.1 ∈ tables_1 ∧ Cond.instanceMethod q.1 ∈ tables_1
theorem lw_p0 : lw_okq (⟨"OddShoes$Measures", "settle", "()Z"⟩, 7) := ⟨⟨by decide +kernel, by decide +kernel⟩, List.mem_of_getElem? (i := 30) (by decide +kernel), List.mem_of_getElem? (i := 38) (by decide +kernel), List.mem_of_getElem? (i := 39) (by decide +kernel)⟩
theorem lw_p1 : lw_okq (⟨"OddShoes$Measures", "setFirstBounds", "()V"⟩, 7) := ⟨⟨by decide +kernel, by decide +kernel⟩, List.mem_of_getElem? (i := 30) (by decide +kernel), List.mem_of_getElem? (i := 42) (by decide +kernel), List.mem_of_getElem? (i := 43) (by decide +kernel)⟩
theorem lw_p2 : lw_okq (⟨"OddShoes$Measures", "heed", "(LOddShoes$Trial;)V"⟩, 7) := ⟨⟨by decide +kernel, by decide +kernel⟩, List.mem_of_getElem? (i := 30) (by decide +kernel), List.mem_of_getElem? (i := 46) (by decide +kernel), List.mem_of_getElem? (i := 47) (by decide +kernel)⟩
theorem lw_p3 : lw_okq (⟨"OddShoes$Measures", "closeGaps", "()V"⟩, 7) := ⟨⟨by decide +kernel, by decide +kernel⟩, List.mem_of_getElem? (i := 30) (by decide +kernel), List.mem_of_getElem? (i := 59) (by decide +kernel), List.mem_of_getElem? (i := 60) (by decide +kernel)⟩
theorem lw_p4 : lw_okq (⟨"OddShoes$Measures", "directGap", "(II)I"⟩, 7) := ⟨⟨by decide +kernel, by decide +kernel⟩, List.mem_of_getElem? (i := 30) (by decide +kernel), List.mem_of_getElem? (i := 63) (by decide +kernel), List.mem_of_getElem? (i := 64) (by decide +kernel)⟩
theorem lw_p5 : lw_okq (⟨"OddShoes$Measures", "setNeeds", "()V"⟩, 7) := ⟨⟨by decide +kernel, by decide +kernel⟩, List.mem_of_getElem? (i := 30) (by decide +kernel), List.mem_of_getElem? (i := 67) (by decide +kernel), List.mem_of_getElem? (i := 68) (by decide +kernel)⟩
theorem lw_p6 : lw_okq (⟨"OddShoes", "makerAt", "(I)LOddShoes$Maker;"⟩, 19) := ⟨⟨by decide +kernel, by decide +kernel⟩, List.mem_of_getElem? (i := 18) (by decide +kernel), List.mem_of_getElem? (i := 266) (by decide +kernel), List.mem_of_getElem? (i := 267) (by decide +kernel)⟩
theorem lw_p7 : lw_okq (⟨"OddShoes$Offers", "insert", "(II)V"⟩, 3) := ⟨⟨by decide +kernel, by decide +kernel⟩, List.mem_of_getElem? (i := 95) (by decide +kernel), List.mem_of_getElem? (i := 280) (by decide +kernel), List.mem_of_getElem? (i := 281) (by decide +kernel)⟩
theorem lw_p8 : lw_okq (⟨"OddShoes", "personAt", "(I)LOddShoes$Person;"⟩, 19) := ⟨⟨by decide +kernel, by decide +kernel⟩, List.mem_of_getElem? (i := 18) (by decide +kernel), List.mem_of_getElem? (i := 349) (by decide +kernel), List.mem_of_getElem? (i := 350) (by decide +kernel)⟩
theorem lw_p9 : lw_okq (⟨"OddShoes", "lookRound", "()V"⟩, 19) := ⟨⟨by decide +kernel, by decide +kernel⟩, List.mem_of_getElem? (i := 18) (by decide +kernel), List.mem_of_getElem? (i := 467) (by decide +kernel), List.mem_of_getElem? (i := 468) (by decide +kernel)⟩
theorem lw_p10 : lw_okq (⟨"OddShoes", "offersFor", "(I)I"⟩, 19) := ⟨⟨by decide +kernel, by decide +kernel⟩, List.mem_of_getElem? (i := 18) (by decide +kernel), List.mem_of_getElem? (i := 479) (by decide +kernel), List.mem_of_getElem? (i := 480) (by decide +kernel)⟩
theorem lw_p11 : lw_okq (⟨"OddShoes", "suits", "(II)Z"⟩, 19) := ⟨⟨by decide +kernel, by decide +kernel⟩, List.mem_of_getElem? (i := 18) (by decide +kernel), List.mem_of_getElem? (i := 483) (by decide +kernel), List.mem_of_getElem? (i := 484) (by decide +kernel)⟩
theorem lw_p12 : lw_okq (⟨"OddShoes", "sureNeed", "(III)I"⟩, 19) := ⟨⟨by decide +kernel, by decide +kernel⟩, List.mem_of_getElem? (i := 18) (by decide +kernel), List.mem_of_getElem? (i := 500) (by decide +kernel), List.mem_of_getElem? (i := 501) (by decide +kernel)⟩
theorem lw_p13 : lw_okq (⟨"OddShoes", "worthOf", "(LOddShoes$Person;)I"⟩, 19) := ⟨⟨by decide +kernel, by decide +kernel⟩, List.mem_of_getElem? (i := 18) (by decide +kernel), List.mem_of_getElem? (i := 509) (by decide +kernel), List.mem_of_getElem? (i := 510) (by decide +kernel)⟩
theorem lw_p14 : lw_okq (⟨"OddShoes", "markOf", "(II)I"⟩, 19) := ⟨⟨by decide +kernel, by decide +kernel⟩, List.mem_of_getElem? (i := 18) (by decide +kernel), List.mem_of_getElem? (i := 517) (by decide +kernel), List.mem_of_getElem? (i := 518) (by decide +kernel)⟩
theorem lw_p15 : lw_okq (⟨"OddShoes$Rings", "putsRest", "(II[II)Z"⟩, 8) := ⟨⟨by decide +kernel, by decide +kernel⟩, List.mem_of_getElem? (i := 111) (by decide +kernel), List.mem_of_getElem? (i := 545) (by decide +kernel), List.mem_of_getElem? (i := 546) (by decide +kernel)⟩
def lw_privs_1 : List (MethodName × Nat) := [(⟨"OddShoes$Measures", "settle", "()Z"⟩, 7), (⟨"OddShoes$Measures", "setFirstBounds", "()V"⟩, 7), (⟨"OddShoes$Measures", "heed", "(LOddShoes$Trial;)V"⟩, 7), (⟨"OddShoes$Measures", "closeGaps", "()V"⟩, 7), (⟨"OddShoes$Measures", "directGap", "(II)I"⟩, 7), (⟨"OddShoes$Measures", "setNeeds", "()V"⟩, 7), (⟨"OddShoes", "makerAt", "(I)LOddShoes$Maker;"⟩, 19), (⟨"OddShoes$Offers", "insert", "(II)V"⟩, 3), (⟨"OddShoes", "personAt", "(I)LOddShoes$Person;"⟩, 19), (⟨"OddShoes", "lookRound", "()V"⟩, 19), (⟨"OddShoes", "offersFor", "(I)I"⟩, 19), (⟨"OddShoes", "suits", "(II)Z"⟩, 19), (⟨"OddShoes", "sureNeed", "(III)I"⟩, 19), (⟨"OddShoes", "worthOf", "(LOddShoes$Person;)I"⟩, 19), (⟨"OddShoes", "markOf", "(II)I"⟩, 19), (⟨"OddShoes$Rings", "putsRest", "(II[II)Z"⟩, 8)]
theorem lw_r1 : ∀ q ∈ lw_privs_1, lw_okq q := List.forall_mem_cons.mpr ⟨lw_p0, List.forall_mem_cons.mpr ⟨lw_p1, List.forall_mem_cons.mpr ⟨lw_p2, List.forall_mem_cons.mpr ⟨lw_p3, List.forall_mem_cons.mpr ⟨lw_p4, List.forall_mem_cons.mpr ⟨lw_p5, List.forall_mem_cons.mpr ⟨lw_p6, List.forall_mem_cons.mpr ⟨lw_p7, List.forall_mem_cons.mpr ⟨lw_p8, List.forall_mem_cons.mpr ⟨lw_p9, List.forall_mem_cons.mpr ⟨lw_p10, List.forall_mem_cons.mpr ⟨lw_p11, List.forall_mem_cons.mpr ⟨lw_p12, List.forall_mem_cons.mpr ⟨lw_p13, List.forall_mem_cons.mpr ⟨lw_p14, List.forall_mem_cons.mpr ⟨lw_p15, fun _ h => absurd h List.not_mem_nil⟩⟩⟩⟩⟩⟩⟩⟩⟩⟩⟩⟩⟩⟩⟩⟩
theorem lw_p16 : lw_okq (⟨"OddShoes", "makePlan", "()LOddShoes$Planner;"⟩, 19) := ⟨⟨by decide +kernel, by decide +kernel⟩, List.mem_of_getElem? (i := 18) (by decide +kernel), List.mem_of_getElem? (i := 574) (by decide +kernel), List.mem_of_getElem? (i := 575) (by decide +kernel)⟩
theorem lw_p17 : lw_okq (⟨"OddShoes$Planner", "follow", "(IIII)V"⟩, 12) := ⟨⟨by decide +kernel, by decide +kernel⟩, List.mem_of_getElem? (i := 578) (by decide +kernel), List.mem_of_getElem? (i := 630) (by decide +kernel), List.mem_of_getElem? (i := 631) (by decide +kernel)⟩
theorem lw_p18 : lw_okq (⟨"OddShoes$Planner", "add", "(II)V"⟩, 12) := ⟨⟨by decide +kernel, by decide +kernel⟩, List.mem_of_getElem? (i := 578) (by decide +kernel), List.mem_of_getElem? (i := 636) (by decide +kernel), List.mem_of_getElem? (i := 637) (by decide +kernel)⟩
theorem lw_p19 : lw_okq (⟨"OddShoes$Planner", "pick", "()V"⟩, 12) := ⟨⟨by decide +kernel, by decide +kernel⟩, List.mem_of_getElem? (i := 578) (by decide +kernel), List.mem_of_getElem? (i := 649) (by decide +kernel), List.mem_of_getElem? (i := 650) (by decide +kernel)⟩
theorem lw_p20 : lw_okq (⟨"OddShoes$Planner", "pickFor", "(II)I"⟩, 12) := ⟨⟨by decide +kernel, by decide +kernel⟩, List.mem_of_getElem? (i := 578) (by decide +kernel), List.mem_of_getElem? (i := 653) (by decide +kernel), List.mem_of_getElem? (i := 654) (by decide +kernel)⟩
theorem lw_p21 : lw_okq (⟨"OddShoes$Planner", "bestFor", "(I)J"⟩, 12) := ⟨⟨by decide +kernel, by decide +kernel⟩, List.mem_of_getElem? (i := 578) (by decide +kernel), List.mem_of_getElem? (i := 657) (by decide +kernel), List.mem_of_getElem? (i := 658) (by decide +kernel)⟩
theorem lw_p22 : lw_okq (⟨"OddShoes", "enter", "(I)V"⟩, 19) := ⟨⟨by decide +kernel, by decide +kernel⟩, List.mem_of_getElem? (i := 18) (by decide +kernel), List.mem_of_getElem? (i := 669) (by decide +kernel), List.mem_of_getElem? (i := 670) (by decide +kernel)⟩
theorem lw_p23 : lw_okq (⟨"OddShoes", "shoeAll", "(I)V"⟩, 19) := ⟨⟨by decide +kernel, by decide +kernel⟩, List.mem_of_getElem? (i := 18) (by decide +kernel), List.mem_of_getElem? (i := 686) (by decide +kernel), List.mem_of_getElem? (i := 687) (by decide +kernel)⟩
theorem lw_p24 : lw_okq (⟨"OddShoes", "passMonth", "()V"⟩, 19) := ⟨⟨by decide +kernel, by decide +kernel⟩, List.mem_of_getElem? (i := 18) (by decide +kernel), List.mem_of_getElem? (i := 698) (by decide +kernel), List.mem_of_getElem? (i := 699) (by decide +kernel)⟩
theorem lw_p25 : lw_okq (⟨"OddShoes", "takesOfStock", "(III)Z"⟩, 19) := ⟨⟨by decide +kernel, by decide +kernel⟩, List.mem_of_getElem? (i := 18) (by decide +kernel), List.mem_of_getElem? (i := 736) (by decide +kernel), List.mem_of_getElem? (i := 737) (by decide +kernel)⟩
theorem lw_p26 : lw_okq (⟨"OddShoes", "kindFor", "(IIII)I"⟩, 19) := ⟨⟨by decide +kernel, by decide +kernel⟩, List.mem_of_getElem? (i := 18) (by decide +kernel), List.mem_of_getElem? (i := 740) (by decide +kernel), List.mem_of_getElem? (i := 741) (by decide +kernel)⟩
theorem lw_p27 : lw_okq (⟨"OddShoes", "waiting", "()I"⟩, 19) := ⟨⟨by decide +kernel, by decide +kernel⟩, List.mem_of_getElem? (i := 18) (by decide +kernel), List.mem_of_getElem? (i := 760) (by decide +kernel), List.mem_of_getElem? (i := 761) (by decide +kernel)⟩
theorem lw_p28 : lw_okq (⟨"java/lang/Throwable", "fillInStackTrace", "(I)Ljava/lang/Throwable;"⟩, 6) := ⟨⟨by decide +kernel, by decide +kernel⟩, List.mem_of_getElem? (i := 808) (by decide +kernel), List.mem_of_getElem? (i := 806) (by decide +kernel), List.mem_of_getElem? (i := 807) (by decide +kernel)⟩
theorem lw_p29 : lw_okq (⟨"OddShoesModel", "closes", "()Z"⟩, 53) := ⟨⟨by decide +kernel, by decide +kernel⟩, List.mem_of_getElem? (i := 871) (by decide +kernel), List.mem_of_getElem? (i := 877) (by decide +kernel), List.mem_of_getElem? (i := 878) (by decide +kernel)⟩
theorem lw_p30 : lw_okq (⟨"OddShoesModel", "bound", "(III)V"⟩, 53) := ⟨⟨by decide +kernel, by decide +kernel⟩, List.mem_of_getElem? (i := 871) (by decide +kernel), List.mem_of_getElem? (i := 882) (by decide +kernel), List.mem_of_getElem? (i := 883) (by decide +kernel)⟩
theorem lw_p31 : lw_okq (⟨"OddShoesModel", "tells", "(I)V"⟩, 53) := ⟨⟨by decide +kernel, by decide +kernel⟩, List.mem_of_getElem? (i := 871) (by decide +kernel), List.mem_of_getElem? (i := 886) (by decide +kernel), List.mem_of_getElem? (i := 887) (by decide +kernel)⟩
def lw_privs_2 : List (MethodName × Nat) := [(⟨"OddShoes", "makePlan", "()LOddShoes$Planner;"⟩, 19), (⟨"OddShoes$Planner", "follow", "(IIII)V"⟩, 12), (⟨"OddShoes$Planner", "add", "(II)V"⟩, 12), (⟨"OddShoes$Planner", "pick", "()V"⟩, 12), (⟨"OddShoes$Planner", "pickFor", "(II)I"⟩, 12), (⟨"OddShoes$Planner", "bestFor", "(I)J"⟩, 12), (⟨"OddShoes", "enter", "(I)V"⟩, 19), (⟨"OddShoes", "shoeAll", "(I)V"⟩, 19), (⟨"OddShoes", "passMonth", "()V"⟩, 19), (⟨"OddShoes", "takesOfStock", "(III)Z"⟩, 19), (⟨"OddShoes", "kindFor", "(IIII)I"⟩, 19), (⟨"OddShoes", "waiting", "()I"⟩, 19), (⟨"java/lang/Throwable", "fillInStackTrace", "(I)Ljava/lang/Throwable;"⟩, 6), (⟨"OddShoesModel", "closes", "()Z"⟩, 53), (⟨"OddShoesModel", "bound", "(III)V"⟩, 53), (⟨"OddShoesModel", "tells", "(I)V"⟩, 53)]
theorem lw_r2 : ∀ q ∈ lw_privs_2, lw_okq q := List.forall_mem_cons.mpr ⟨lw_p16, List.forall_mem_cons.mpr ⟨lw_p17, List.forall_mem_cons.mpr ⟨lw_p18, List.forall_mem_cons.mpr ⟨lw_p19, List.forall_mem_cons.mpr ⟨lw_p20, List.forall_mem_cons.mpr ⟨lw_p21, List.forall_mem_cons.mpr ⟨lw_p22, List.forall_mem_cons.mpr ⟨lw_p23, List.forall_mem_cons.mpr ⟨lw_p24, List.forall_mem_cons.mpr ⟨lw_p25, List.forall_mem_cons.mpr ⟨lw_p26, List.forall_mem_cons.mpr ⟨lw_p27, List.forall_mem_cons.mpr ⟨lw_p28, List.forall_mem_cons.mpr ⟨lw_p29, List.forall_mem_cons.mpr ⟨lw_p30, List.forall_mem_cons.mpr ⟨lw_p31, fun _ h => absurd h List.not_mem_nil⟩⟩⟩⟩⟩⟩⟩⟩⟩⟩⟩⟩⟩⟩⟩⟩
theorem lw_p32 : lw_okq (⟨"OddShoesModel", "grown", "(II)I"⟩, 53) := ⟨⟨by decide +kernel, by decide +kernel⟩, List.mem_of_getElem? (i := 871) (by decide +kernel), List.mem_of_getElem? (i := 890) (by decide +kernel), List.mem_of_getElem? (i := 891) (by decide +kernel)⟩
theorem lw_p33 : lw_okq (⟨"OddShoesModel", "isMaker", "(I)Z"⟩, 53) := ⟨⟨by decide +kernel, by decide +kernel⟩, List.mem_of_getElem? (i := 871) (by decide +kernel), List.mem_of_getElem? (i := 1063) (by decide +kernel), List.mem_of_getElem? (i := 1064) (by decide +kernel)⟩
theorem lw_p34 : lw_okq (⟨"OddShoesModel", "isPerson", "(I)Z"⟩, 53) := ⟨⟨by decide +kernel, by decide +kernel⟩, List.mem_of_getElem? (i := 871) (by decide +kernel), List.mem_of_getElem? (i := 1078) (by decide +kernel), List.mem_of_getElem? (i := 1079) (by decide +kernel)⟩
theorem lw_p35 : lw_okq (⟨"OddShoesModel", "isFoot", "(II)Z"⟩, 53) := ⟨⟨by decide +kernel, by decide +kernel⟩, List.mem_of_getElem? (i := 871) (by decide +kernel), List.mem_of_getElem? (i := 1094) (by decide +kernel), List.mem_of_getElem? (i := 1095) (by decide +kernel)⟩
theorem lw_p36 : lw_okq (⟨"OddShoesModel", "least", "(III)I"⟩, 53) := ⟨⟨by decide +kernel, by decide +kernel⟩, List.mem_of_getElem? (i := 871) (by decide +kernel), List.mem_of_getElem? (i := 1110) (by decide +kernel), List.mem_of_getElem? (i := 1111) (by decide +kernel)⟩
theorem lw_p37 : lw_okq (⟨"OddShoesModel", "greatest", "(III)I"⟩, 53) := ⟨⟨by decide +kernel, by decide +kernel⟩, List.mem_of_getElem? (i := 871) (by decide +kernel), List.mem_of_getElem? (i := 1114) (by decide +kernel), List.mem_of_getElem? (i := 1115) (by decide +kernel)⟩
theorem lw_p38 : lw_okq (⟨"OddShoesModel", "costOf", "(II)I"⟩, 53) := ⟨⟨by decide +kernel, by decide +kernel⟩, List.mem_of_getElem? (i := 871) (by decide +kernel), List.mem_of_getElem? (i := 1134) (by decide +kernel), List.mem_of_getElem? (i := 1135) (by decide +kernel)⟩
theorem lw_p39 : lw_okq (⟨"OddShoesModel", "waits", "(I)Z"⟩, 53) := ⟨⟨by decide +kernel, by decide +kernel⟩, List.mem_of_getElem? (i := 871) (by decide +kernel), List.mem_of_getElem? (i := 1141) (by decide +kernel), List.mem_of_getElem? (i := 1142) (by decide +kernel)⟩
theorem lw_p40 : lw_okq (⟨"OddShoesModel", "areSure", "(III)Z"⟩, 53) := ⟨⟨by decide +kernel, by decide +kernel⟩, List.mem_of_getElem? (i := 871) (by decide +kernel), List.mem_of_getElem? (i := 1145) (by decide +kernel), List.mem_of_getElem? (i := 1146) (by decide +kernel)⟩
theorem lw_p41 : lw_okq (⟨"OddShoesModel", "isSure", "(III)Z"⟩, 53) := ⟨⟨by decide +kernel, by decide +kernel⟩, List.mem_of_getElem? (i := 871) (by decide +kernel), List.mem_of_getElem? (i := 1149) (by decide +kernel), List.mem_of_getElem? (i := 1150) (by decide +kernel)⟩
theorem lw_p42 : lw_okq (⟨"OddShoesModel", "hasRow", "(III)Z"⟩, 53) := ⟨⟨by decide +kernel, by decide +kernel⟩, List.mem_of_getElem? (i := 871) (by decide +kernel), List.mem_of_getElem? (i := 1153) (by decide +kernel), List.mem_of_getElem? (i := 1154) (by decide +kernel)⟩
theorem lw_p43 : lw_okq (⟨"OddShoesModel", "goesRound", "(IIIII)Z"⟩, 53) := ⟨⟨by decide +kernel, by decide +kernel⟩, List.mem_of_getElem? (i := 871) (by decide +kernel), List.mem_of_getElem? (i := 1157) (by decide +kernel), List.mem_of_getElem? (i := 1158) (by decide +kernel)⟩
theorem lw_p44 : lw_okq (⟨"OddShoesModel", "goes", "(IIII)Z"⟩, 53) := ⟨⟨by decide +kernel, by decide +kernel⟩, List.mem_of_getElem? (i := 871) (by decide +kernel), List.mem_of_getElem? (i := 1161) (by decide +kernel), List.mem_of_getElem? (i := 1162) (by decide +kernel)⟩
theorem lw_p45 : lw_okq (⟨"OddShoesModel", "plans", "(I)V"⟩, 53) := ⟨⟨by decide +kernel, by decide +kernel⟩, List.mem_of_getElem? (i := 871) (by decide +kernel), List.mem_of_getElem? (i := 1173) (by decide +kernel), List.mem_of_getElem? (i := 1174) (by decide +kernel)⟩
theorem lw_p46 : lw_okq (⟨"OddShoesModel", "worthOf", "(I)I"⟩, 53) := ⟨⟨by decide +kernel, by decide +kernel⟩, List.mem_of_getElem? (i := 871) (by decide +kernel), List.mem_of_getElem? (i := 1177) (by decide +kernel), List.mem_of_getElem? (i := 1178) (by decide +kernel)⟩
theorem lw_p47 : lw_okq (⟨"OddShoesModel", "laysRing", "(I)V"⟩, 53) := ⟨⟨by decide +kernel, by decide +kernel⟩, List.mem_of_getElem? (i := 871) (by decide +kernel), List.mem_of_getElem? (i := 1181) (by decide +kernel), List.mem_of_getElem? (i := 1182) (by decide +kernel)⟩
def lw_privs_3 : List (MethodName × Nat) := [(⟨"OddShoesModel", "grown", "(II)I"⟩, 53), (⟨"OddShoesModel", "isMaker", "(I)Z"⟩, 53), (⟨"OddShoesModel", "isPerson", "(I)Z"⟩, 53), (⟨"OddShoesModel", "isFoot", "(II)Z"⟩, 53), (⟨"OddShoesModel", "least", "(III)I"⟩, 53), (⟨"OddShoesModel", "greatest", "(III)I"⟩, 53), (⟨"OddShoesModel", "costOf", "(II)I"⟩, 53), (⟨"OddShoesModel", "waits", "(I)Z"⟩, 53), (⟨"OddShoesModel", "areSure", "(III)Z"⟩, 53), (⟨"OddShoesModel", "isSure", "(III)Z"⟩, 53), (⟨"OddShoesModel", "hasRow", "(III)Z"⟩, 53), (⟨"OddShoesModel", "goesRound", "(IIIII)Z"⟩, 53), (⟨"OddShoesModel", "goes", "(IIII)Z"⟩, 53), (⟨"OddShoesModel", "plans", "(I)V"⟩, 53), (⟨"OddShoesModel", "worthOf", "(I)I"⟩, 53), (⟨"OddShoesModel", "laysRing", "(I)V"⟩, 53)]
theorem lw_r3 : ∀ q ∈ lw_privs_3, lw_okq q := List.forall_mem_cons.mpr ⟨lw_p32, List.forall_mem_cons.mpr ⟨lw_p33, List.forall_mem_cons.mpr ⟨lw_p34, List.forall_mem_cons.mpr ⟨lw_p35, List.forall_mem_cons.mpr ⟨lw_p36, List.forall_mem_cons.mpr ⟨lw_p37, List.forall_mem_cons.mpr ⟨lw_p38, List.forall_mem_cons.mpr ⟨lw_p39, List.forall_mem_cons.mpr ⟨lw_p40, List.forall_mem_cons.mpr ⟨lw_p41, List.forall_mem_cons.mpr ⟨lw_p42, List.forall_mem_cons.mpr ⟨lw_p43, List.forall_mem_cons.mpr ⟨lw_p44, List.forall_mem_cons.mpr ⟨lw_p45, List.forall_mem_cons.mpr ⟨lw_p46, List.forall_mem_cons.mpr ⟨lw_p47, fun _ h => absurd h List.not_mem_nil⟩⟩⟩⟩⟩⟩⟩⟩⟩⟩⟩⟩⟩⟩⟩⟩
theorem lw_p48 : lw_okq (⟨"OddShoesModel", "isShod", "(I)V"⟩, 53) := ⟨⟨by decide +kernel, by decide +kernel⟩, List.mem_of_getElem? (i := 871) (by decide +kernel), List.mem_of_getElem? (i := 1193) (by decide +kernel), List.mem_of_getElem? (i := 1194) (by decide +kernel)⟩
theorem lw_p49 : lw_okq (⟨"OddShoesModel", "aMonth", "()V"⟩, 53) := ⟨⟨by decide +kernel, by decide +kernel⟩, List.mem_of_getElem? (i := 871) (by decide +kernel), List.mem_of_getElem? (i := 1201) (by decide +kernel), List.mem_of_getElem? (i := 1202) (by decide +kernel)⟩
theorem lw_p50 : lw_okq (⟨"OddShoesModel", "kind", "(IIII)I"⟩, 53) := ⟨⟨by decide +kernel, by decide +kernel⟩, List.mem_of_getElem? (i := 871) (by decide +kernel), List.mem_of_getElem? (i := 1213) (by decide +kernel), List.mem_of_getElem? (i := 1214) (by decide +kernel)⟩
theorem lw_p51 : lw_okq (⟨"OddShoesModel", "isThere", "(III)Z"⟩, 53) := ⟨⟨by decide +kernel, by decide +kernel⟩, List.mem_of_getElem? (i := 871) (by decide +kernel), List.mem_of_getElem? (i := 1221) (by decide +kernel), List.mem_of_getElem? (i := 1222) (by decide +kernel)⟩
def lw_privs_4 : List (MethodName × Nat) := [(⟨"OddShoesModel", "isShod", "(I)V"⟩, 53), (⟨"OddShoesModel", "aMonth", "()V"⟩, 53), (⟨"OddShoesModel", "kind", "(IIII)I"⟩, 53), (⟨"OddShoesModel", "isThere", "(III)Z"⟩, 53)]
theorem lw_r4 : ∀ q ∈ lw_privs_4, lw_okq q := List.forall_mem_cons.mpr ⟨lw_p48, List.forall_mem_cons.mpr ⟨lw_p49, List.forall_mem_cons.mpr ⟨lw_p50, List.forall_mem_cons.mpr ⟨lw_p51, fun _ h => absurd h List.not_mem_nil⟩⟩⟩⟩
def lw_privs : List (MethodName × Nat) := lw_privs_1 ++ (lw_privs_2 ++ (lw_privs_3 ++ (lw_privs_4)))
def lw_tbl : List Cond := k2_sels lw_privs ++ tables_1
theorem lw_privs_ok : ∀ q ∈ lw_privs, lw_okq q := by
  show ∀ q ∈ lw_privs_1 ++ (lw_privs_2 ++ (lw_privs_3 ++ (lw_privs_4))), lw_okq q
  exact List.forall_mem_append.mpr ⟨lw_r1, List.forall_mem_append.mpr ⟨lw_r2, List.forall_mem_append.mpr ⟨lw_r3, lw_r4⟩⟩⟩
-- ===== end of PART A; then your names; then what follows =====
end
section
/-! ===== BEGIN words of one list among another's, by their places ===== -/
theorem goodIn_r {big : List Cond} (ws : List Cond) (ps : List Nat) (hp : ws = ps.filterMap (fun i => big[i]?)) (h : ws.all goodWord = true) : GoodIn big ws := by
  intro w hw
  have h1 := List.all_eq_true.mp h w hw
  rw [hp] at hw
  obtain ⟨i, -, hi⟩ := List.mem_filterMap.mp hw
  have hm : w ∈ big := by first | exact List.mem_of_getElem? hi | exact List.getElem?_mem hi
  exact ⟨hm, good_of_word h1⟩
theorem goodIn_app {big a b : List Cond} (ha : GoodIn big a) (hb : GoodIn big b) : GoodIn big (a ++ b) := fun w h => (List.mem_append.mp h).elim (ha w) (hb w)
theorem goodIn_ca {big a b : List Cond} {c : Cond} (ha : GoodIn big (c :: a)) (hb : GoodIn big b) : GoodIn big (c :: (a ++ b)) := fun w h => (List.mem_cons.mp h).elim (fun e => ha w (List.mem_cons.mpr (Or.inl e))) (fun h => (List.mem_append.mp h).elim (fun h => ha w (List.mem_cons.mpr (Or.inr h))) (hb w))
theorem goodIn_sub {big ws : List Cond} (hm : ∀ w ∈ ws, w ∈ big) (h : ws.all goodWord = true) : GoodIn big ws := fun w hw => ⟨hm w hw, good_of_word (List.all_eq_true.mp h w hw)⟩
/-! ===== END ===== -/

/-! ===== BEGIN exceptions that leave a method, and their catching by the caller (launches without stack traces) ===== -/
section VXA
/-! The laws vx_back, vx_callV, vx_callS, vx_callSW, vx_throw0, vx_throwS follow proofs of the library, with one case more: JvmDerived/Free/Laws.lean (Back.of_free), Shelf42/LK1.lean (callV, callS), Shelf/KitTraced.lean (throwNew0V, throwNewS). -/
/-- where a method has thrown q: the class by its name, the cell, what was written, the world -/
def vx_T (XC : String → State → State → Prop) (st : State) (q : Addr) (t : State) (mc ms : Nat) (free : Addr → Prop) : Prop :=
  ∃ (E : String) (ce : Cell) (L : List Loc), XC E st t ∧ t.heap[q]? = some ce ∧ ce.vm = .none ∧ st.vm.findClass E = some ce.cls ∧ st.WarmedH t.vm ∧ st.sameButNew ({ t with vm := st.vm } : State) L mc ms ∧ ∀ z ∈ L, free z.base
def vx_Q (Qc : Array Value → State → Outcome → State → Prop) (XC : String → State → State → Prop) (mc ms : Nat) (free : Addr → Prop) : Array Value → State → Outcome → State → Prop := fun a st o t =>
  (Qc a st o t ∧ ∃ L, FrameEnd st o t L mc ms ∧ ∀ q ∈ L, free q.base) ∨ ∃ q, o = .threw q ∧ vx_T XC st q t mc ms free
/-- a callee that returns or throws -/
def vx_Met (l : Launch) (y : MethodName) (ws : List Cond) (rm : Room) (Pc : Array Value → State → Prop) (Qc : Array Value → State → Outcome → State → Prop) (XC : String → State → State → Prop) (mc ms : Nat) (free : Addr → Prop) : Prop :=
  MetFree l y (headSpec ws rm) Pc (fun _ _ _ _ _ => True) (vx_Q Qc XC mc ms free)
def vx_Post (XC : String → State → State → Prop) (mc ms : Nat) (free : Addr → Prop) : Pt → Array Value → Addr → Pt → Prop := fun A a q B =>
  ∃ (g : JFrame) (mk : MethodId) (t : State) (L : List Loc) (E : String) (ce : Cell), B.U.heap = t.heap ∧ B.U.vm = t.vm ∧ XC E (A.U.calling g mk a) t ∧ t.heap[q]? = some ce ∧ ce.vm = .none ∧ A.U.vm.findClass E = some ce.cls ∧ B.locs = A.locs ++ L ∧ (∀ z ∈ L, free z.base) ∧ B.cells = A.cells + mc ∧ B.slots = A.slots + ms
def vx_Back (l : Launch) (R : Room) (p : Program) (e : Env) (below : List Frame) (s : State) (sargs : Array Value) (y : MethodName) (len W9 : Nat)
    (Pre : Pt → Array Value → Prop) (Post : Pt → Array Value → Option Value → Pt → Prop) (PostX : Pt → Array Value → Addr → Pt → Prop) : Prop :=
  ∀ (m : MethodId) (meth : Method) (c : Code) (A : Pt) (g : JFrame) (ig : Instr) (mk : MethodId) (a : Array Value),
    Stand p l e R s m sargs below meth c A.U A.locs A.cells A.slots → g.method = m → g.locals.size = c.maxLocals → decode c.code g.pc = .ok (ig, len) →
    2 * g.monitorRoom + (g.stack.map fun v => v.category).sum ≤ W9 → A.U.methodNamed? y = some mk → Pre A a →
    (∃ (v : Option Value) (B : Pt), Stand p l e R s m sargs below meth c B.U B.locs B.cells B.slots ∧ Post A a v B ∧
      Steps p.tables e below (doInvoke e (A.U.setTop g) [] mk a).1 (B.U.setTop { g with pc := g.pc + len, stack := v.toList ++ g.stack })) ∨
    (∃ (q : Addr) (B : Pt), Stand p l e R s m sargs below meth c B.U B.locs B.cells B.slots ∧ PostX A a q B ∧
      Steps p.tables e below (doInvoke e (A.U.setTop g) [] mk a).1 ((B.U.setTop g).pushFrame (.throwing q)))
section Payer
variable {l : Launch} {R : Room} {p : Program} {e : Env} {below : List Frame} {s : State} {sargs : Array Value} {y : MethodName} {len W9 : Nat}
theorem vx_back {ws : List Cond} {rm : Room} {Pc : Array Value → State → Prop} {Qc : Array Value → State → Outcome → State → Prop} {XC : String → State → State → Prop} {mc ms : Nat} {free : Addr → Prop} {bytes : ByteArray} {maxL : Nat} {ret : Option FieldType}
    (hM : vx_Met l y ws rm Pc Qc XC mc ms free) (hblind : FrameBlind Pc) (hrc : rm.cells = mc) (hrs : rm.slots = ms)
    (hframes : rm.frames + 1 ≤ R.frames) (hlocals : W9 + (maxL + 11) + rm.locals ≤ R.locals)
    (hws : ∀ w ∈ ws, ∀ a' U, s.WarmedH U.vm → w.before a' U = true) (hcode : Cond.code y bytes maxL ret ∈ ws) (hinit : ∀ a' U, s.WarmedH U.vm → (Cond.initialized y.cls).before a' U = true) :
    vx_Back l R p e below s sargs y len W9 (PreOf R mc ms Pc) (PostOf Qc mc ms free) (vx_Post XC mc ms free) := by
  intro m meth c A g ig mk a X hg hsize hdg hW hn hp
  have h1 : (headSpec ws rm).pre.before a A.U = true := atoms_intro fun w hw => hws w hw _ _ X.warmed
  have h2 : (Cond.code y bytes maxL ret).before a A.U = true := hws _ hcode _ _ X.warmed
  have h3 : (Cond.initialized y.cls).before a A.U = true := hinit _ _ X.warmed
  have h4 : A.cells + (headSpec ws rm).room.cells ≤ R.cells := by rw [show (headSpec ws rm).room.cells = mc from hrc]; exact hp.1
  have h5 : A.slots + (headSpec ws rm).room.slots ≤ R.slots := by rw [show (headSpec ws rm).room.slots = ms from hrs]; exact hp.2.1
  have hPc : Pc a (A.U.calling g mk a) := hblind _ _ _ _ hp.2.2
  obtain ⟨U, Ls, c0, s0⟩ := A
  dsimp only [Pt.U, Pt.locs, Pt.cells, Pt.slots] at h1 h2 h3 h4 h5 X hn hPc ⊢
  obtain ⟨methY, cY, hmY, hcY, -, hlY, -, -, -, -⟩ := Cond.code_spec hn h2
  obtain ⟨kY, hkY, -⟩ := className_of_methodNamed hn
  have hinitY : kY.init = .initialized := Cond.initialized_spec (findClass_of_methodNamed hn) hkY h3
  have h : At U g.method c below := by rw [hg]; exact X.here
  have hlocals9 : W9 + (maxL + 11) + (headSpec ws rm).room.locals ≤ R.locals := hlocals
  have happ : (headSpec ws rm).appliesLoose y e.platform (U.calling g mk a) = true :=
    Spec.appliesLoose_calling (g := g) h hdg hn hkY hinitY
      (X.room_calling (g := g) (R' := (headSpec ws rm).room) hsize hmY hcY hframes (by rw [hlY]; omega) h4 h5) h1
  obtain ⟨mid, hmid⟩ := h.above
  have hfr : (U.setTop g).frames = (.java g :: mid) ++ below := by rw [State.frames_setTop' g h.top, hmid]; rfl
  obtain ⟨o, s₂, hsteps, -, hend, hq⟩ := Steps.callFree hM p X.admits X.cas X.clock (acts := []) hfr happ hPc trivial
  have hq' : vx_Q Qc XC mc ms free a (U.calling g mk a) o s₂ := hq
  rw [State.frames_setTop' g h.top] at hend
  obtain ⟨g₀, hg0⟩ := Option.isSome_iff_exists.mp h.top
  obtain ⟨r, hr⟩ := State.topJava?_eq_some.mp hg0
  have hr' : (({ U with heap := s₂.heap, slotsUsed := s₂.slotsUsed } : State).setVm s₂.vm).frames = .java g₀ :: r := hr
  rcases hq' with ⟨hqc, L, hfe, hL⟩ | ⟨q, rfl, E, ce, L, hx, hce, hcv, hcl, hW₂, hsm, hL⟩
  · obtain ⟨⟨v, rfl⟩, hW₂, e2, q2, q3, q4, q5, q6⟩ := id hfe
    have e3 : s₂ = ({ (U.calling g mk a).setFrames s₂.frames with heap := s₂.heap, slotsUsed := s₂.slotsUsed } : State).setVm s₂.vm := by
      have : s₂ = ({ s₂ with vm := (U.calling g mk a).vm } : State).setVm s₂.vm := rfl
      rw [e2] at this
      exact this
    obtain ⟨c₂, i₂, len₂, hc₂, hd₂, hf₂⟩ := hend
    have hW' : U.WarmedH s₂.vm := hW₂
    have hcc : c₂ = c := by
      have h1 : s₂.code? g.method = U.code? g.method := by
        rw [State.code?_eq, State.code?_eq, hW'.alike.method?]
      exact Option.some.inj (hc₂.symm.trans (h1.trans h.code))
    subst hcc
    have hlen : len₂ = len := by rw [hdg] at hd₂; cases hd₂; rfl
    subst hlen
    have hs₂ : s₂ = (({ U with heap := s₂.heap, slotsUsed := s₂.slotsUsed } : State).setVm s₂.vm).setTop { g with pc := g.pc + len₂, stack := v.toList ++ g.stack } := by
      refine e3.trans ?_
      rw [hf₂, State.calling_eq h.top, State.setFrames_setFrames, State.setTop_of_frames _ hr', hr]
      rfl
    have hsame : U.sameButNew ({ U with heap := s₂.heap, slotsUsed := s₂.slotsUsed } : State) L mc ms := by
      refine ⟨?_, q2, q3, q4, q5, q6⟩
      obtain ⟨t, ht, -⟩ := State.frames_cons hr
      show ({ U with heap := s₂.heap, slotsUsed := s₂.slotsUsed } : State) = { U.setFrames U.frames with heap := s₂.heap, slotsUsed := s₂.slotsUsed }
      rw [State.setFrames_self ht]
    subst hg
    refine Or.inl ⟨v, ⟨(({ U with heap := s₂.heap, slotsUsed := s₂.slotsUsed } : State).setVm s₂.vm), Ls ++ L, c0 + mc, s0 + ms⟩,
      ⟨X.admits, X.cas, X.clock, X.frames, X.room, X.hears, X.method, X.code, (X.here.setHeapUsed s₂.heap s₂.slotsUsed).setVm hW'.alike, X.tail, State.WarmedH.trans X.warmed hW', X.limits, X.bytes, X.same.trans (hsame.setVm s.vm)⟩,
      ⟨g, mk, s₂, L, rfl, rfl, hqc, rfl, hL, rfl, rfl⟩, ?_⟩
    show Steps p.tables e below _ ((({ U with heap := s₂.heap, slotsUsed := s₂.slotsUsed } : State).setVm s₂.vm).setTop { g with pc := g.pc + len₂, stack := v.toList ++ g.stack })
    rw [← hs₂]
    exact hsteps
  · obtain ⟨e2, q2, q3, q4, q5, q6⟩ := id hsm
    have e3 : s₂ = ({ (U.calling g mk a).setFrames s₂.frames with heap := s₂.heap, slotsUsed := s₂.slotsUsed } : State).setVm s₂.vm := by
      have : s₂ = ({ s₂ with vm := (U.calling g mk a).vm } : State).setVm s₂.vm := rfl
      rw [e2] at this
      exact this
    have hf₂ : s₂.frames = .throwing q :: .java g :: U.frames.tail := hend
    have hW' : U.WarmedH s₂.vm := hW₂
    have hs₂ : s₂ = ((({ U with heap := s₂.heap, slotsUsed := s₂.slotsUsed } : State).setVm s₂.vm).setTop g).pushFrame (.throwing q) := by
      refine e3.trans ?_
      rw [hf₂, State.calling_eq h.top, State.setFrames_setFrames, State.pushFrame, State.frames_setTop _ hr', State.setTop_of_frames _ hr', State.setFrames_setFrames, hr]
      rfl
    have hsame : U.sameButNew ({ U with heap := s₂.heap, slotsUsed := s₂.slotsUsed } : State) L mc ms := by
      refine ⟨?_, q2, q3, q4, q5, q6⟩
      obtain ⟨t, ht, -⟩ := State.frames_cons hr
      show ({ U with heap := s₂.heap, slotsUsed := s₂.slotsUsed } : State) = { U.setFrames U.frames with heap := s₂.heap, slotsUsed := s₂.slotsUsed }
      rw [State.setFrames_self ht]
    subst hg
    refine Or.inr ⟨q, ⟨(({ U with heap := s₂.heap, slotsUsed := s₂.slotsUsed } : State).setVm s₂.vm), Ls ++ L, c0 + mc, s0 + ms⟩,
      ⟨X.admits, X.cas, X.clock, X.frames, X.room, X.hears, X.method, X.code, (X.here.setHeapUsed s₂.heap s₂.slotsUsed).setVm hW'.alike, X.tail, State.WarmedH.trans X.warmed hW', X.limits, X.bytes, X.same.trans (hsame.setVm s.vm)⟩,
      ⟨g, mk, s₂, L, E, ce, rfl, rfl, hx, hce, hcv, hcl, rfl, hL, rfl, rfl⟩, ?_⟩
    show Steps p.tables e below _ (((({ U with heap := s₂.heap, slotsUsed := s₂.slotsUsed } : State).setVm s₂.vm).setTop g).pushFrame (.throwing q))
    rw [← hs₂]
    exact hsteps
end Payer
section Calls
variable {p : Program} {l : Launch} {e : Env} {R : Room} {s : State} {m : MethodId} {args : Array Value} {below : List Frame} {meth : Method} {c : Code} {T : State} {locs : List Loc} {cells slots : Nat}
theorem vx_callV (X : Stand p l e R s m args below meth c T locs cells slots) (hexec : p.tables.exec = Jvm.exec) {own C : String} {index : Nat} {y : MethodName} {bytes : ByteArray} {maxL : Nat} {ret : Option FieldType}
    (hown : s.vm.findClass own = some m.cls) (hlink : (Cond.methodLink own index y).before args s = true) (hinst : (Cond.instanceMethod y).before args s = true) (hsel : (Cond.selects C y y).before args s = true)
    (hcode : (Cond.code y bytes maxL ret).before args s = true) (hy : y.cls ≠ "java/lang/invoke/MethodHandle" ∧ y.cls ≠ "java/lang/invoke/VarHandle")
    {W9 : Nat} {Pre : Pt → Array Value → Prop} {Post : Pt → Array Value → Option Value → Pt → Prop} {PostX : Pt → Array Value → Addr → Pt → Prop} (hK : vx_Back l R p e below s args y 3 W9 Pre Post PostX)
    {b : Addr} {cellB : Cell} (hcell : T.heap[b]? = some cellB) (hobj : cellB.vm.isStatics = false) (hcls : s.vm.findClass C = some cellB.cls)
    {g : JFrame} (hg : g.method = m) (hsize : g.locals.size = c.maxLocals) {argsL rest : List Value} (hlen : ∀ sig, parseMethodDescriptor y.desc = some sig → argsL.length = sig.parameters.length)
    (hstack : g.stack = argsL.reverse ++ .ref b :: rest) (hW : 2 * g.monitorRoom + (rest.map fun v => v.category).sum ≤ W9) (hdg : decode c.code g.pc = .ok (.invokevirtual index, 3))
    (hpre : ∀ vm₁, s.WarmedH vm₁ → Pre ⟨T.setVm vm₁, locs, cells, slots⟩ (Value.ref b :: argsL).toArray) :
    (∃ (v : Option Value) (vm₁ : Vm) (B : Pt), s.WarmedH vm₁ ∧ Stand p l e R s m args below meth c B.U B.locs B.cells B.slots ∧ Post ⟨T.setVm vm₁, locs, cells, slots⟩ (Value.ref b :: argsL).toArray v B ∧
      ∀ target, Steps p.tables e below (B.U.setTop { g with pc := g.pc + 3, stack := v.toList ++ rest }) target → Steps p.tables e below (T.setTop g) target) ∨
    (∃ (q : Addr) (vm₁ : Vm) (B : Pt), s.WarmedH vm₁ ∧ Stand p l e R s m args below meth c B.U B.locs B.cells B.slots ∧ PostX ⟨T.setVm vm₁, locs, cells, slots⟩ (Value.ref b :: argsL).toArray q B ∧
      Steps p.tables e below (T.setTop g) ((B.U.setTop { g with stack := rest }).pushFrame (.throwing q))) := by
  obtain ⟨mk, methM, hnamed, hmethM, hstM, habM⟩ := Cond.instanceMethod_spec hinst
  obtain ⟨methM', cM, hmethM', -, -, -, -, -, -, hsigM⟩ := Cond.code_spec hnamed hcode
  cases hmethM.symm.trans hmethM'
  obtain ⟨c2, r2, m2, q1, q2, q3, q4, kP, hkP, hkPi⟩ := Cond.selects_spec hsel
  cases hcls.symm.trans q1
  cases (State.methodFound?_of_named hnamed hy).symm.trans q2
  cases hnamed.symm.trans q3
  have hselP : selectMethod e.platform s.vm cellB.cls mk = .method mk := by rw [Launch.admits_selectMethod X.admits]; exact q4
  obtain ⟨vm₁, X₁, hstep₁⟩ := X.invokevirtual hexec hown hlink hnamed hmethM hstM hkP hkPi hy (a := b) (cell := cellB) hcell
    (fun z h => by rw [h] at hobj; cases hobj) hselP hmethM habM hkP hkPi (g := g) hg (argsL := argsL) (rest := rest) (hlen _ hsigM) hstack hdg
  rcases hK m meth c ⟨T.setVm vm₁, locs, cells, slots⟩ { g with stack := rest } (.invokevirtual index) mk (Value.ref b :: argsL).toArray X₁ hg hsize hdg hW (X₁.named hnamed) (hpre vm₁ X₁.warmed) with ⟨v, B, X', hpost, hsteps⟩ | ⟨q, B, X', hpost, hsteps⟩
  · exact Or.inl ⟨v, vm₁, B, X₁.warmed, X', hpost, fun target h => hstep₁ _ fun acts => by rw [doInvoke_state]; exact hsteps.trans h⟩
  · exact Or.inr ⟨q, vm₁, B, X₁.warmed, X', hpost, hstep₁ _ fun acts => by rw [doInvoke_state]; exact hsteps⟩
theorem vx_callS (X : Stand p l e R s m args below meth c T locs cells slots) (hexec : p.tables.exec = Jvm.exec) {own : String} {index : Nat} {y : MethodName} {bytes : ByteArray} {maxL : Nat} {ret : Option FieldType}
    (hown : s.vm.findClass own = some m.cls) (hlink : (Cond.methodLink own index y).before args s = true) (hstat : (Cond.static y).before args s = true) (hinit : (Cond.initialized y.cls).before args s = true)
    (hcode : (Cond.code y bytes maxL ret).before args s = true) (hy : y.cls ≠ "java/lang/invoke/MethodHandle" ∧ y.cls ≠ "java/lang/invoke/VarHandle")
    {W9 : Nat} {Pre : Pt → Array Value → Prop} {Post : Pt → Array Value → Option Value → Pt → Prop} {PostX : Pt → Array Value → Addr → Pt → Prop} (hK : vx_Back l R p e below s args y 3 W9 Pre Post PostX)
    {g : JFrame} (hg : g.method = m) (hsize : g.locals.size = c.maxLocals) {argsL rest : List Value} (hlen : ∀ sig, parseMethodDescriptor y.desc = some sig → argsL.length = sig.parameters.length)
    (hstack : g.stack = argsL.reverse ++ rest) (hW : 2 * g.monitorRoom + (rest.map fun v => v.category).sum ≤ W9) (hdg : decode c.code g.pc = .ok (.invokestatic index, 3))
    (hpre : ∀ vm₁, s.WarmedH vm₁ → Pre ⟨T.setVm vm₁, locs, cells, slots⟩ argsL.toArray) :
    (∃ (v : Option Value) (vm₁ : Vm) (B : Pt), s.WarmedH vm₁ ∧ Stand p l e R s m args below meth c B.U B.locs B.cells B.slots ∧ Post ⟨T.setVm vm₁, locs, cells, slots⟩ argsL.toArray v B ∧
      ∀ target, Steps p.tables e below (B.U.setTop { g with pc := g.pc + 3, stack := v.toList ++ rest }) target → Steps p.tables e below (T.setTop g) target) ∨
    (∃ (q : Addr) (vm₁ : Vm) (B : Pt), s.WarmedH vm₁ ∧ Stand p l e R s m args below meth c B.U B.locs B.cells B.slots ∧ PostX ⟨T.setVm vm₁, locs, cells, slots⟩ argsL.toArray q B ∧
      Steps p.tables e below (T.setTop g) ((B.U.setTop { g with stack := rest }).pushFrame (.throwing q))) := by
  obtain ⟨mk, hnamed⟩ := Cond.code_named hcode
  obtain ⟨methM, cM, hmethM, -, -, -, -, -, -, hsigM⟩ := Cond.code_spec hnamed hcode
  have hstatic : methM.isStatic = true := Cond.static_spec hnamed hmethM hstat
  obtain ⟨kP, hkP, -⟩ := className_of_methodNamed hnamed
  have hinitP : kP.init = .initialized := Cond.initialized_spec (findClass_of_methodNamed hnamed) hkP hinit
  obtain ⟨vm₁, X₁, hstep₁⟩ := X.invokestatic hexec hown hlink hnamed hmethM hstatic hkP hinitP hy (g := g) hg (argsL := argsL) (rest := rest) (hlen _ hsigM) hstack hdg
  rcases hK m meth c ⟨T.setVm vm₁, locs, cells, slots⟩ { g with stack := rest } (.invokestatic index) mk argsL.toArray X₁ hg hsize hdg hW (X₁.named hnamed) (hpre vm₁ X₁.warmed) with ⟨v, B, X', hpost, hsteps⟩ | ⟨q, B, X', hpost, hsteps⟩
  · exact Or.inl ⟨v, vm₁, B, X₁.warmed, X', hpost, fun target h => hstep₁ _ fun acts => by rw [doInvoke_state]; exact hsteps.trans h⟩
  · exact Or.inr ⟨q, vm₁, B, X₁.warmed, X', hpost, hstep₁ _ fun acts => by rw [doInvoke_state]; exact hsteps⟩
end Calls
theorem vx_cls {s : State} {T : State} {vm₁ : Vm} {E : String} {k : ClassId} (hW : s.WarmedH vm₁) (h : (T.setVm vm₁).vm.findClass E = some k) : s.vm.findClass E = some k := by
  have h1 : vm₁.findClass E = some k := h
  rw [hW.alike.findClass] at h1
  exact h1
/-- the method's frame g, with q thrown over it -/
def vx_W (p : Program) (l : Launch) (e : Env) (R : Room) (s : State) (m : MethodId) (args : Array Value) (below : List Frame) (meth : Method) (c : Code) (H : Heap) (locs : List Loc) (cells slots : Nat) (Q : State → Prop) (g : JFrame) (q : Addr) : Prop :=
  ∀ T : State, T.heap = H → Stand p l e R s m args below meth c T locs cells slots → ∃ t, Steps p.tables e below ((T.setTop g).pushFrame (.throwing q)) t ∧ Q t
def vx_Run (p : Program) (l : Launch) (e : Env) (R : Room) (s : State) (m : MethodId) (args : Array Value) (below : List Frame) (meth : Method) (c : Code) (H : Heap) (locs : List Loc) (cells slots mc ms : Nat) (g : JFrame) (rest : List Value) (Qa : State → Outcome → State → Prop) (XC : String → State → State → Prop) (free : Addr → Prop) : Prop :=
  ∀ T : State, T.heap = H → Stand p l e R s m args below meth c T locs cells slots →
    (∃ (v : Option Value) (st₀ t T' : State) (L : List Loc), st₀.heap = H ∧ Stand p l e R s m args below meth c T' (locs ++ L) (cells + mc) (slots + ms) ∧ (∀ q ∈ L, free q.base) ∧ T'.heap = t.heap ∧ T'.vm = t.vm ∧ Qa st₀ (.returned v) t ∧
      Goes p e below T g T' { g with pc := g.pc + 3, stack := v.toList ++ rest }) ∨
    (∃ (q : Addr) (st₀ t T' : State) (L : List Loc) (E : String) (ce : Cell), st₀.heap = H ∧ Stand p l e R s m args below meth c T' (locs ++ L) (cells + mc) (slots + ms) ∧ (∀ z ∈ L, free z.base) ∧ T'.heap = t.heap ∧ T'.vm = t.vm ∧ XC E st₀ t ∧ t.heap[q]? = some ce ∧ ce.vm = .none ∧ s.vm.findClass E = some ce.cls ∧
      Steps p.tables e below (T.setTop g) ((T'.setTop { g with stack := rest }).pushFrame (.throwing q)))
def vx_X {S : Type} (px : S → Prop) (B : String → S → State → Prop) (A : Nat → Prop) : String → State → State → Prop := fun E st t => ∃ u : S, px u ∧ B E u t ∧ va_F A st t
section Runs
variable {p : Program} {l : Launch} {e : Env} {R : Room} {s : State} {m : MethodId} {args : Array Value} {below : List Frame} {meth : Method} {c : Code} {H : Heap} {locs : List Loc} {cells slots : Nat}
variable {y : MethodName} {bytes cc : ByteArray} {maxL nL mc ms n index : Nat} {ret : Option FieldType} {ws : List Cond} {rm : Room} {Pc : Array Value → State → Prop} {Qc : Array Value → State → Outcome → State → Prop} {XC : String → State → State → Prop} {free : Addr → Prop} {Ts : List Cond} {own C : String} {b : Addr} {As rest : List Value} {g : JFrame}
theorem vx_callBack (cb : CallB R s args own index y bytes maxL ret ws rm mc ms n) (hM : vx_Met l y ws rm Pc Qc XC mc ms free) (hbl : FrameBlind Pc) : vx_Back l R p e below s args y 3 8 (PreOf R mc ms Pc) (PostOf Qc mc ms free) (vx_Post XC mc ms free) := by
  obtain ⟨hrc, hrs, hfr, hlo, hws, hcw, -, hini, -⟩ := cb
  exact vx_back (bytes := bytes) (maxL := maxL) (ret := ret) hM hbl hrc hrs hfr hlo hws hcw (fun a' U hW => word_at hW (Or.inl (by first | rfl | simp [Cond.onTables, Cond.keeps, Cond.steady])) hini)
theorem vx_runV (S : CallFix p m c cc nL s args Ts own) (hM : vx_Met l y ws rm Pc Qc XC mc ms free) (cw : CallW R s args own C index y bytes maxL ret ws rm mc ms n) (hp : PreV s H C b Pc As)
    (hg : g.method = m) (hn : As.length = n) (hsize : g.locals.size = nL) (hstack : g.stack = As.reverse ++ .ref b :: rest) (hW : 2 * g.monitorRoom + (rest.map fun v => v.category).sum ≤ 8) (hdg : decode cc g.pc = .ok (.invokevirtual index, 3)) (hf : cells + mc ≤ R.cells ∧ slots + ms ≤ R.slots) :
    vx_Run p l e R s m args below meth c H locs cells slots mc ms g rest (Qc (Value.ref b :: As).toArray) XC free := by
  have hK : vx_Back l R p e below s args y 3 8 (PreOf R mc ms Pc) (PostOf Qc mc ms free) (vx_Post XC mc ms free) := vx_callBack cw.1 hM hp.1
  obtain ⟨⟨-, -, -, -, -, -, hcode, -, hy, hlen, hl⟩, hin, hse⟩ := cw
  obtain ⟨hx, hb, hml, ho, -⟩ := S
  obtain ⟨-, ⟨cellB, hcB, hoB, hclB⟩, hPc⟩ := hp
  intro T hT X
  rcases vx_callV X hx (C := C) (bytes := bytes) (maxL := maxL) (ret := ret) ho hl hin hse hcode hy hK (by rw [hT]; exact hcB) hoB hclB hg (hsize.trans hml.symm) (argsL := As) (rest := rest) (fun sig h => hn.trans (hlen sig h)) hstack hW (by rw [hb]; exact hdg)
    (fun vm₁ hW₁ => ⟨hf.1, hf.2, hPc (T.setVm vm₁) hT hW₁⟩) with ⟨v, vm₁, ⟨U', l2, c2, s2⟩, hW₁, X', ⟨g', mk, t, L, e1, e2, hq, h1, hL, h2, h3⟩, st⟩ | ⟨q, vm₁, ⟨U', l2, c2, s2⟩, hW₁, X', ⟨g', mk, t, L, E, ce, e1, e2, hq, hce, hcv, hcl, h1, hL, h2, h3⟩, st⟩
  · dsimp only [Pt.U, Pt.locs, Pt.cells, Pt.slots] at X' e1 e2 h1 h2 h3 st
    subst h1; subst h2; subst h3
    exact Or.inl ⟨v, (T.setVm vm₁).calling g' mk (Value.ref b :: As).toArray, t, U', L, hT, X', hL, e1, e2, hq, st⟩
  · dsimp only [Pt.U, Pt.locs, Pt.cells, Pt.slots] at X' e1 e2 h1 h2 h3 st hcl
    subst h1; subst h2; subst h3
    exact Or.inr ⟨q, (T.setVm vm₁).calling g' mk (Value.ref b :: As).toArray, t, U', L, E, ce, hT, X', hL, e1, e2, hq, hce, hcv, vx_cls hW₁ hcl, st⟩
theorem vx_runS (S : CallFix p m c cc nL s args Ts own) (hM : vx_Met l y ws rm Pc Qc XC mc ms free) (cw : CallB R s args own index y bytes maxL ret ws rm mc ms n ∧ (Cond.static y).before args s = true) (hp : PreS s H Pc As)
    (hg : g.method = m) (hn : As.length = n) (hsize : g.locals.size = nL) (hstack : g.stack = As.reverse ++ rest) (hW : 2 * g.monitorRoom + (rest.map fun v => v.category).sum ≤ 8) (hdg : decode cc g.pc = .ok (.invokestatic index, 3)) (hf : cells + mc ≤ R.cells ∧ slots + ms ≤ R.slots) :
    vx_Run p l e R s m args below meth c H locs cells slots mc ms g rest (Qc As.toArray) XC free := by
  have hK : vx_Back l R p e below s args y 3 8 (PreOf R mc ms Pc) (PostOf Qc mc ms free) (vx_Post XC mc ms free) := vx_callBack cw.1 hM hp.1
  obtain ⟨⟨-, -, -, -, -, -, hcode, hini, hy, hlen, hl⟩, hstt⟩ := cw
  obtain ⟨hx, hb, hml, ho, -⟩ := S
  intro T hT X
  rcases vx_callS X hx (bytes := bytes) (maxL := maxL) (ret := ret) ho hl hstt hini hcode hy hK hg (hsize.trans hml.symm) (argsL := As) (rest := rest) (fun sig h => hn.trans (hlen sig h)) hstack hW (by rw [hb]; exact hdg)
    (fun vm₁ hW₁ => ⟨hf.1, hf.2, hp.2 (T.setVm vm₁) hT hW₁⟩) with ⟨v, vm₁, ⟨U', l2, c2, s2⟩, hW₁, X', ⟨g', mk, t, L, e1, e2, hq, h1, hL, h2, h3⟩, st⟩ | ⟨q, vm₁, ⟨U', l2, c2, s2⟩, hW₁, X', ⟨g', mk, t, L, E, ce, e1, e2, hq, hce, hcv, hcl, h1, hL, h2, h3⟩, st⟩
  · dsimp only [Pt.U, Pt.locs, Pt.cells, Pt.slots] at X' e1 e2 h1 h2 h3 st
    subst h1; subst h2; subst h3
    exact Or.inl ⟨v, (T.setVm vm₁).calling g' mk As.toArray, t, U', L, hT, X', hL, e1, e2, hq, st⟩
  · dsimp only [Pt.U, Pt.locs, Pt.cells, Pt.slots] at X' e1 e2 h1 h2 h3 st hcl
    subst h1; subst h2; subst h3
    exact Or.inr ⟨q, (T.setVm vm₁).calling g' mk As.toArray, t, U', L, E, ce, hT, X', hL, e1, e2, hq, hce, hcv, vx_cls hW₁ hcl, st⟩
end Runs
section Rows
variable {p : Program} {l : Launch} {e : Env} {R : Room} {s : State} {m : MethodId} {args : Array Value} {below : List Frame} {meth : Method} {c : Code} {H : Heap} {locs : List Loc} {cells slots : Nat} {Q : State → Prop}
variable {mc ms : Nat} {free : Addr → Prop} {A0 A1 : Nat → Prop} {H0 : Heap} {a : Array Value} {pc : Nat} {ls : Array Slot} {st0 rest : List Value}
theorem vx_keep {st₀ t T' : State} {L : List Loc} (h0 : st₀.heap = H) (e1 : T'.heap = t.heap) (hS : va_S A0 H0 H locs) (hA : ∀ q, q < H.size → A1 q → A0 q) (hf : ∀ q, free q → A0 q) (hL : ∀ q ∈ L, free q.base) (hF : va_F A1 st₀ t) :
    H.size ≤ T'.heap.size ∧ (∀ q : Nat, q < H.size → ¬ A1 q → T'.heap[q]? = H[q]?) ∧ va_S A0 H0 T'.heap (locs ++ L) := by
  obtain ⟨hz, hk⟩ := hF
  rw [h0] at hz hk
  exact ⟨by rw [e1]; exact hz, fun q h1 h2 => by rw [e1]; exact hk q h1 h2,
    ⟨Nat.le_trans hS.1 (by rw [e1]; exact hz), fun q h1 h2 => by rw [e1, hk q (Nat.lt_of_lt_of_le h1 hS.1) (fun z => h2 (hA q (Nat.lt_of_lt_of_le h1 hS.1) z))]; exact hS.2.1 q h1 h2, fun q hq => by
      rcases List.mem_append.mp hq with h | h
      · exact hS.2.2 q h
      · exact hf _ (hL q h)⟩⟩
theorem vx_calli {S SX : Type} {post : Int32 → S → Prop} {px : SX → Prop} {B : S → State → Prop} {BX : String → SX → State → Prop} {AX : Nat → Prop} (hr : vx_Run p l e R s m args below meth c H locs cells slots mc ms (F0 m pc ls st0) rest (va_Qi post B A1 a) (vx_X px BX AX) free) (hS : va_S A0 H0 H locs) (hA : ∀ q, q < H.size → A1 q → A0 q) (hf : ∀ q, free q → A0 q) (hAX : ∀ q, q < H.size → AX q → A0 q)
    (kx : ∀ (E : String) (ce : Cell) (q9 : Addr) (u : SX) (t : State) (H1 : Heap) (locs1 : List Loc), t.heap = H1 → s.vm.Alike t.vm → px u → BX E u t → H.size ≤ H1.size → (∀ q : Nat, q < H.size → ¬ AX q → H1[q]? = H[q]?) → va_S A0 H0 H1 locs1 → H1[q9]? = some ce → ce.vm = .none → s.vm.findClass E = some ce.cls → vx_W p l e R s m args below meth c H1 locs1 (cells + mc) (slots + ms) Q (F0 m pc ls rest) q9)
    (kk : ∀ (r : Int32) (u : S) (t : State) (H1 : Heap) (locs1 : List Loc), t.heap = H1 → s.vm.Alike t.vm → post r u → B u t → H.size ≤ H1.size → (∀ q : Nat, q < H.size → ¬ A1 q → H1[q]? = H[q]?) → va_S A0 H0 H1 locs1 → W p l e R s m args below meth c H1 locs1 (cells + mc) (slots + ms) Q (F0 m (pc + 3) ls (.int r :: rest))) : W p l e R s m args below meth c H locs cells slots Q (F0 m pc ls st0) := by
  intro T hT X
  rcases hr T hT X with ⟨v, st₀, t, T', L, h0, X', hL, e1, e2, ⟨⟨r, u, hv, hp, hb⟩, hF⟩, st⟩ | ⟨q, st₀, t, T', L, E, ce, h0, X', hL, e1, e2, ⟨u, hp, hb, hF⟩, hce, hcv, hcl, st⟩
  · cases hv
    obtain ⟨k1, k2, k3⟩ := vx_keep h0 e1 hS hA hf hL hF
    obtain ⟨t2, a1, b1⟩ := kk r u t T'.heap (locs ++ L) e1.symm (by rw [← e2]; exact X'.warmed.alike) hp hb k1 k2 k3 T' rfl X'
    exact ⟨t2, st t2 a1, b1⟩
  · obtain ⟨k1, k2, k3⟩ := vx_keep h0 e1 hS hAX hf hL hF
    obtain ⟨t2, a1, b1⟩ := kx E ce q u t T'.heap (locs ++ L) e1.symm (by rw [← e2]; exact X'.warmed.alike) hp hb k1 k2 k3 (by rw [e1]; exact hce) hcv hcl T' rfl X'
    exact ⟨t2, st.trans a1, b1⟩
theorem vx_calll {S SX : Type} {post : Int64 → S → Prop} {px : SX → Prop} {B : S → State → Prop} {BX : String → SX → State → Prop} {AX : Nat → Prop} (hr : vx_Run p l e R s m args below meth c H locs cells slots mc ms (F0 m pc ls st0) rest (va_Ql post B A1 a) (vx_X px BX AX) free) (hS : va_S A0 H0 H locs) (hA : ∀ q, q < H.size → A1 q → A0 q) (hf : ∀ q, free q → A0 q) (hAX : ∀ q, q < H.size → AX q → A0 q)
    (kx : ∀ (E : String) (ce : Cell) (q9 : Addr) (u : SX) (t : State) (H1 : Heap) (locs1 : List Loc), t.heap = H1 → s.vm.Alike t.vm → px u → BX E u t → H.size ≤ H1.size → (∀ q : Nat, q < H.size → ¬ AX q → H1[q]? = H[q]?) → va_S A0 H0 H1 locs1 → H1[q9]? = some ce → ce.vm = .none → s.vm.findClass E = some ce.cls → vx_W p l e R s m args below meth c H1 locs1 (cells + mc) (slots + ms) Q (F0 m pc ls rest) q9)
    (kk : ∀ (r : Int64) (u : S) (t : State) (H1 : Heap) (locs1 : List Loc), t.heap = H1 → s.vm.Alike t.vm → post r u → B u t → H.size ≤ H1.size → (∀ q : Nat, q < H.size → ¬ A1 q → H1[q]? = H[q]?) → va_S A0 H0 H1 locs1 → W p l e R s m args below meth c H1 locs1 (cells + mc) (slots + ms) Q (F0 m (pc + 3) ls (.long r :: rest))) : W p l e R s m args below meth c H locs cells slots Q (F0 m pc ls st0) := by
  intro T hT X
  rcases hr T hT X with ⟨v, st₀, t, T', L, h0, X', hL, e1, e2, ⟨⟨r, u, hv, hp, hb⟩, hF⟩, st⟩ | ⟨q, st₀, t, T', L, E, ce, h0, X', hL, e1, e2, ⟨u, hp, hb, hF⟩, hce, hcv, hcl, st⟩
  · cases hv
    obtain ⟨k1, k2, k3⟩ := vx_keep h0 e1 hS hA hf hL hF
    obtain ⟨t2, a1, b1⟩ := kk r u t T'.heap (locs ++ L) e1.symm (by rw [← e2]; exact X'.warmed.alike) hp hb k1 k2 k3 T' rfl X'
    exact ⟨t2, st t2 a1, b1⟩
  · obtain ⟨k1, k2, k3⟩ := vx_keep h0 e1 hS hAX hf hL hF
    obtain ⟨t2, a1, b1⟩ := kx E ce q u t T'.heap (locs ++ L) e1.symm (by rw [← e2]; exact X'.warmed.alike) hp hb k1 k2 k3 (by rw [e1]; exact hce) hcv hcl T' rfl X'
    exact ⟨t2, st.trans a1, b1⟩
theorem vx_callf {S SX : Type} {post : UInt32 → S → Prop} {px : SX → Prop} {B : S → State → Prop} {BX : String → SX → State → Prop} {AX : Nat → Prop} (hr : vx_Run p l e R s m args below meth c H locs cells slots mc ms (F0 m pc ls st0) rest (va_Qf post B A1 a) (vx_X px BX AX) free) (hS : va_S A0 H0 H locs) (hA : ∀ q, q < H.size → A1 q → A0 q) (hf : ∀ q, free q → A0 q) (hAX : ∀ q, q < H.size → AX q → A0 q)
    (kx : ∀ (E : String) (ce : Cell) (q9 : Addr) (u : SX) (t : State) (H1 : Heap) (locs1 : List Loc), t.heap = H1 → s.vm.Alike t.vm → px u → BX E u t → H.size ≤ H1.size → (∀ q : Nat, q < H.size → ¬ AX q → H1[q]? = H[q]?) → va_S A0 H0 H1 locs1 → H1[q9]? = some ce → ce.vm = .none → s.vm.findClass E = some ce.cls → vx_W p l e R s m args below meth c H1 locs1 (cells + mc) (slots + ms) Q (F0 m pc ls rest) q9)
    (kk : ∀ (r : UInt32) (u : S) (t : State) (H1 : Heap) (locs1 : List Loc), t.heap = H1 → s.vm.Alike t.vm → post r u → B u t → H.size ≤ H1.size → (∀ q : Nat, q < H.size → ¬ A1 q → H1[q]? = H[q]?) → va_S A0 H0 H1 locs1 → W p l e R s m args below meth c H1 locs1 (cells + mc) (slots + ms) Q (F0 m (pc + 3) ls (.float r :: rest))) : W p l e R s m args below meth c H locs cells slots Q (F0 m pc ls st0) := by
  intro T hT X
  rcases hr T hT X with ⟨v, st₀, t, T', L, h0, X', hL, e1, e2, ⟨⟨r, u, hv, hp, hb⟩, hF⟩, st⟩ | ⟨q, st₀, t, T', L, E, ce, h0, X', hL, e1, e2, ⟨u, hp, hb, hF⟩, hce, hcv, hcl, st⟩
  · cases hv
    obtain ⟨k1, k2, k3⟩ := vx_keep h0 e1 hS hA hf hL hF
    obtain ⟨t2, a1, b1⟩ := kk r u t T'.heap (locs ++ L) e1.symm (by rw [← e2]; exact X'.warmed.alike) hp hb k1 k2 k3 T' rfl X'
    exact ⟨t2, st t2 a1, b1⟩
  · obtain ⟨k1, k2, k3⟩ := vx_keep h0 e1 hS hAX hf hL hF
    obtain ⟨t2, a1, b1⟩ := kx E ce q u t T'.heap (locs ++ L) e1.symm (by rw [← e2]; exact X'.warmed.alike) hp hb k1 k2 k3 (by rw [e1]; exact hce) hcv hcl T' rfl X'
    exact ⟨t2, st.trans a1, b1⟩
theorem vx_calld {S SX : Type} {post : UInt64 → S → Prop} {px : SX → Prop} {B : S → State → Prop} {BX : String → SX → State → Prop} {AX : Nat → Prop} (hr : vx_Run p l e R s m args below meth c H locs cells slots mc ms (F0 m pc ls st0) rest (va_Qd post B A1 a) (vx_X px BX AX) free) (hS : va_S A0 H0 H locs) (hA : ∀ q, q < H.size → A1 q → A0 q) (hf : ∀ q, free q → A0 q) (hAX : ∀ q, q < H.size → AX q → A0 q)
    (kx : ∀ (E : String) (ce : Cell) (q9 : Addr) (u : SX) (t : State) (H1 : Heap) (locs1 : List Loc), t.heap = H1 → s.vm.Alike t.vm → px u → BX E u t → H.size ≤ H1.size → (∀ q : Nat, q < H.size → ¬ AX q → H1[q]? = H[q]?) → va_S A0 H0 H1 locs1 → H1[q9]? = some ce → ce.vm = .none → s.vm.findClass E = some ce.cls → vx_W p l e R s m args below meth c H1 locs1 (cells + mc) (slots + ms) Q (F0 m pc ls rest) q9)
    (kk : ∀ (r : UInt64) (u : S) (t : State) (H1 : Heap) (locs1 : List Loc), t.heap = H1 → s.vm.Alike t.vm → post r u → B u t → H.size ≤ H1.size → (∀ q : Nat, q < H.size → ¬ A1 q → H1[q]? = H[q]?) → va_S A0 H0 H1 locs1 → W p l e R s m args below meth c H1 locs1 (cells + mc) (slots + ms) Q (F0 m (pc + 3) ls (.double r :: rest))) : W p l e R s m args below meth c H locs cells slots Q (F0 m pc ls st0) := by
  intro T hT X
  rcases hr T hT X with ⟨v, st₀, t, T', L, h0, X', hL, e1, e2, ⟨⟨r, u, hv, hp, hb⟩, hF⟩, st⟩ | ⟨q, st₀, t, T', L, E, ce, h0, X', hL, e1, e2, ⟨u, hp, hb, hF⟩, hce, hcv, hcl, st⟩
  · cases hv
    obtain ⟨k1, k2, k3⟩ := vx_keep h0 e1 hS hA hf hL hF
    obtain ⟨t2, a1, b1⟩ := kk r u t T'.heap (locs ++ L) e1.symm (by rw [← e2]; exact X'.warmed.alike) hp hb k1 k2 k3 T' rfl X'
    exact ⟨t2, st t2 a1, b1⟩
  · obtain ⟨k1, k2, k3⟩ := vx_keep h0 e1 hS hAX hf hL hF
    obtain ⟨t2, a1, b1⟩ := kx E ce q u t T'.heap (locs ++ L) e1.symm (by rw [← e2]; exact X'.warmed.alike) hp hb k1 k2 k3 (by rw [e1]; exact hce) hcv hcl T' rfl X'
    exact ⟨t2, st.trans a1, b1⟩
theorem vx_callv {S SX : Type} {post : S → Prop} {px : SX → Prop} {B : S → State → Prop} {BX : String → SX → State → Prop} {AX : Nat → Prop} (hr : vx_Run p l e R s m args below meth c H locs cells slots mc ms (F0 m pc ls st0) rest (va_Qv post B A1 a) (vx_X px BX AX) free) (hS : va_S A0 H0 H locs) (hA : ∀ q, q < H.size → A1 q → A0 q) (hf : ∀ q, free q → A0 q) (hAX : ∀ q, q < H.size → AX q → A0 q)
    (kx : ∀ (E : String) (ce : Cell) (q9 : Addr) (u : SX) (t : State) (H1 : Heap) (locs1 : List Loc), t.heap = H1 → s.vm.Alike t.vm → px u → BX E u t → H.size ≤ H1.size → (∀ q : Nat, q < H.size → ¬ AX q → H1[q]? = H[q]?) → va_S A0 H0 H1 locs1 → H1[q9]? = some ce → ce.vm = .none → s.vm.findClass E = some ce.cls → vx_W p l e R s m args below meth c H1 locs1 (cells + mc) (slots + ms) Q (F0 m pc ls rest) q9)
    (kk : ∀ (u : S) (t : State) (H1 : Heap) (locs1 : List Loc), t.heap = H1 → s.vm.Alike t.vm → post u → B u t → H.size ≤ H1.size → (∀ q : Nat, q < H.size → ¬ A1 q → H1[q]? = H[q]?) → va_S A0 H0 H1 locs1 → W p l e R s m args below meth c H1 locs1 (cells + mc) (slots + ms) Q (F0 m (pc + 3) ls (rest))) : W p l e R s m args below meth c H locs cells slots Q (F0 m pc ls st0) := by
  intro T hT X
  rcases hr T hT X with ⟨v, st₀, t, T', L, h0, X', hL, e1, e2, ⟨⟨u, hv, hp, hb⟩, hF⟩, st⟩ | ⟨q, st₀, t, T', L, E, ce, h0, X', hL, e1, e2, ⟨u, hp, hb, hF⟩, hce, hcv, hcl, st⟩
  · cases hv
    obtain ⟨k1, k2, k3⟩ := vx_keep h0 e1 hS hA hf hL hF
    obtain ⟨t2, a1, b1⟩ := kk u t T'.heap (locs ++ L) e1.symm (by rw [← e2]; exact X'.warmed.alike) hp hb k1 k2 k3 T' rfl X'
    exact ⟨t2, st t2 a1, b1⟩
  · obtain ⟨k1, k2, k3⟩ := vx_keep h0 e1 hS hAX hf hL hF
    obtain ⟨t2, a1, b1⟩ := kx E ce q u t T'.heap (locs ++ L) e1.symm (by rw [← e2]; exact X'.warmed.alike) hp hb k1 k2 k3 (by rw [e1]; exact hce) hcv hcl T' rfl X'
    exact ⟨t2, st.trans a1, b1⟩
end Rows
section Ends
variable {p : Program} {l : Launch} {e : Env} {R : Room} {s : State} {m : MethodId} {args : Array Value} {below : List Frame} {meth : Method} {c : Code} {H : Heap} {locs : List Loc} {cells slots : Nat} {Q : State → Prop}
variable {mc ms : Nat} {free : Addr → Prop} {A0 A1 : Nat → Prop} {H0 : Heap} {a : Array Value} {ls : Array Slot} {st0 rest : List Value}
variable {Qc : Array Value → State → Outcome → State → Prop} {XC : String → State → State → Prop}
/-- what a body that may throw owes at its end -/
def vx_MQ (below : List Frame) (Qc : Array Value → State → Outcome → State → Prop) (XC : String → State → State → Prop) (a : Array Value) (s : State) (mc ms : Nat) (free : Addr → Prop) : State → Prop := fun t =>
  ∃ o, t.status = .running ∧ Ended t below o ∧ vx_Q Qc XC mc ms free a s o t
theorem vx_ret {g : JFrame} {mc ms : Nat} (k : W p l e R s m args below meth c H locs cells slots (MQ below Qc args s mc ms free) g) : W p l e R s m args below meth c H locs cells slots (vx_MQ below Qc XC args s mc ms free) g := by
  intro T hT X
  obtain ⟨t, a1, o, b1, b2, b3, b4⟩ := k T hT X
  exact ⟨t, a1, o, b1, b2, Or.inl ⟨b3, b4⟩⟩
/-- not caught here: it goes on to the caller -/
theorem vx_widen {g : JFrame} {q : Addr} {k n : Nat} (h1 : cells ≤ k) (h2 : slots ≤ n) (kk : vx_W p l e R s m args below meth c H locs k n Q g q) : vx_W p l e R s m args below meth c H locs cells slots Q g q := fun T hT X => kk T hT (stand_widen X h1 h2)
theorem vx_out {pc : Nat} {E : String} {ce : Cell} {q : Addr} {mc ms : Nat} (hout : ∀ x ∈ c.exceptionTable.toList, covers x pc = false) (hlocks : meth.locks = false) (hcell : H[q]? = some ce) (hv : ce.vm = .none) (hcl : s.vm.findClass E = some ce.cls)
    (hx : ∀ t : State, t.heap = H → s.vm.Alike t.vm → XC E s t) (hf : ∀ z ∈ locs, free z.base) (hc : cells ≤ mc) (hs : slots ≤ ms) :
    vx_W p l e R s m args below meth c H locs cells slots (vx_MQ below Qc XC args s mc ms free) (F0 m pc ls rest) q := by
  intro T hT X
  obtain ⟨st1, hrun, hend, hW, hsm⟩ := X.leaveThrown q (g := F0 m pc ls rest) rfl rfl rfl hout hlocks
  have hcell9 : (T.setFrames (.throwing q :: below)).heap[q]? = some ce := by
    show T.heap[q]? = some ce
    rw [hT]; exact hcell
  exact ⟨_, st1, .threw q, hrun, hend, Or.inr ⟨q, rfl, E, ce, locs, hx _ hT hW.alike, hcell9, hv, hcl, hW, hsm.mono hc hs, hf⟩⟩
theorem vx_frame {U : State} {k n : Nat} (h : s.sameButNew ({ U with vm := s.vm } : State) locs k n) : s.heap.size ≤ U.heap.size ∧ ∀ q : Nat, q < s.heap.size → (∀ z ∈ locs, z.base ≠ q) → U.heap[q]? = s.heap[q]? := by
  obtain ⟨-, h2, -, -, -, h6⟩ := h
  refine ⟨h2, fun q hq hz => ?_⟩
  obtain ⟨c9, e1, e2, e3, e4⟩ := h6 q _ (Array.getElem?_eq_getElem hq)
  have hs : c9.slots = (s.heap[q]).slots := Array.ext_getElem? fun i => e4 i fun hm => hz _ hm rfl
  have h9 : c9 = s.heap[q] := by
    rw [hs] at e2
    exact e2
  have e5 : U.heap[q]? = some c9 := e1
  rw [e5, h9, Array.getElem?_eq_getElem hq]
/-- the words of a throw but the four that speak of the heap -/
def vx_no (w : Cond) : Bool := decide (w ≠ .isRef (.static Bundle.tN "UNASSIGNED_STACK" Bundle.steD)) && decide (w ≠ .isRef (.static Bundle.tN "SUPPRESSED_SENTINEL" Bundle.listD)) && decide (w ≠ .laysStatic Bundle.tN "UNASSIGNED_STACK" Bundle.steD) && decide (w ≠ .laysStatic Bundle.tN "SUPPRESSED_SENTINEL" Bundle.listD)
def vx_at0 (own : String) (ic : Nat) (X : String) (names : List String) : List Cond := (Bundle.ownAtoms0 own ic X names).filter vx_no
def vx_atS (own : String) (ic : Nat) (X : String) (names : List String) : List Cond := (Bundle.ownAtoms own ic X names).filter vx_no
/-- a word that the tables alone decide, or a good one -/
def vx_ot (w : Cond) : Bool := w.onTables || goodWord w
theorem vx_ot_at {args a' : Array Value} {s U : State} {w : Cond} (hW : s.WarmedH U.vm) (hvm : s.vm = U.vm) (hg : vx_ot w = true) (h : w.before args s = true) : w.before a' U = true := by
  simp only [vx_ot, Bool.or_eq_true] at hg
  rcases hg with hg | hg
  · exact va_tabs hg hvm h
  · exact word_at hW (good_of_word hg) h
/-- a list's words: the good ones out of the method's own list, the others by premises of their own -/
theorem vx_hat {args : Array Value} {s : State} {L B : List Cond} (h1 : ∀ w ∈ L.filter goodWord, w.before args s = true) (h2 : ∀ w ∈ L.filter (fun w => !goodWord w), w ∈ B) (h3 : ∀ w ∈ B, w.before args s = true) : ∀ w ∈ L, w.before args s = true := by
  intro w hw
  by_cases g : goodWord w = true
  · exact h1 w (List.mem_filter.mpr ⟨hw, g⟩)
  · refine h3 w (h2 w (List.mem_filter.mpr ⟨hw, ?_⟩))
    show (!goodWord w) = true
    cases hgw : goodWord w
    · rfl
    · exact absurd hgw g
theorem vx_c {args : Array Value} {s : State} {w : Cond} {B : List Cond} (h : w.before args s = true) (t : ∀ w ∈ B, w.before args s = true) : ∀ w' ∈ w :: B, w'.before args s = true := fun w' h' => (List.mem_cons.mp h').elim (fun e => by rw [e]; exact h) (t w')
theorem vx_n {args : Array Value} {s : State} : ∀ w ∈ ([] : List Cond), w.before args s = true := fun _ h => nomatch h
theorem vx_own {args : Array Value} {s : State} {L : List Cond} (h1 : ∀ w ∈ L.filter vx_no, w.before args s = true)
    (hU : (Cond.isRef (.static Bundle.tN "UNASSIGNED_STACK" Bundle.steD)).before args s = true) (hN : (Cond.isRef (.static Bundle.tN "SUPPRESSED_SENTINEL" Bundle.listD)).before args s = true)
    (lU : (Cond.laysStatic Bundle.tN "UNASSIGNED_STACK" Bundle.steD).before args s = true) (lN : (Cond.laysStatic Bundle.tN "SUPPRESSED_SENTINEL" Bundle.listD).before args s = true) : ∀ w ∈ L, w.before args s = true := by
  intro w hw
  by_cases e1 : w = .isRef (.static Bundle.tN "UNASSIGNED_STACK" Bundle.steD)
  · rw [e1]; exact hU
  · by_cases e2 : w = .isRef (.static Bundle.tN "SUPPRESSED_SENTINEL" Bundle.listD)
    · rw [e2]; exact hN
    · by_cases e3 : w = .laysStatic Bundle.tN "UNASSIGNED_STACK" Bundle.steD
      · rw [e3]; exact lU
      · by_cases e4 : w = .laysStatic Bundle.tN "SUPPRESSED_SENTINEL" Bundle.listD
        · rw [e4]; exact lN
        · exact h1 w (List.mem_filter.mpr ⟨hw, by unfold vx_no; rw [decide_eq_true e1, decide_eq_true e2, decide_eq_true e3, decide_eq_true e4]; rfl⟩)
/-- where a static field lies, its class's statics cell in H -/
def vx_L (C n d : String) (A : Nat → Prop) (U : State) (H : Heap) : Prop := ∃ (c : ClassId) (k : Class) (i : Nat) (f : Field) (a : Nat) (cell : Cell), U.vm.findClass C = some c ∧ U.fieldFound? C n d = some (c, k, i, f) ∧ f.isStatic = true ∧ k.statics = some a ∧ H[a]? = some cell ∧ cell.vm.isStatics = true ∧ cell.cls = c ∧ f.slot < cell.slots.size ∧ k.staticTypes[f.slot]? = some f.type ∧ ¬ A a
theorem vx_L.moved {C n d : String} {A : Nat → Prop} {u U : State} {H : Heap} (hvm : u.vm.Alike U.vm) (h : vx_L C n d A u H) : vx_L C n d A U H := by
  obtain ⟨c, k, i, f, a, cell, h1, h2, h3, h4, h5, h6, h7, h8, h9, h10⟩ := h
  obtain ⟨k', hi', he⟩ := State.fieldFound?_setVm hvm h2
  exact ⟨c, k', i, f, a, cell, by rw [hvm.findClass]; exact h1, hi', h3, by rw [he]; exact h4, h5, h6, h7, h8, by rw [he]; exact h9, h10⟩
theorem vx_L.kept {C n d : String} {A : Nat → Prop} {U : State} {H H1 : Heap} (h : vx_L C n d A U H) (hq : ∀ a : Nat, a < H.size → ¬ A a → H1[a]? = H[a]?) : vx_L C n d A U H1 := by
  obtain ⟨c, k, i, f, a, cell, h1, h2, h3, h4, h5, h6, h7, h8, h9, h10⟩ := h
  exact ⟨c, k, i, f, a, cell, h1, h2, h3, h4, by rw [hq a (Array.getElem?_eq_some_iff.mp h5).1 h10]; exact h5, h6, h7, h8, h9, h10⟩
theorem vx_L.narrow {C n d : String} {A B : Nat → Prop} {U : State} {H : Heap} (h : vx_L C n d A U H) (hAB : ∀ q, B q → A q) : vx_L C n d B U H := by
  obtain ⟨c, k, i, f, a, cell, h1, h2, h3, h4, h5, h6, h7, h8, h9, h10⟩ := h
  exact ⟨c, k, i, f, a, cell, h1, h2, h3, h4, h5, h6, h7, h8, h9, fun z => h10 (hAB _ z)⟩
theorem vx_L.word {C n d : String} {A : Nat → Prop} {s : State} {args : Array Value} (h : vx_L C n d A s s.heap) : (Cond.laysStatic C n d).before args s = true := by
  obtain ⟨c, k, i, f, a, cell, h1, h2, h3, h4, h5, h6, h7, h8, h9, -⟩ := h
  show (Cond.laysStatic C n d).holds args s none s [] = true
  exact Cond.laysStatic_of h1 h2 h3 h4 h5 h6 h7 h8 h9
/-- .. and what it holds: null or some reference -/
def vx_Zq (C n d : String) (A : Nat → Prop) (U : State) (H : Heap) : Prop := va_Zq C n d A U H ∧ vx_L C n d A U H
theorem vx_Zq.moved {C n d : String} {A : Nat → Prop} {u U : State} {H : Heap} (hvm : u.vm.Alike U.vm) (h : vx_Zq C n d A u H) : vx_Zq C n d A U H := ⟨va_Zq.moved hvm h.1, vx_L.moved hvm h.2⟩
theorem vx_Zq.kept {C n d : String} {A : Nat → Prop} {U : State} {H H1 : Heap} (h : vx_Zq C n d A U H) (hq : ∀ a : Nat, a < H.size → ¬ A a → H1[a]? = H[a]?) : vx_Zq C n d A U H1 := ⟨va_Zq.kept h.1 hq, vx_L.kept h.2 hq⟩
theorem vx_Zq.narrow {C n d : String} {A B : Nat → Prop} {U : State} {H : Heap} (h : vx_Zq C n d A U H) (hAB : ∀ q, B q → A q) : vx_Zq C n d B U H := ⟨va_Zq.narrow h.1 hAB, vx_L.narrow h.2 hAB⟩
theorem vx_Zqof {args : Array Value} {s : State} {C n d : String} {A : Nat → Prop} (hl : (Cond.laysStatic C n d).before args s = true) (hini : (Cond.initialized C).before args s = true) (h : (Cond.isRef (.static C n d)).before args s = true) (hA : ∀ a : Nat, a < s.heap.size → ¬ A a) : vx_Zq C n d A s s.heap := by
  refine ⟨va_Zqof hl hini h hA, ?_⟩
  obtain ⟨c, k, i, f, a, cell, h1, h2, h3, h4, h5, h6, h7, h8, h9⟩ := Cond.laysStatic_spec hl
  exact ⟨c, k, i, f, a, cell, h1, h2, h3, h4, h5, h6, h7, h8, h9, hA a (Array.getElem?_eq_some_iff.mp h5).1⟩
theorem vx_isRef {C n d : String} {v : Value} {A : Nat → Prop} {s : State} {args : Array Value} (h : va_Z C n d v A s s.heap) (hv : v.isRef = true) : (Cond.isRef (.static C n d)).before args s = true := by
  obtain ⟨cf, kf, fi, f, a, cell, h1, h2, h3, h4, h5, h6, h7, -⟩ := h
  have he : (Term.static C n d).eval args s none [] s = some v := by
    simp [Term.eval, State.fieldNamed?, h1, h2, h4, h5, h6, h7]
  simp only [Cond.before, Cond.holds, Cond.value, he]
  cases v <;> simp_all [Value.isRef]
theorem vx_isRefq {C n d : String} {A : Nat → Prop} {s : State} {args : Array Value} (h : va_Zq C n d A s s.heap) : (Cond.isRef (.static C n d)).before args s = true := by
  rcases h with h | ⟨t, h⟩
  · exact vx_isRef h rfl
  · exact vx_isRef h rfl
/-- the same frame, seen from here: as if the method were called anew in this heap -/
theorem vx_rebase {T : State} (X : Stand p l e R s m args below meth c T locs cells slots) {R' : Room} (hf : R'.frames ≤ R.frames) (hl : R'.locals ≤ R.locals) (hc : cells + R'.cells ≤ R.cells) (hs : slots + R'.slots ≤ R.slots) :
    Stand p l e R' ((T.setVm s.vm).setFrames (.invoking m args :: below)) m args below meth c T [] 0 0 := by
  have htop : (T.setVm s.vm).topJava?.isSome := X.here.top
  have hF : ((T.setVm s.vm).setFrames (.invoking m args :: below)).frames = .invoking m args :: below := State.frames_setFrames _ (State.cur_lt_of_top htop)
  obtain ⟨g₀, hg0⟩ := Option.isSome_iff_exists.mp htop
  obtain ⟨r, hr⟩ := State.topJava?_eq_some.mp hg0
  have hl9 : e.platform.stackLimits (T.setVm s.vm).me = e.platform.stackLimits s.me := X.limits
  have hb9 : (T.setVm s.vm).me.stackBytes = s.me.stackBytes := X.bytes
  refine ⟨X.admits, X.cas, X.clock, hF, ?_, X.hears, X.method, X.code, X.here, X.tail, X.warmed, ?_, ?_, ?_⟩
  · have h := X.room
    have hU : ((T.setVm s.vm).setFrames (.invoking m args :: below)).localsInUse = s.localsInUse := by
      rw [State.localsInUse_invoking hF (meth := meth) (c := c) X.method X.code, State.localsInUse_invoking X.frames X.method X.code]
    simp only [State.hasRoom, Bool.and_eq_true, decide_eq_true_eq] at h ⊢
    obtain ⟨⟨⟨⟨h1, h2, h3, h4, h5, h6⟩, h7⟩, h8⟩, h9⟩ := h
    rw [X.frames, List.length_cons] at h2 h3
    have q1 := X.heapSize
    have q2 := X.used
    simp only [hF, hU, List.length_cons, State.stackLimits_setFrames, State.stackBytes_setFrames, hl9, hb9]
    refine ⟨⟨⟨⟨by omega, by omega, by omega, by omega, by omega, h6⟩, ?_⟩, ?_⟩, X.book⟩
    · show T.heap.size + R'.cells ≤ e.platform.maxCells
      omega
    · show T.slotsUsed + R'.slots ≤ e.platform.maxSlots
      omega
  · rw [State.stackLimits_setFrames]; rfl
  · rw [State.stackBytes_setFrames]; rfl
  · refine ⟨?_, Nat.le_refl _, Nat.le_refl _, ?_, ?_, fun a c9 h9 => ⟨c9, h9, rfl, rfl, fun _ _ => rfl⟩⟩
    · obtain ⟨t, ht, -⟩ := State.frames_cons hr
      show T.setVm s.vm = { ((T.setVm s.vm).setFrames (.invoking m args :: below)).setFrames (T.setVm s.vm).frames with heap := T.heap, slotsUsed := T.slotsUsed }
      rw [State.setFrames_setFrames, State.setFrames_self ht]
      rfl
    · show T.slotsUsed = T.slotsUsed + ((T.heap.toList.drop T.heap.size).map (·.slots.size)).sum
      rw [List.drop_eq_nil_of_le (Nat.le_of_eq Array.length_toList)]
      rfl
    · show ((T.heap.toList.drop T.heap.size).map (·.slots.size)).sum ≤ 0
      rw [List.drop_eq_nil_of_le (Nat.le_of_eq Array.length_toList)]
      exact Nat.le_refl _
/-- 'throw new E()': new; dup; invokespecial; athrow -/
theorem vx_throw0 {cc : ByteArray} {pc : Nat} (hexec : p.tables.exec = Jvm.exec) (hb : c.code = cc) (hl : l.stackTraces = false) {own cls : String} {names : List String} {ik ic mc ms : Nat} {A : Nat → Prop}
    (hown : s.vm.findClass own = some m.cls) (hcls : Bundle.fit cls = true) (hnames : ∀ n ∈ names, Bundle.fit n = true)
    (hk : (Cond.classLink own ik cls).before args s = true) (hini : (Cond.initialized cls).before args s = true) (hat : ∀ w ∈ vx_at0 own ic cls names, w.before args s = true)
    (hgood : ∀ w ∈ Cond.classLink own ik cls :: Cond.initialized cls :: vx_at0 own ic cls names, vx_ot w = true)
    (hU : vx_Zq Bundle.tN "UNASSIGNED_STACK" Bundle.steD A s s.heap) (hN : vx_Zq Bundle.tN "SUPPRESSED_SENTINEL" Bundle.listD A s s.heap) (hS : va_S A s.heap H locs) (hsize : ls.size = c.maxLocals)
    (d0 : decode cc pc = .ok (.new ik, 3)) (d3 : decode cc (pc + 3) = .ok (.dup, 1)) (d4 : decode cc (pc + 4) = .ok (.invokespecial ic, 3)) (d7 : decode cc (pc + 7) = .ok (.athrow, 1))
    (hout : ∀ x ∈ c.exceptionTable.toList, covers x (pc + 7) = false)
    (hRframes : names.length + 3 < R.frames) (hRlocals : (rest.map fun v => v.category).sum + (13 * (names.length + 1) + 42) ≤ R.locals) (hRcells : cells + 1 ≤ R.cells) (hRslots : slots + 6 ≤ R.slots) (hlocks : meth.locks = false)
    (hx : ∀ t : State, s.vm.Alike t.vm → H.size ≤ t.heap.size → (∀ q : Nat, q < H.size → t.heap[q]? = H[q]?) → XC cls s t)
    (hf : ∀ z ∈ locs, free z.base) (hc : cells + 1 ≤ mc) (hs : slots + 6 ≤ ms) :
    W p l e R s m args below meth c H locs cells slots (vx_MQ below Qc XC args s mc ms free) (F0 m pc ls rest) := by
  intro T hT X
  have htr : e.platform.stackTraces = false := (show e.platform.stackTraces = l.stackTraces by rw [X.admits.platform]).trans hl
  have Y := vx_rebase X (R' := { frames := R.frames, locals := R.locals, cells := 1, slots := 6 }) (Nat.le_refl _) (Nat.le_refl _) hRcells hRslots
  obtain ⟨s', hA⟩ : ∃ z, z = (T.setVm s.vm).setFrames (.invoking m args :: below) := ⟨_, rfl⟩
  rw [← hA] at Y
  have hvm : s'.vm = s.vm := by rw [hA]; rfl
  have hhp : s'.heap = H := by rw [hA]; exact hT
  have hW0 : s.WarmedH s'.vm := by rw [hvm]; exact State.WarmedH.refl s
  have hat' : ∀ w ∈ vx_at0 own ic cls names, w.before args s' = true := fun w hw => vx_ot_at hW0 hvm.symm (hgood w (List.mem_cons_of_mem _ (List.mem_cons_of_mem _ hw))) (hat w hw)
  have hk' : (Cond.classLink own ik cls).before args s' = true := vx_ot_at hW0 hvm.symm (hgood _ List.mem_cons_self) hk
  have hini' : (Cond.initialized cls).before args s' = true := vx_ot_at hW0 hvm.symm (hgood _ (List.mem_cons_of_mem _ List.mem_cons_self)) hini
  have hU' : vx_Zq Bundle.tN "UNASSIGNED_STACK" Bundle.steD A s' s'.heap := by rw [hhp]; exact vx_Zq.moved hW0.alike (hU.kept hS.2.1)
  have hN' : vx_Zq Bundle.tN "SUPPRESSED_SENTINEL" Bundle.listD A s' s'.heap := by rw [hhp]; exact vx_Zq.moved hW0.alike (hN.kept hS.2.1)
  have h : ∀ w ∈ Bundle.ownAtoms0 own ic cls names, w.before args s' = true := vx_own hat' (vx_isRefq hU'.1) (vx_isRefq hN'.1) hU'.2.word hN'.2.word
  have hown' : s'.vm.findClass own = some m.cls := by rw [hvm]; exact hown
  have hins : (Cond.instantiable cls 6).before args s' = true := h _ (by simp [Bundle.ownAtoms0])
  obtain ⟨vm₁, cX, kX, hfX, hkX, -, -, X₁, st1⟩ := Y.newCold hexec (own := own) (C := cls) (index := ik) (n := 6) hown' hk' hins hini'
    (g := F0 m pc ls rest) rfl (by rw [hb]; exact d0) (Nat.le_refl _) (Nat.le_refl _)
  generalize hT1 : (T.setVm vm₁).pushCell { cls := cX, slots := kX.instanceTypes.map defaultValue, vm := .none } = T1 at X₁ st1
  have hcat : (Value.ref T.heap.size).category = 1 := rfl
  have hcellA : T1.heap[T.heap.size]? = some (freshCell cX kX) := by rw [← hT1]; exact State.heap_pushCell_size _ _
  have d3' : decode c.code (pc + 3) = .ok (.dup, 1) := by rw [hb]; exact d3
  obtain ⟨U, hsteps, hrun, hend, hW, hsame, ce, hce, hO⟩ := X₁.ctorThrow0 hexec htr (own := own) (cls := cls) (names := names) (ic := ic) hown' hcls hnames h (fun x hx => nomatch hx) hfX hkX hcellA (by rw [hhp, hT]; exact Nat.le_refl _)
    (g := { method := m, pc := pc + 4, locals := ls, stack := .ref T.heap.size :: .ref T.heap.size :: rest, locked := none }) rfl hsize rfl rfl (rest := rest) rfl
    (by rw [hb]; exact d4) (by rw [hb]; exact d7) hout hRframes (by simp only [List.map_cons, List.sum_cons, hcat]; omega) hlocks
  obtain ⟨f1, f2⟩ := vx_frame hsame
  rw [hhp] at f1 f2
  have hWs : s.WarmedH U.vm := State.WarmedH.trans hW0 hW
  have hcl : s.vm.findClass cls = some ce.cls := by
    have h9 := hO.cls
    rw [hvm] at h9
    exact h9
  have hall : s.sameButNew ({ U with vm := s.vm } : State) locs mc ms := by
    subst hA
    obtain ⟨e1, e2⟩ := hsame
    rw [State.setFrames_setFrames] at e1
    have h2 : (T.setVm s.vm).sameButNew ({ U with vm := s.vm } : State) [] (0 + 1) (0 + 6) := ⟨e1, e2⟩
    have h3 := X.same.trans h2
    rw [List.append_nil] at h3
    exact h3.mono hc hs
  refine ⟨U, ?_, .threw T.heap.size, hrun, hend, Or.inr ⟨T.heap.size, rfl, cls, ce, locs, hx U hWs.alike f1 (fun q hq => f2 q hq (fun z hz => nomatch hz)), hce, hO.vm, hcl, hWs, hall, hf⟩⟩
  refine st1 _ ?_
  show Steps p.tables e below (T1.setTop { method := m, pc := pc + 3, locals := ls, stack := .ref T.heap.size :: rest, locked := none }) _
  jvm_step X₁.here [X₁.here.top, hexec, d3', Value.category]
  exact hsteps
/-- 'throw new E("text")': new; dup; ldc; invokespecial; athrow -/
theorem vx_throwS {cc : ByteArray} {pc : Nat} (hexec : p.tables.exec = Jvm.exec) (hb : c.code = cc) (hl : l.stackTraces = false) {own cls text : String} {names : List String} {ik is ic mc ms sa : Nat} {A : Nat → Prop}
    (hown : s.vm.findClass own = some m.cls) (hcls : Bundle.fit cls = true) (hnames : ∀ n ∈ names, Bundle.fit n = true)
    (hk : (Cond.classLink own ik cls).before args s = true) (hini : (Cond.initialized cls).before args s = true) (hstr : vk_R own is text sa s) (hat : ∀ w ∈ vx_atS own ic cls names, w.before args s = true)
    (hgood : ∀ w ∈ Cond.classLink own ik cls :: Cond.initialized cls :: vx_atS own ic cls names, vx_ot w = true)
    (hU : vx_Zq Bundle.tN "UNASSIGNED_STACK" Bundle.steD A s s.heap) (hN : vx_Zq Bundle.tN "SUPPRESSED_SENTINEL" Bundle.listD A s s.heap) (hS : va_S A s.heap H locs) (hsize : ls.size = c.maxLocals)
    (d0 : decode cc pc = .ok (.new ik, 3)) (d3 : decode cc (pc + 3) = .ok (.dup, 1)) (d4 : decode cc (pc + 4) = .ok (.ldc is, 2)) (d6 : decode cc (pc + 6) = .ok (.invokespecial ic, 3)) (d9 : decode cc (pc + 9) = .ok (.athrow, 1))
    (hout : ∀ x ∈ c.exceptionTable.toList, covers x (pc + 9) = false)
    (hRframes : names.length + 3 < R.frames) (hRlocals : (rest.map fun v => v.category).sum + (13 * (names.length + 1) + 43) ≤ R.locals) (hRcells : cells + 1 ≤ R.cells) (hRslots : slots + 6 ≤ R.slots) (hlocks : meth.locks = false)
    (hx : ∀ t : State, s.vm.Alike t.vm → H.size ≤ t.heap.size → (∀ q : Nat, q < H.size → t.heap[q]? = H[q]?) → XC cls s t)
    (hf : ∀ z ∈ locs, free z.base) (hc : cells + 1 ≤ mc) (hs : slots + 6 ≤ ms) :
    W p l e R s m args below meth c H locs cells slots (vx_MQ below Qc XC args s mc ms free) (F0 m pc ls rest) := by
  intro T hT X
  have htr : e.platform.stackTraces = false := (show e.platform.stackTraces = l.stackTraces by rw [X.admits.platform]).trans hl
  have Y := vx_rebase X (R' := { frames := R.frames, locals := R.locals, cells := 1, slots := 6 }) (Nat.le_refl _) (Nat.le_refl _) hRcells hRslots
  obtain ⟨s', hA⟩ : ∃ z, z = (T.setVm s.vm).setFrames (.invoking m args :: below) := ⟨_, rfl⟩
  rw [← hA] at Y
  have hvm : s'.vm = s.vm := by rw [hA]; rfl
  have hhp : s'.heap = H := by rw [hA]; exact hT
  have hW0 : s.WarmedH s'.vm := by rw [hvm]; exact State.WarmedH.refl s
  have hat' : ∀ w ∈ vx_atS own ic cls names, w.before args s' = true := fun w hw => vx_ot_at hW0 hvm.symm (hgood w (List.mem_cons_of_mem _ (List.mem_cons_of_mem _ hw))) (hat w hw)
  have hk' : (Cond.classLink own ik cls).before args s' = true := vx_ot_at hW0 hvm.symm (hgood _ List.mem_cons_self) hk
  have hini' : (Cond.initialized cls).before args s' = true := vx_ot_at hW0 hvm.symm (hgood _ (List.mem_cons_of_mem _ List.mem_cons_self)) hini
  have hU' : vx_Zq Bundle.tN "UNASSIGNED_STACK" Bundle.steD A s' s'.heap := by rw [hhp]; exact vx_Zq.moved hW0.alike (hU.kept hS.2.1)
  have hN' : vx_Zq Bundle.tN "SUPPRESSED_SENTINEL" Bundle.listD A s' s'.heap := by rw [hhp]; exact vx_Zq.moved hW0.alike (hN.kept hS.2.1)
  have h : ∀ w ∈ Bundle.ownAtoms own ic cls names, w.before args s' = true := vx_own hat' (vx_isRefq hU'.1) (vx_isRefq hN'.1) hU'.2.word hN'.2.word
  have hown' : s'.vm.findClass own = some m.cls := by rw [hvm]; exact hown
  have hins : (Cond.instantiable cls 6).before args s' = true := h _ (by simp [Bundle.ownAtoms])
  obtain ⟨vm₁, cX, kX, hfX, hkX, -, -, X₁, st1⟩ := Y.newCold hexec (own := own) (C := cls) (index := ik) (n := 6) hown' hk' hins hini'
    (g := F0 m pc ls rest) rfl (by rw [hb]; exact d0) (Nat.le_refl _) (Nat.le_refl _)
  generalize hT1 : (T.setVm vm₁).pushCell { cls := cX, slots := kX.instanceTypes.map defaultValue, vm := .none } = T1 at X₁ st1
  have hcat : (Value.ref T.heap.size).category = 1 := rfl
  have hcellA : T1.heap[T.heap.size]? = some (freshCell cX kX) := by rw [← hT1]; exact State.heap_pushCell_size _ _
  have d3' : decode c.code (pc + 3) = .ok (.dup, 1) := by rw [hb]; exact d3
  have d4' : decode c.code (pc + 4) = .ok (.ldc is, 2) := by rw [hb]; exact d4
  have hstr' : vk_R own is text sa s' := vk_R.warm hW0 hstr
  obtain ⟨U, hsteps, hrun, hend, hW, hsame, ce, hce, hO⟩ := X₁.ctorThrowS hexec htr (own := own) (cls := cls) (names := names) (ic := ic) hown' hcls hnames h (fun x hx => nomatch hx) hfX hkX hcellA (by rw [hhp, hT]; exact Nat.le_refl _) (msg := .ref sa) rfl
    (g := { method := m, pc := pc + 6, locals := ls, stack := .ref sa :: .ref T.heap.size :: .ref T.heap.size :: rest, locked := none }) rfl hsize rfl rfl (rest := rest) rfl
    (by rw [hb]; exact d6) (by rw [hb]; exact d9) hout hRframes (by simp only [List.map_cons, List.sum_cons, hcat]; omega) hlocks
  obtain ⟨f1, f2⟩ := vx_frame hsame
  rw [hhp] at f1 f2
  have hWs : s.WarmedH U.vm := State.WarmedH.trans hW0 hW
  have hcl : s.vm.findClass cls = some ce.cls := by
    have h9 := hO.cls
    rw [hvm] at h9
    exact h9
  have hall : s.sameButNew ({ U with vm := s.vm } : State) locs mc ms := by
    subst hA
    obtain ⟨e1, e2⟩ := hsame
    rw [State.setFrames_setFrames] at e1
    have h2 : (T.setVm s.vm).sameButNew ({ U with vm := s.vm } : State) [] (0 + 1) (0 + 6) := ⟨e1, e2⟩
    have h3 := X.same.trans h2
    rw [List.append_nil] at h3
    exact h3.mono hc hs
  refine ⟨U, ?_, .threw T.heap.size, hrun, hend, Or.inr ⟨T.heap.size, rfl, cls, ce, locs, hx U hWs.alike f1 (fun q hq => f2 q hq (fun z hz => nomatch hz)), hce, hO.vm, hcl, hWs, hall, hf⟩⟩
  refine st1 _ ?_
  show Steps p.tables e below (T1.setTop { method := m, pc := pc + 3, locals := ls, stack := .ref T.heap.size :: rest, locked := none }) _
  jvm_step X₁.here [X₁.here.top, hexec, d3', Value.category]
  exact X₁.ldcString hexec (own := own) (text := text) (index := is) (a := sa) hown' hstr'.1 hstr'.2
    (g := { method := m, pc := pc + 4, locals := ls, stack := .ref T.heap.size :: .ref T.heap.size :: rest, locked := none }) rfl d4' _ hsteps
/-- 'throw new E("text")', the text by a wide index -/
theorem vx_throwSW {cc : ByteArray} {pc : Nat} (hexec : p.tables.exec = Jvm.exec) (hb : c.code = cc) (hl : l.stackTraces = false) {own cls text : String} {names : List String} {ik is ic mc ms sa : Nat} {A : Nat → Prop}
    (hown : s.vm.findClass own = some m.cls) (hcls : Bundle.fit cls = true) (hnames : ∀ n ∈ names, Bundle.fit n = true)
    (hk : (Cond.classLink own ik cls).before args s = true) (hini : (Cond.initialized cls).before args s = true) (hstr : vk_R own is text sa s) (hat : ∀ w ∈ vx_atS own ic cls names, w.before args s = true)
    (hgood : ∀ w ∈ Cond.classLink own ik cls :: Cond.initialized cls :: vx_atS own ic cls names, vx_ot w = true)
    (hU : vx_Zq Bundle.tN "UNASSIGNED_STACK" Bundle.steD A s s.heap) (hN : vx_Zq Bundle.tN "SUPPRESSED_SENTINEL" Bundle.listD A s s.heap) (hS : va_S A s.heap H locs) (hsize : ls.size = c.maxLocals)
    (d0 : decode cc pc = .ok (.new ik, 3)) (d3 : decode cc (pc + 3) = .ok (.dup, 1)) (d4 : decode cc (pc + 4) = .ok (.ldc_w is, 3)) (d7 : decode cc (pc + 7) = .ok (.invokespecial ic, 3)) (d10 : decode cc (pc + 10) = .ok (.athrow, 1))
    (hout : ∀ x ∈ c.exceptionTable.toList, covers x (pc + 10) = false)
    (hRframes : names.length + 3 < R.frames) (hRlocals : (rest.map fun v => v.category).sum + (13 * (names.length + 1) + 43) ≤ R.locals) (hRcells : cells + 1 ≤ R.cells) (hRslots : slots + 6 ≤ R.slots) (hlocks : meth.locks = false)
    (hx : ∀ t : State, s.vm.Alike t.vm → H.size ≤ t.heap.size → (∀ q : Nat, q < H.size → t.heap[q]? = H[q]?) → XC cls s t)
    (hf : ∀ z ∈ locs, free z.base) (hc : cells + 1 ≤ mc) (hs : slots + 6 ≤ ms) :
    W p l e R s m args below meth c H locs cells slots (vx_MQ below Qc XC args s mc ms free) (F0 m pc ls rest) := by
  intro T hT X
  have htr : e.platform.stackTraces = false := (show e.platform.stackTraces = l.stackTraces by rw [X.admits.platform]).trans hl
  have Y := vx_rebase X (R' := { frames := R.frames, locals := R.locals, cells := 1, slots := 6 }) (Nat.le_refl _) (Nat.le_refl _) hRcells hRslots
  obtain ⟨s', hA⟩ : ∃ z, z = (T.setVm s.vm).setFrames (.invoking m args :: below) := ⟨_, rfl⟩
  rw [← hA] at Y
  have hvm : s'.vm = s.vm := by rw [hA]; rfl
  have hhp : s'.heap = H := by rw [hA]; exact hT
  have hW0 : s.WarmedH s'.vm := by rw [hvm]; exact State.WarmedH.refl s
  have hat' : ∀ w ∈ vx_atS own ic cls names, w.before args s' = true := fun w hw => vx_ot_at hW0 hvm.symm (hgood w (List.mem_cons_of_mem _ (List.mem_cons_of_mem _ hw))) (hat w hw)
  have hk' : (Cond.classLink own ik cls).before args s' = true := vx_ot_at hW0 hvm.symm (hgood _ List.mem_cons_self) hk
  have hini' : (Cond.initialized cls).before args s' = true := vx_ot_at hW0 hvm.symm (hgood _ (List.mem_cons_of_mem _ List.mem_cons_self)) hini
  have hU' : vx_Zq Bundle.tN "UNASSIGNED_STACK" Bundle.steD A s' s'.heap := by rw [hhp]; exact vx_Zq.moved hW0.alike (hU.kept hS.2.1)
  have hN' : vx_Zq Bundle.tN "SUPPRESSED_SENTINEL" Bundle.listD A s' s'.heap := by rw [hhp]; exact vx_Zq.moved hW0.alike (hN.kept hS.2.1)
  have h : ∀ w ∈ Bundle.ownAtoms own ic cls names, w.before args s' = true := vx_own hat' (vx_isRefq hU'.1) (vx_isRefq hN'.1) hU'.2.word hN'.2.word
  have hown' : s'.vm.findClass own = some m.cls := by rw [hvm]; exact hown
  have hins : (Cond.instantiable cls 6).before args s' = true := h _ (by simp [Bundle.ownAtoms])
  obtain ⟨vm₁, cX, kX, hfX, hkX, -, -, X₁, st1⟩ := Y.newCold hexec (own := own) (C := cls) (index := ik) (n := 6) hown' hk' hins hini'
    (g := F0 m pc ls rest) rfl (by rw [hb]; exact d0) (Nat.le_refl _) (Nat.le_refl _)
  generalize hT1 : (T.setVm vm₁).pushCell { cls := cX, slots := kX.instanceTypes.map defaultValue, vm := .none } = T1 at X₁ st1
  have hcat : (Value.ref T.heap.size).category = 1 := rfl
  have hcellA : T1.heap[T.heap.size]? = some (freshCell cX kX) := by rw [← hT1]; exact State.heap_pushCell_size _ _
  have d3' : decode c.code (pc + 3) = .ok (.dup, 1) := by rw [hb]; exact d3
  have d4' : decode c.code (pc + 4) = .ok (.ldc_w is, 3) := by rw [hb]; exact d4
  have hstr' : vk_R own is text sa s' := vk_R.warm hW0 hstr
  obtain ⟨U, hsteps, hrun, hend, hW, hsame, ce, hce, hO⟩ := X₁.ctorThrowS hexec htr (own := own) (cls := cls) (names := names) (ic := ic) hown' hcls hnames h (fun x hx => nomatch hx) hfX hkX hcellA (by rw [hhp, hT]; exact Nat.le_refl _) (msg := .ref sa) rfl
    (g := { method := m, pc := pc + 7, locals := ls, stack := .ref sa :: .ref T.heap.size :: .ref T.heap.size :: rest, locked := none }) rfl hsize rfl rfl (rest := rest) rfl
    (by rw [hb]; exact d7) (by rw [hb]; exact d10) hout hRframes (by simp only [List.map_cons, List.sum_cons, hcat]; omega) hlocks
  obtain ⟨f1, f2⟩ := vx_frame hsame
  rw [hhp] at f1 f2
  have hWs : s.WarmedH U.vm := State.WarmedH.trans hW0 hW
  have hcl : s.vm.findClass cls = some ce.cls := by
    have h9 := hO.cls
    rw [hvm] at h9
    exact h9
  have hall : s.sameButNew ({ U with vm := s.vm } : State) locs mc ms := by
    subst hA
    obtain ⟨e1, e2⟩ := hsame
    rw [State.setFrames_setFrames] at e1
    have h2 : (T.setVm s.vm).sameButNew ({ U with vm := s.vm } : State) [] (0 + 1) (0 + 6) := ⟨e1, e2⟩
    have h3 := X.same.trans h2
    rw [List.append_nil] at h3
    exact h3.mono hc hs
  refine ⟨U, ?_, .threw T.heap.size, hrun, hend, Or.inr ⟨T.heap.size, rfl, cls, ce, locs, hx U hWs.alike f1 (fun q hq => f2 q hq (fun z hz => nomatch hz)), hce, hO.vm, hcl, hWs, hall, hf⟩⟩
  refine st1 _ ?_
  show Steps p.tables e below (T1.setTop { method := m, pc := pc + 3, locals := ls, stack := .ref T.heap.size :: rest, locked := none }) _
  jvm_step X₁.here [X₁.here.top, hexec, d3', Value.category]
  exact X₁.ldcStringW hexec (own := own) (text := text) (index := is) (a := sa) hown' hstr'.1 hstr'.2
    (g := { method := m, pc := pc + 4, locals := ls, stack := .ref T.heap.size :: .ref T.heap.size :: rest, locked := none }) rfl d4' _ hsteps
end Ends
section Bodies
variable {l : Launch}
theorem vx_ofW {y : MethodName} {ws ws' : List Cond} {rm : Room} {Pc : Array Value → State → Prop} {Qc : Array Value → State → Outcome → State → Prop} {XC : String → State → State → Prop} {mc ms : Nat} {free : Addr → Prop} {cc : ByteArray} {maxL : Nat} {ret : Option FieldType}
    (hy : plainName y.cls = true) (hw : ws = Cond.code y cc maxL ret :: ws')
    (body : ∀ p e s m args below meth c s₁, BodyLoose p l y (headSpec ws rm) cc maxL ret e s m args below meth c s₁ → c.maxLocals = maxL → (∀ x ∈ c.exceptionTable.toList, False) → Pc args s →
      W p l e (headSpec ws rm).room s m args below meth c s.heap [] 0 0 (vx_MQ below Qc XC args s mc ms free) (entryFrame m args maxL)) : vx_Met l y ws rm Pc Qc XC mc ms free := by
  refine MetFree.of_bodyS (code := cc) (maxLocals := maxL) (ret := ret) hy ?_ ?_
  · intro args s m h hn
    obtain ⟨meth, c, h1, h2, h3, h4, h5, h6, -, -⟩ := Cond.code_spec hn (atoms_spec (ws := ws) h _ (by rw [hw]; exact List.mem_cons_self))
    exact ⟨meth, c, h1, h2, h3, h4, h5, h6⟩
  · intro p e s m args below meth c s₁ B hml hP _
    have hh0 : s₁.heap = s.heap := by rw [B.state]; rfl
    have ht : ∀ x ∈ c.exceptionTable.toList, False := by
      obtain ⟨meth9, c9, h1, h2, -, -, -, -, h7, -⟩ := Cond.code_spec B.named (atoms_spec (ws := ws) B.pre _ (by rw [hw]; exact List.mem_cons_self))
      cases Option.some.inj (h1.symm.trans B.method)
      cases Option.some.inj (h2.symm.trans (Stand.of_body B).code)
      intro x hx
      rw [Array.isEmpty_iff.mp h7] at hx
      cases hx
    obtain ⟨t, a1, o, b1, b2, b3⟩ := body p e s m args below meth c s₁ B hml ht hP s₁ hh0 (Stand.of_body B)
    exact ⟨t, o, a1, b1, b2, b3⟩
/-- the table of a body with handlers -/
theorem vx_table {p : Program} {x y : MethodName} {S : Spec} {cc bytes : ByteArray} {maxL maxL' : Nat} {ret ret' : Option FieldType} {e : Env} {s s₁ : State} {m : MethodId} {args : Array Value} {below : List Frame} {meth : Method} {c : Code} {hh : List (Nat × Nat × Nat × Nat)}
    (B : BodyLoose p l y S cc maxL ret e s m args below meth c s₁) (h : (Cond.codeWith y bytes maxL' ret' hh).before args s = true) : c.exceptionTable.toList = tableOf hh := by
  obtain ⟨m9, meth9, c9, hn9, h1, h2, -, -, h6, -⟩ := Cond.codeWith_spec h
  cases Option.some.inj (hn9.symm.trans B.named)
  cases Option.some.inj (h1.symm.trans B.method)
  cases Option.some.inj (h2.symm.trans (Stand.of_body B).code)
  rw [← h6, table_eq]
end Bodies
end VXA
/-! ===== END ===== -/
/-! ===== BEGIN a static call of a method with an exception table ===== -/
section VXS
variable {p : Program} {l : Launch} {e : Env} {R : Room} {s : State} {m : MethodId} {args : Array Value} {below : List Frame} {meth : Method} {c : Code} {T : State} {H : Heap} {locs : List Loc} {cells slots : Nat}
abbrev vx_CSW (R : Room) (s : State) (args : Array Value) (own : String) (index : Nat) (y : MethodName) (bytes : ByteArray) (maxL : Nat) (ret : Option FieldType) (hh : List (Nat × Nat × Nat × Nat)) (ws : List Cond) (rm : Room) (mc ms n : Nat) : Prop :=
  (rm.cells = mc ∧ rm.slots = ms ∧ rm.frames + 1 ≤ R.frames ∧ 8 + (maxL + 11) + rm.locals ≤ R.locals ∧ (∀ w ∈ ws, ∀ (a' : Array Value) (U : State), s.WarmedH U.vm → w.before a' U = true) ∧ Cond.codeWith y bytes maxL ret hh ∈ ws) ∧
  (Cond.codeWith y bytes maxL ret hh).before args s = true ∧ (Cond.initialized y.cls).before args s = true ∧ (y.cls ≠ "java/lang/invoke/MethodHandle" ∧ y.cls ≠ "java/lang/invoke/VarHandle") ∧
  (∀ sig, parseMethodDescriptor y.desc = some sig → n = sig.parameters.length) ∧ (Cond.methodLink own index y).before args s = true ∧ (Cond.static y).before args s = true
theorem vx_cwSW {own : String} {index maxL mc ms : Nat} {y : MethodName} {bytes : ByteArray} {ret : Option FieldType} {hh : List (Nat × Nat × Nat × Nat)} {Ts ws ws' : List Cond} {rm : Room} (n : Nat) (ht : ∀ w ∈ Ts, w.before args s = true) (hT : GoodIn Ts (va_wsS own index y ws)) (hw : ws = Cond.codeWith y bytes maxL ret hh :: ws') (hrc : rm.cells = mc) (hrs : rm.slots = ms)
    (hd : y.cls ≠ "java/lang/invoke/MethodHandle" ∧ y.cls ≠ "java/lang/invoke/VarHandle" ∧ (parseMethodDescriptor y.desc).map (fun d => d.parameters.length) = some n) (hR : rm.frames + 1 ≤ R.frames ∧ 8 + (maxL + 11) + rm.locals ≤ R.locals) :
    vx_CSW R s args own index y bytes maxL ret hh ws rm mc ms n := by
  have ok : ∀ w ∈ va_wsS own index y ws, w.before args s = true := fun w h => ht w (hT w h).1
  have hG : GoodIn Ts ws := fun w h => hT w (by unfold va_wsS; exact List.mem_append_right _ h)
  have hc : Cond.codeWith y bytes maxL ret hh ∈ ws := by rw [hw]; exact List.mem_cons_self
  refine ⟨⟨hrc, hrs, hR.1, hR.2, pay_in ht hG, hc⟩, ht _ (hG _ hc).1, ok _ (by simp [va_wsS]), ⟨hd.1, hd.2.1⟩, fun sig h => ?_, ok _ (by simp [va_wsS]), ok _ (by simp [va_wsS])⟩
  have h2 := hd.2.2
  rw [h] at h2
  exact (Option.some.inj h2).symm
theorem vx_callSW (X : Stand p l e R s m args below meth c T locs cells slots) (hexec : p.tables.exec = Jvm.exec) {own : String} {index : Nat} {y : MethodName} {bytes : ByteArray} {maxL : Nat} {ret : Option FieldType} {hh : List (Nat × Nat × Nat × Nat)}
    (hown : s.vm.findClass own = some m.cls) (hlink : (Cond.methodLink own index y).before args s = true) (hstat : (Cond.static y).before args s = true) (hinit : (Cond.initialized y.cls).before args s = true)
    (hcode : (Cond.codeWith y bytes maxL ret hh).before args s = true) (hy : y.cls ≠ "java/lang/invoke/MethodHandle" ∧ y.cls ≠ "java/lang/invoke/VarHandle")
    {W9 : Nat} {Pre : Pt → Array Value → Prop} {Post : Pt → Array Value → Option Value → Pt → Prop} (hK : Back l R p e below s args y 3 W9 Pre Post)
    {g : JFrame} (hg : g.method = m) (hsize : g.locals.size = c.maxLocals) {argsL rest : List Value} (hlen : ∀ sig, parseMethodDescriptor y.desc = some sig → argsL.length = sig.parameters.length)
    (hstack : g.stack = argsL.reverse ++ rest) (hW : 2 * g.monitorRoom + (rest.map fun v => v.category).sum ≤ W9) (hdg : decode c.code g.pc = .ok (.invokestatic index, 3))
    (hpre : ∀ vm₁, s.WarmedH vm₁ → Pre ⟨T.setVm vm₁, locs, cells, slots⟩ argsL.toArray) :
    ∃ (v : Option Value) (vm₁ : Vm) (B : Pt), s.WarmedH vm₁ ∧ Stand p l e R s m args below meth c B.U B.locs B.cells B.slots ∧ Post ⟨T.setVm vm₁, locs, cells, slots⟩ argsL.toArray v B ∧
      ∀ target, Steps p.tables e below (B.U.setTop { g with pc := g.pc + 3, stack := v.toList ++ rest }) target → Steps p.tables e below (T.setTop g) target := by
  obtain ⟨mk, methM, cM, hnamed, hmethM, -, -, -, -, -, -, hsigM⟩ := Cond.codeWith_spec hcode
  have hstatic : methM.isStatic = true := Cond.static_spec hnamed hmethM hstat
  obtain ⟨kP, hkP, -⟩ := className_of_methodNamed hnamed
  have hinitP : kP.init = .initialized := Cond.initialized_spec (findClass_of_methodNamed hnamed) hkP hinit
  obtain ⟨vm₁, X₁, hstep₁⟩ := X.invokestatic hexec hown hlink hnamed hmethM hstatic hkP hinitP hy (g := g) hg (argsL := argsL) (rest := rest) (hlen _ hsigM) hstack hdg
  obtain ⟨v, B, X', hpost, hsteps⟩ := hK m meth c ⟨T.setVm vm₁, locs, cells, slots⟩ { g with stack := rest } (.invokestatic index) mk argsL.toArray X₁ hg hsize hdg hW (X₁.named hnamed) (hpre vm₁ X₁.warmed)
  exact ⟨v, vm₁, B, X₁.warmed, X', hpost, fun target h => hstep₁ _ fun acts => by rw [doInvoke_state]; exact hsteps.trans h⟩
theorem vx_runSW {y : MethodName} {bytes cc : ByteArray} {maxL nL mc ms n index : Nat} {ret : Option FieldType} {hh : List (Nat × Nat × Nat × Nat)} {ws : List Cond} {rm : Room} {Pc : Array Value → State → Prop} {Qc : Array Value → State → Outcome → State → Prop} {free : Addr → Prop} {Ts : List Cond} {own : String} {As rest : List Value} {g : JFrame}
    (S : CallFix p m c cc nL s args Ts own) (hM : Met l y ws rm Pc Qc mc ms free) (cw : vx_CSW R s args own index y bytes maxL ret hh ws rm mc ms n) (hp : PreS s H Pc As)
    (hg : g.method = m) (hn : As.length = n) (hsize : g.locals.size = nL) (hstack : g.stack = As.reverse ++ rest) (hW : 2 * g.monitorRoom + (rest.map fun v => v.category).sum ≤ 8) (hdg : decode cc g.pc = .ok (.invokestatic index, 3)) (hf : cells + mc ≤ R.cells ∧ slots + ms ≤ R.slots) :
    va_Run p l e R s m args below meth c H locs cells slots mc ms g rest (Qc As.toArray) (free) := by
  obtain ⟨⟨hrc, hrs, hfr, hlo, hws, hcw⟩, hcode, hini, hy, hlen, hl, hstt⟩ := cw
  have hK : Back l R p e below s args y 3 8 (PreOf R mc ms Pc) (PostOf Qc mc ms free) := va_backW (hh := hh) (bytes := bytes) (maxL := maxL) (ret := ret) hM hp.1 hrc hrs hfr hlo hws hcw (fun a' U hW => word_at hW (Or.inl (by first | rfl | simp [Cond.onTables, Cond.keeps, Cond.steady])) hini)
  obtain ⟨hx, hb, hml, ho, -⟩ := S
  intro T hT X
  obtain ⟨v, vm₁, ⟨U', l2, c2, s2⟩, hW₁, X', ⟨g', mk, t, L, e1, e2, hq, h1, hL, h2, h3⟩, st⟩ := vx_callSW X hx (hh := hh) (bytes := bytes) (maxL := maxL) (ret := ret) ho hl hstt hini hcode hy hK hg (hsize.trans hml.symm) (argsL := As) (rest := rest) (fun sig h => hn.trans (hlen sig h)) hstack hW (by rw [hb]; exact hdg)
    (fun vm₁ hW₁ => ⟨hf.1, hf.2, hp.2 (T.setVm vm₁) hT hW₁⟩)
  dsimp only [Pt.U, Pt.locs, Pt.cells, Pt.slots] at X' e1 e2 h1 h2 h3 st
  subst h1; subst h2; subst h3
  exact ⟨v, (T.setVm vm₁).calling g' mk As.toArray, t, U', L, hT, X', hL, e1, e2, hq, st⟩
/-- a thing of a world lies in the heap -/
theorem vx_lt {D : va_G} {cl : List vw_C} {ws : va_W} {H1 : Heap} (h : va_P D cl ws H1) {k : Nat} {q : Nat × va_E} (hk : ws[k]? = some q) : q.1 < H1.size := (h k q hk).lt
end VXS
/-! ===== END ===== -/
/-! ===== BEGIN methods with a table of their own: called by a name, returning or throwing ===== -/
section VXH
/-! vx_backW, vx_callVX, vx_callSX, vx_callVW, vx_runVW, vx_runVX, vx_runSX, vx_ofWH follow the same proofs as their sisters above (Free/Laws.lean, Shelf42/LK1.lean); vx_outP calls Shelf42/NT130.lean (outThrough). -/
section
variable {l : Launch} {R : Room} {p : Program} {e : Env} {below : List Frame} {s : State} {sargs : Array Value} {y : MethodName} {len W9 : Nat}
theorem vx_backW {ws : List Cond} {rm : Room} {Pc : Array Value → State → Prop} {Qc : Array Value → State → Outcome → State → Prop} {XC : String → State → State → Prop} {mc ms : Nat} {free : Addr → Prop} {bytes : ByteArray} {maxL : Nat} {ret : Option FieldType} {hh : List (Nat × Nat × Nat × Nat)}
    (hM : vx_Met l y ws rm Pc Qc XC mc ms free) (hblind : FrameBlind Pc) (hrc : rm.cells = mc) (hrs : rm.slots = ms)
    (hframes : rm.frames + 1 ≤ R.frames) (hlocals : W9 + (maxL + 11) + rm.locals ≤ R.locals)
    (hws : ∀ w ∈ ws, ∀ a' U, s.WarmedH U.vm → w.before a' U = true) (hcode : Cond.codeWith y bytes maxL ret hh ∈ ws) (hinit : ∀ a' U, s.WarmedH U.vm → (Cond.initialized y.cls).before a' U = true) :
    vx_Back l R p e below s sargs y len W9 (PreOf R mc ms Pc) (PostOf Qc mc ms free) (vx_Post XC mc ms free) := by
  intro m meth c A g ig mk a X hg hsize hdg hW hn hp
  have h1 : (headSpec ws rm).pre.before a A.U = true := atoms_intro fun w hw => hws w hw _ _ X.warmed
  have h2 : (Cond.codeWith y bytes maxL ret hh).before a A.U = true := hws _ hcode _ _ X.warmed
  have h3 : (Cond.initialized y.cls).before a A.U = true := hinit _ _ X.warmed
  have h4 : A.cells + (headSpec ws rm).room.cells ≤ R.cells := by rw [show (headSpec ws rm).room.cells = mc from hrc]; exact hp.1
  have h5 : A.slots + (headSpec ws rm).room.slots ≤ R.slots := by rw [show (headSpec ws rm).room.slots = ms from hrs]; exact hp.2.1
  have hPc : Pc a (A.U.calling g mk a) := hblind _ _ _ _ hp.2.2
  obtain ⟨U, Ls, c0, s0⟩ := A
  dsimp only [Pt.U, Pt.locs, Pt.cells, Pt.slots] at h1 h2 h3 h4 h5 X hn hPc ⊢
  obtain ⟨m9, methY, cY, hn9, hmY, hcY, -, hlY, -⟩ := Cond.codeWith_spec h2
  cases Option.some.inj (hn9.symm.trans hn)
  obtain ⟨kY, hkY, -⟩ := className_of_methodNamed hn
  have hinitY : kY.init = .initialized := Cond.initialized_spec (findClass_of_methodNamed hn) hkY h3
  have h : At U g.method c below := by rw [hg]; exact X.here
  have hlocals9 : W9 + (maxL + 11) + (headSpec ws rm).room.locals ≤ R.locals := hlocals
  have happ : (headSpec ws rm).appliesLoose y e.platform (U.calling g mk a) = true :=
    Spec.appliesLoose_calling (g := g) h hdg hn hkY hinitY
      (X.room_calling (g := g) (R' := (headSpec ws rm).room) hsize hmY hcY hframes (by rw [hlY]; omega) h4 h5) h1
  obtain ⟨mid, hmid⟩ := h.above
  have hfr : (U.setTop g).frames = (.java g :: mid) ++ below := by rw [State.frames_setTop' g h.top, hmid]; rfl
  obtain ⟨o, s₂, hsteps, -, hend, hq⟩ := Steps.callFree hM p X.admits X.cas X.clock (acts := []) hfr happ hPc trivial
  have hq' : vx_Q Qc XC mc ms free a (U.calling g mk a) o s₂ := hq
  rw [State.frames_setTop' g h.top] at hend
  obtain ⟨g₀, hg0⟩ := Option.isSome_iff_exists.mp h.top
  obtain ⟨r, hr⟩ := State.topJava?_eq_some.mp hg0
  have hr' : (({ U with heap := s₂.heap, slotsUsed := s₂.slotsUsed } : State).setVm s₂.vm).frames = .java g₀ :: r := hr
  rcases hq' with ⟨hqc, L, hfe, hL⟩ | ⟨q, rfl, E, ce, L, hx, hce, hcv, hcl, hW₂, hsm, hL⟩
  · obtain ⟨⟨v, rfl⟩, hW₂, e2, q2, q3, q4, q5, q6⟩ := id hfe
    have e3 : s₂ = ({ (U.calling g mk a).setFrames s₂.frames with heap := s₂.heap, slotsUsed := s₂.slotsUsed } : State).setVm s₂.vm := by
      have : s₂ = ({ s₂ with vm := (U.calling g mk a).vm } : State).setVm s₂.vm := rfl
      rw [e2] at this
      exact this
    obtain ⟨c₂, i₂, len₂, hc₂, hd₂, hf₂⟩ := hend
    have hW' : U.WarmedH s₂.vm := hW₂
    have hcc : c₂ = c := by
      have h1 : s₂.code? g.method = U.code? g.method := by
        rw [State.code?_eq, State.code?_eq, hW'.alike.method?]
      exact Option.some.inj (hc₂.symm.trans (h1.trans h.code))
    subst hcc
    have hlen : len₂ = len := by rw [hdg] at hd₂; cases hd₂; rfl
    subst hlen
    have hs₂ : s₂ = (({ U with heap := s₂.heap, slotsUsed := s₂.slotsUsed } : State).setVm s₂.vm).setTop { g with pc := g.pc + len₂, stack := v.toList ++ g.stack } := by
      refine e3.trans ?_
      rw [hf₂, State.calling_eq h.top, State.setFrames_setFrames, State.setTop_of_frames _ hr', hr]
      rfl
    have hsame : U.sameButNew ({ U with heap := s₂.heap, slotsUsed := s₂.slotsUsed } : State) L mc ms := by
      refine ⟨?_, q2, q3, q4, q5, q6⟩
      obtain ⟨t, ht, -⟩ := State.frames_cons hr
      show ({ U with heap := s₂.heap, slotsUsed := s₂.slotsUsed } : State) = { U.setFrames U.frames with heap := s₂.heap, slotsUsed := s₂.slotsUsed }
      rw [State.setFrames_self ht]
    subst hg
    refine Or.inl ⟨v, ⟨(({ U with heap := s₂.heap, slotsUsed := s₂.slotsUsed } : State).setVm s₂.vm), Ls ++ L, c0 + mc, s0 + ms⟩,
      ⟨X.admits, X.cas, X.clock, X.frames, X.room, X.hears, X.method, X.code, (X.here.setHeapUsed s₂.heap s₂.slotsUsed).setVm hW'.alike, X.tail, State.WarmedH.trans X.warmed hW', X.limits, X.bytes, X.same.trans (hsame.setVm s.vm)⟩,
      ⟨g, mk, s₂, L, rfl, rfl, hqc, rfl, hL, rfl, rfl⟩, ?_⟩
    show Steps p.tables e below _ ((({ U with heap := s₂.heap, slotsUsed := s₂.slotsUsed } : State).setVm s₂.vm).setTop { g with pc := g.pc + len₂, stack := v.toList ++ g.stack })
    rw [← hs₂]
    exact hsteps
  · obtain ⟨e2, q2, q3, q4, q5, q6⟩ := id hsm
    have e3 : s₂ = ({ (U.calling g mk a).setFrames s₂.frames with heap := s₂.heap, slotsUsed := s₂.slotsUsed } : State).setVm s₂.vm := by
      have : s₂ = ({ s₂ with vm := (U.calling g mk a).vm } : State).setVm s₂.vm := rfl
      rw [e2] at this
      exact this
    have hf₂ : s₂.frames = .throwing q :: .java g :: U.frames.tail := hend
    have hW' : U.WarmedH s₂.vm := hW₂
    have hs₂ : s₂ = ((({ U with heap := s₂.heap, slotsUsed := s₂.slotsUsed } : State).setVm s₂.vm).setTop g).pushFrame (.throwing q) := by
      refine e3.trans ?_
      rw [hf₂, State.calling_eq h.top, State.setFrames_setFrames, State.pushFrame, State.frames_setTop _ hr', State.setTop_of_frames _ hr', State.setFrames_setFrames, hr]
      rfl
    have hsame : U.sameButNew ({ U with heap := s₂.heap, slotsUsed := s₂.slotsUsed } : State) L mc ms := by
      refine ⟨?_, q2, q3, q4, q5, q6⟩
      obtain ⟨t, ht, -⟩ := State.frames_cons hr
      show ({ U with heap := s₂.heap, slotsUsed := s₂.slotsUsed } : State) = { U.setFrames U.frames with heap := s₂.heap, slotsUsed := s₂.slotsUsed }
      rw [State.setFrames_self ht]
    subst hg
    refine Or.inr ⟨q, ⟨(({ U with heap := s₂.heap, slotsUsed := s₂.slotsUsed } : State).setVm s₂.vm), Ls ++ L, c0 + mc, s0 + ms⟩,
      ⟨X.admits, X.cas, X.clock, X.frames, X.room, X.hears, X.method, X.code, (X.here.setHeapUsed s₂.heap s₂.slotsUsed).setVm hW'.alike, X.tail, State.WarmedH.trans X.warmed hW', X.limits, X.bytes, X.same.trans (hsame.setVm s.vm)⟩,
      ⟨g, mk, s₂, L, E, ce, rfl, rfl, hx, hce, hcv, hcl, rfl, hL, rfl, rfl⟩, ?_⟩
    show Steps p.tables e below _ (((({ U with heap := s₂.heap, slotsUsed := s₂.slotsUsed } : State).setVm s₂.vm).setTop g).pushFrame (.throwing q))
    rw [← hs₂]
    exact hsteps
end
variable {p : Program} {l : Launch} {e : Env} {R : Room} {s : State} {m : MethodId} {args : Array Value} {below : List Frame} {meth : Method} {c : Code} {T : State} {H : Heap} {locs : List Loc} {cells slots : Nat}
theorem vx_callVX (X : Stand p l e R s m args below meth c T locs cells slots) (hexec : p.tables.exec = Jvm.exec) {own C : String} {index : Nat} {y : MethodName} {bytes : ByteArray} {maxL : Nat} {ret : Option FieldType} {hh : List (Nat × Nat × Nat × Nat)}
    (hown : s.vm.findClass own = some m.cls) (hlink : (Cond.methodLink own index y).before args s = true) (hinst : (Cond.instanceMethod y).before args s = true) (hsel : (Cond.selects C y y).before args s = true)
    (hcode : (Cond.codeWith y bytes maxL ret hh).before args s = true) (hy : y.cls ≠ "java/lang/invoke/MethodHandle" ∧ y.cls ≠ "java/lang/invoke/VarHandle")
    {W9 : Nat} {Pre : Pt → Array Value → Prop} {Post : Pt → Array Value → Option Value → Pt → Prop} {PostX : Pt → Array Value → Addr → Pt → Prop} (hK : vx_Back l R p e below s args y 3 W9 Pre Post PostX)
    {b : Addr} {cellB : Cell} (hcell : T.heap[b]? = some cellB) (hobj : cellB.vm.isStatics = false) (hcls : s.vm.findClass C = some cellB.cls)
    {g : JFrame} (hg : g.method = m) (hsize : g.locals.size = c.maxLocals) {argsL rest : List Value} (hlen : ∀ sig, parseMethodDescriptor y.desc = some sig → argsL.length = sig.parameters.length)
    (hstack : g.stack = argsL.reverse ++ .ref b :: rest) (hW : 2 * g.monitorRoom + (rest.map fun v => v.category).sum ≤ W9) (hdg : decode c.code g.pc = .ok (.invokevirtual index, 3))
    (hpre : ∀ vm₁, s.WarmedH vm₁ → Pre ⟨T.setVm vm₁, locs, cells, slots⟩ (Value.ref b :: argsL).toArray) :
    (∃ (v : Option Value) (vm₁ : Vm) (B : Pt), s.WarmedH vm₁ ∧ Stand p l e R s m args below meth c B.U B.locs B.cells B.slots ∧ Post ⟨T.setVm vm₁, locs, cells, slots⟩ (Value.ref b :: argsL).toArray v B ∧
      ∀ target, Steps p.tables e below (B.U.setTop { g with pc := g.pc + 3, stack := v.toList ++ rest }) target → Steps p.tables e below (T.setTop g) target) ∨
    (∃ (q : Addr) (vm₁ : Vm) (B : Pt), s.WarmedH vm₁ ∧ Stand p l e R s m args below meth c B.U B.locs B.cells B.slots ∧ PostX ⟨T.setVm vm₁, locs, cells, slots⟩ (Value.ref b :: argsL).toArray q B ∧
      Steps p.tables e below (T.setTop g) ((B.U.setTop { g with stack := rest }).pushFrame (.throwing q))) := by
  obtain ⟨mk, methM, hnamed, hmethM, hstM, habM⟩ := Cond.instanceMethod_spec hinst
  obtain ⟨m8, methM', cM, hn8, hmethM', -, -, -, -, -, -, hsigM⟩ := Cond.codeWith_spec hcode
  cases Option.some.inj (hn8.symm.trans hnamed)
  cases hmethM.symm.trans hmethM'
  obtain ⟨c2, r2, m2, q1, q2, q3, q4, kP, hkP, hkPi⟩ := Cond.selects_spec hsel
  cases hcls.symm.trans q1
  cases (State.methodFound?_of_named hnamed hy).symm.trans q2
  cases hnamed.symm.trans q3
  have hselP : selectMethod e.platform s.vm cellB.cls mk = .method mk := by rw [Launch.admits_selectMethod X.admits]; exact q4
  obtain ⟨vm₁, X₁, hstep₁⟩ := X.invokevirtual hexec hown hlink hnamed hmethM hstM hkP hkPi hy (a := b) (cell := cellB) hcell
    (fun z h => by rw [h] at hobj; cases hobj) hselP hmethM habM hkP hkPi (g := g) hg (argsL := argsL) (rest := rest) (hlen _ hsigM) hstack hdg
  rcases hK m meth c ⟨T.setVm vm₁, locs, cells, slots⟩ { g with stack := rest } (.invokevirtual index) mk (Value.ref b :: argsL).toArray X₁ hg hsize hdg hW (X₁.named hnamed) (hpre vm₁ X₁.warmed) with ⟨v, B, X', hpost, hsteps⟩ | ⟨q, B, X', hpost, hsteps⟩
  · exact Or.inl ⟨v, vm₁, B, X₁.warmed, X', hpost, fun target h => hstep₁ _ fun acts => by rw [doInvoke_state]; exact hsteps.trans h⟩
  · exact Or.inr ⟨q, vm₁, B, X₁.warmed, X', hpost, hstep₁ _ fun acts => by rw [doInvoke_state]; exact hsteps⟩
theorem vx_callSX (X : Stand p l e R s m args below meth c T locs cells slots) (hexec : p.tables.exec = Jvm.exec) {own : String} {index : Nat} {y : MethodName} {bytes : ByteArray} {maxL : Nat} {ret : Option FieldType} {hh : List (Nat × Nat × Nat × Nat)}
    (hown : s.vm.findClass own = some m.cls) (hlink : (Cond.methodLink own index y).before args s = true) (hstat : (Cond.static y).before args s = true) (hinit : (Cond.initialized y.cls).before args s = true)
    (hcode : (Cond.codeWith y bytes maxL ret hh).before args s = true) (hy : y.cls ≠ "java/lang/invoke/MethodHandle" ∧ y.cls ≠ "java/lang/invoke/VarHandle")
    {W9 : Nat} {Pre : Pt → Array Value → Prop} {Post : Pt → Array Value → Option Value → Pt → Prop} {PostX : Pt → Array Value → Addr → Pt → Prop} (hK : vx_Back l R p e below s args y 3 W9 Pre Post PostX)
    {g : JFrame} (hg : g.method = m) (hsize : g.locals.size = c.maxLocals) {argsL rest : List Value} (hlen : ∀ sig, parseMethodDescriptor y.desc = some sig → argsL.length = sig.parameters.length)
    (hstack : g.stack = argsL.reverse ++ rest) (hW : 2 * g.monitorRoom + (rest.map fun v => v.category).sum ≤ W9) (hdg : decode c.code g.pc = .ok (.invokestatic index, 3))
    (hpre : ∀ vm₁, s.WarmedH vm₁ → Pre ⟨T.setVm vm₁, locs, cells, slots⟩ argsL.toArray) :
    (∃ (v : Option Value) (vm₁ : Vm) (B : Pt), s.WarmedH vm₁ ∧ Stand p l e R s m args below meth c B.U B.locs B.cells B.slots ∧ Post ⟨T.setVm vm₁, locs, cells, slots⟩ argsL.toArray v B ∧
      ∀ target, Steps p.tables e below (B.U.setTop { g with pc := g.pc + 3, stack := v.toList ++ rest }) target → Steps p.tables e below (T.setTop g) target) ∨
    (∃ (q : Addr) (vm₁ : Vm) (B : Pt), s.WarmedH vm₁ ∧ Stand p l e R s m args below meth c B.U B.locs B.cells B.slots ∧ PostX ⟨T.setVm vm₁, locs, cells, slots⟩ argsL.toArray q B ∧
      Steps p.tables e below (T.setTop g) ((B.U.setTop { g with stack := rest }).pushFrame (.throwing q))) := by
  obtain ⟨mk, methM, cM, hnamed, hmethM, -, -, -, -, -, -, hsigM⟩ := Cond.codeWith_spec hcode
  have hstatic : methM.isStatic = true := Cond.static_spec hnamed hmethM hstat
  obtain ⟨kP, hkP, -⟩ := className_of_methodNamed hnamed
  have hinitP : kP.init = .initialized := Cond.initialized_spec (findClass_of_methodNamed hnamed) hkP hinit
  obtain ⟨vm₁, X₁, hstep₁⟩ := X.invokestatic hexec hown hlink hnamed hmethM hstatic hkP hinitP hy (g := g) hg (argsL := argsL) (rest := rest) (hlen _ hsigM) hstack hdg
  rcases hK m meth c ⟨T.setVm vm₁, locs, cells, slots⟩ { g with stack := rest } (.invokestatic index) mk argsL.toArray X₁ hg hsize hdg hW (X₁.named hnamed) (hpre vm₁ X₁.warmed) with ⟨v, B, X', hpost, hsteps⟩ | ⟨q, B, X', hpost, hsteps⟩
  · exact Or.inl ⟨v, vm₁, B, X₁.warmed, X', hpost, fun target h => hstep₁ _ fun acts => by rw [doInvoke_state]; exact hsteps.trans h⟩
  · exact Or.inr ⟨q, vm₁, B, X₁.warmed, X', hpost, hstep₁ _ fun acts => by rw [doInvoke_state]; exact hsteps⟩
theorem vx_callVW (X : Stand p l e R s m args below meth c T locs cells slots) (hexec : p.tables.exec = Jvm.exec) {own C : String} {index : Nat} {y : MethodName} {bytes : ByteArray} {maxL : Nat} {ret : Option FieldType} {hh : List (Nat × Nat × Nat × Nat)}
    (hown : s.vm.findClass own = some m.cls) (hlink : (Cond.methodLink own index y).before args s = true) (hinst : (Cond.instanceMethod y).before args s = true) (hsel : (Cond.selects C y y).before args s = true)
    (hcode : (Cond.codeWith y bytes maxL ret hh).before args s = true) (hy : y.cls ≠ "java/lang/invoke/MethodHandle" ∧ y.cls ≠ "java/lang/invoke/VarHandle")
    {W9 : Nat} {Pre : Pt → Array Value → Prop} {Post : Pt → Array Value → Option Value → Pt → Prop} (hK : Back l R p e below s args y 3 W9 Pre Post)
    {b : Addr} {cellB : Cell} (hcell : T.heap[b]? = some cellB) (hobj : cellB.vm.isStatics = false) (hcls : s.vm.findClass C = some cellB.cls)
    {g : JFrame} (hg : g.method = m) (hsize : g.locals.size = c.maxLocals) {argsL rest : List Value} (hlen : ∀ sig, parseMethodDescriptor y.desc = some sig → argsL.length = sig.parameters.length)
    (hstack : g.stack = argsL.reverse ++ .ref b :: rest) (hW : 2 * g.monitorRoom + (rest.map fun v => v.category).sum ≤ W9) (hdg : decode c.code g.pc = .ok (.invokevirtual index, 3))
    (hpre : ∀ vm₁, s.WarmedH vm₁ → Pre ⟨T.setVm vm₁, locs, cells, slots⟩ (Value.ref b :: argsL).toArray) :
    ∃ (v : Option Value) (vm₁ : Vm) (B : Pt), s.WarmedH vm₁ ∧ Stand p l e R s m args below meth c B.U B.locs B.cells B.slots ∧ Post ⟨T.setVm vm₁, locs, cells, slots⟩ (Value.ref b :: argsL).toArray v B ∧
      ∀ target, Steps p.tables e below (B.U.setTop { g with pc := g.pc + 3, stack := v.toList ++ rest }) target → Steps p.tables e below (T.setTop g) target := by
  obtain ⟨mk, methM, hnamed, hmethM, hstM, habM⟩ := Cond.instanceMethod_spec hinst
  obtain ⟨m8, methM', cM, hn8, hmethM', -, -, -, -, -, -, hsigM⟩ := Cond.codeWith_spec hcode
  cases Option.some.inj (hn8.symm.trans hnamed)
  cases hmethM.symm.trans hmethM'
  obtain ⟨c2, r2, m2, q1, q2, q3, q4, kP, hkP, hkPi⟩ := Cond.selects_spec hsel
  cases hcls.symm.trans q1
  cases (State.methodFound?_of_named hnamed hy).symm.trans q2
  cases hnamed.symm.trans q3
  have hselP : selectMethod e.platform s.vm cellB.cls mk = .method mk := by rw [Launch.admits_selectMethod X.admits]; exact q4
  obtain ⟨vm₁, X₁, hstep₁⟩ := X.invokevirtual hexec hown hlink hnamed hmethM hstM hkP hkPi hy (a := b) (cell := cellB) hcell
    (fun z h => by rw [h] at hobj; cases hobj) hselP hmethM habM hkP hkPi (g := g) hg (argsL := argsL) (rest := rest) (hlen _ hsigM) hstack hdg
  obtain ⟨v, B, X', hpost, hsteps⟩ := hK m meth c ⟨T.setVm vm₁, locs, cells, slots⟩ { g with stack := rest } (.invokevirtual index) mk (Value.ref b :: argsL).toArray X₁ hg hsize hdg hW (X₁.named hnamed) (hpre vm₁ X₁.warmed)
  exact ⟨v, vm₁, B, X₁.warmed, X', hpost, fun target h => hstep₁ _ fun acts => by rw [doInvoke_state]; exact hsteps.trans h⟩
abbrev vx_CVW (R : Room) (s : State) (args : Array Value) (own C : String) (index : Nat) (y : MethodName) (bytes : ByteArray) (maxL : Nat) (ret : Option FieldType) (hh : List (Nat × Nat × Nat × Nat)) (ws : List Cond) (rm : Room) (mc ms n : Nat) : Prop :=
  (rm.cells = mc ∧ rm.slots = ms ∧ rm.frames + 1 ≤ R.frames ∧ 8 + (maxL + 11) + rm.locals ≤ R.locals ∧ (∀ w ∈ ws, ∀ (a' : Array Value) (U : State), s.WarmedH U.vm → w.before a' U = true) ∧ Cond.codeWith y bytes maxL ret hh ∈ ws) ∧
  (Cond.codeWith y bytes maxL ret hh).before args s = true ∧ (Cond.initialized y.cls).before args s = true ∧ (y.cls ≠ "java/lang/invoke/MethodHandle" ∧ y.cls ≠ "java/lang/invoke/VarHandle") ∧
  (∀ sig, parseMethodDescriptor y.desc = some sig → n = sig.parameters.length) ∧ (Cond.methodLink own index y).before args s = true ∧ (Cond.instanceMethod y).before args s = true ∧ (Cond.selects C y y).before args s = true
theorem vx_cwVW {own C : String} {index maxL mc ms : Nat} {y : MethodName} {bytes : ByteArray} {ret : Option FieldType} {hh : List (Nat × Nat × Nat × Nat)} {Ts ws ws' : List Cond} {rm : Room} (n : Nat) (ht : ∀ w ∈ Ts, w.before args s = true) (hT : GoodIn Ts (wsV own index C y ws)) (hw : ws = Cond.codeWith y bytes maxL ret hh :: ws') (hrc : rm.cells = mc) (hrs : rm.slots = ms)
    (hd : y.cls = C ∧ y.cls ≠ "java/lang/invoke/MethodHandle" ∧ y.cls ≠ "java/lang/invoke/VarHandle" ∧ (parseMethodDescriptor y.desc).map (fun d => d.parameters.length) = some n) (hR : rm.frames + 1 ≤ R.frames ∧ 8 + (maxL + 11) + rm.locals ≤ R.locals) :
    vx_CVW R s args own C index y bytes maxL ret hh ws rm mc ms n := by
  obtain ⟨hC, hd⟩ := hd
  subst hC
  have ok : ∀ w ∈ wsV own index y.cls y ws, w.before args s = true := fun w h => ht w (hT w h).1
  have hG : GoodIn Ts ws := fun w h => hT w (by unfold wsV; exact List.mem_append_right _ h)
  have hc : Cond.codeWith y bytes maxL ret hh ∈ ws := by rw [hw]; exact List.mem_cons_self
  refine ⟨⟨hrc, hrs, hR.1, hR.2, pay_in ht hG, hc⟩, ht _ (hG _ hc).1, ok _ (by simp [wsV]), ⟨hd.1, hd.2.1⟩, fun sig h => ?_, ok _ (by simp [wsV]), ok _ (by simp [wsV]), ok _ (by simp [wsV])⟩
  have h2 := hd.2.2
  rw [h] at h2
  exact (Option.some.inj h2).symm
theorem vx_runVW {y : MethodName} {bytes cc : ByteArray} {maxL nL mc ms n index : Nat} {ret : Option FieldType} {hh : List (Nat × Nat × Nat × Nat)} {ws : List Cond} {rm : Room} {Pc : Array Value → State → Prop} {Qc : Array Value → State → Outcome → State → Prop} {free : Addr → Prop} {Ts : List Cond} {own C : String} {b : Addr} {As rest : List Value} {g : JFrame}
    (S : CallFix p m c cc nL s args Ts own) (hM : Met l y ws rm Pc Qc mc ms free) (cw : vx_CVW R s args own C index y bytes maxL ret hh ws rm mc ms n) (hp : PreV s H C b Pc As)
    (hg : g.method = m) (hn : As.length = n) (hsize : g.locals.size = nL) (hstack : g.stack = As.reverse ++ .ref b :: rest) (hW : 2 * g.monitorRoom + (rest.map fun v => v.category).sum ≤ 8) (hdg : decode cc g.pc = .ok (.invokevirtual index, 3)) (hf : cells + mc ≤ R.cells ∧ slots + ms ≤ R.slots) :
    va_Run p l e R s m args below meth c H locs cells slots mc ms g rest (Qc (Value.ref b :: As).toArray) free := by
  obtain ⟨⟨hrc, hrs, hfr, hlo, hws, hcw⟩, hcode, hini, hy, hlen, hl, hin, hse⟩ := cw
  have hK : Back l R p e below s args y 3 8 (PreOf R mc ms Pc) (PostOf Qc mc ms free) := va_backW (hh := hh) (bytes := bytes) (maxL := maxL) (ret := ret) hM hp.1 hrc hrs hfr hlo hws hcw (fun a' U hW => word_at hW (Or.inl (by first | rfl | simp [Cond.onTables, Cond.keeps, Cond.steady])) hini)
  obtain ⟨hx, hb, hml, ho, -⟩ := S
  obtain ⟨-, ⟨cellB, hcB, hoB, hclB⟩, hPc⟩ := hp
  intro T hT X
  obtain ⟨v, vm₁, ⟨U', l2, c2, s2⟩, hW₁, X', ⟨g', mk, t, L, e1, e2, hq, h1, hL, h2, h3⟩, st⟩ := vx_callVW X hx (C := C) (hh := hh) (bytes := bytes) (maxL := maxL) (ret := ret) ho hl hin hse hcode hy hK (by rw [hT]; exact hcB) hoB hclB hg (hsize.trans hml.symm) (argsL := As) (rest := rest) (fun sig h => hn.trans (hlen sig h)) hstack hW (by rw [hb]; exact hdg)
    (fun vm₁ hW₁ => ⟨hf.1, hf.2, hPc (T.setVm vm₁) hT hW₁⟩)
  dsimp only [Pt.U, Pt.locs, Pt.cells, Pt.slots] at X' e1 e2 h1 h2 h3 st
  subst h1; subst h2; subst h3
  exact ⟨v, (T.setVm vm₁).calling g' mk (Value.ref b :: As).toArray, t, U', L, hT, X', hL, e1, e2, hq, st⟩
section
variable {y : MethodName} {bytes cc : ByteArray} {maxL nL mc ms n index : Nat} {ret : Option FieldType} {ws : List Cond} {rm : Room} {Pc : Array Value → State → Prop} {Qc : Array Value → State → Outcome → State → Prop} {XC : String → State → State → Prop} {free : Addr → Prop} {Ts : List Cond} {own C : String} {b : Addr} {As rest : List Value} {g : JFrame}
theorem vx_runVX {hh : List (Nat × Nat × Nat × Nat)} (S : CallFix p m c cc nL s args Ts own) (hM : vx_Met l y ws rm Pc Qc XC mc ms free) (cw : vx_CVW R s args own C index y bytes maxL ret hh ws rm mc ms n) (hp : PreV s H C b Pc As)
    (hg : g.method = m) (hn : As.length = n) (hsize : g.locals.size = nL) (hstack : g.stack = As.reverse ++ .ref b :: rest) (hW : 2 * g.monitorRoom + (rest.map fun v => v.category).sum ≤ 8) (hdg : decode cc g.pc = .ok (.invokevirtual index, 3)) (hf : cells + mc ≤ R.cells ∧ slots + ms ≤ R.slots) :
    vx_Run p l e R s m args below meth c H locs cells slots mc ms g rest (Qc (Value.ref b :: As).toArray) XC free := by
  obtain ⟨⟨hrc, hrs, hfr, hlo, hws, hcw⟩, hcode, hini, hy, hlen, hl, hin, hse⟩ := cw
  have hK : vx_Back l R p e below s args y 3 8 (PreOf R mc ms Pc) (PostOf Qc mc ms free) (vx_Post XC mc ms free) := vx_backW (hh := hh) (bytes := bytes) (maxL := maxL) (ret := ret) hM hp.1 hrc hrs hfr hlo hws hcw (fun a' U hW => word_at hW (Or.inl (by first | rfl | simp [Cond.onTables, Cond.keeps, Cond.steady])) hini)
  obtain ⟨hx, hb, hml, ho, -⟩ := S
  obtain ⟨-, ⟨cellB, hcB, hoB, hclB⟩, hPc⟩ := hp
  intro T hT X
  rcases vx_callVX X hx (C := C) (hh := hh) (bytes := bytes) (maxL := maxL) (ret := ret) ho hl hin hse hcode hy hK (by rw [hT]; exact hcB) hoB hclB hg (hsize.trans hml.symm) (argsL := As) (rest := rest) (fun sig h => hn.trans (hlen sig h)) hstack hW (by rw [hb]; exact hdg)
    (fun vm₁ hW₁ => ⟨hf.1, hf.2, hPc (T.setVm vm₁) hT hW₁⟩) with ⟨v, vm₁, ⟨U', l2, c2, s2⟩, hW₁, X', ⟨g', mk, t, L, e1, e2, hq, h1, hL, h2, h3⟩, st⟩ | ⟨q, vm₁, ⟨U', l2, c2, s2⟩, hW₁, X', ⟨g', mk, t, L, E, ce, e1, e2, hq, hce, hcv, hcl, h1, hL, h2, h3⟩, st⟩
  · dsimp only [Pt.U, Pt.locs, Pt.cells, Pt.slots] at X' e1 e2 h1 h2 h3 st
    subst h1; subst h2; subst h3
    exact Or.inl ⟨v, (T.setVm vm₁).calling g' mk (Value.ref b :: As).toArray, t, U', L, hT, X', hL, e1, e2, hq, st⟩
  · dsimp only [Pt.U, Pt.locs, Pt.cells, Pt.slots] at X' e1 e2 h1 h2 h3 st hcl
    subst h1; subst h2; subst h3
    exact Or.inr ⟨q, (T.setVm vm₁).calling g' mk (Value.ref b :: As).toArray, t, U', L, E, ce, hT, X', hL, e1, e2, hq, hce, hcv, vx_cls hW₁ hcl, st⟩
theorem vx_runSX {hh : List (Nat × Nat × Nat × Nat)} (S : CallFix p m c cc nL s args Ts own) (hM : vx_Met l y ws rm Pc Qc XC mc ms free) (cw : vx_CSW R s args own index y bytes maxL ret hh ws rm mc ms n) (hp : PreS s H Pc As)
    (hg : g.method = m) (hn : As.length = n) (hsize : g.locals.size = nL) (hstack : g.stack = As.reverse ++ rest) (hW : 2 * g.monitorRoom + (rest.map fun v => v.category).sum ≤ 8) (hdg : decode cc g.pc = .ok (.invokestatic index, 3)) (hf : cells + mc ≤ R.cells ∧ slots + ms ≤ R.slots) :
    vx_Run p l e R s m args below meth c H locs cells slots mc ms g rest (Qc As.toArray) XC free := by
  obtain ⟨⟨hrc, hrs, hfr, hlo, hws, hcw⟩, hcode, hini, hy, hlen, hl, hstt⟩ := cw
  have hK : vx_Back l R p e below s args y 3 8 (PreOf R mc ms Pc) (PostOf Qc mc ms free) (vx_Post XC mc ms free) := vx_backW (hh := hh) (bytes := bytes) (maxL := maxL) (ret := ret) hM hp.1 hrc hrs hfr hlo hws hcw (fun a' U hW => word_at hW (Or.inl (by first | rfl | simp [Cond.onTables, Cond.keeps, Cond.steady])) hini)
  obtain ⟨hx, hb, hml, ho, -⟩ := S
  intro T hT X
  rcases vx_callSX X hx (hh := hh) (bytes := bytes) (maxL := maxL) (ret := ret) ho hl hstt hini hcode hy hK hg (hsize.trans hml.symm) (argsL := As) (rest := rest) (fun sig h => hn.trans (hlen sig h)) hstack hW (by rw [hb]; exact hdg)
    (fun vm₁ hW₁ => ⟨hf.1, hf.2, hp.2 (T.setVm vm₁) hT hW₁⟩) with ⟨v, vm₁, ⟨U', l2, c2, s2⟩, hW₁, X', ⟨g', mk, t, L, e1, e2, hq, h1, hL, h2, h3⟩, st⟩ | ⟨q, vm₁, ⟨U', l2, c2, s2⟩, hW₁, X', ⟨g', mk, t, L, E, ce, e1, e2, hq, hce, hcv, hcl, h1, hL, h2, h3⟩, st⟩
  · dsimp only [Pt.U, Pt.locs, Pt.cells, Pt.slots] at X' e1 e2 h1 h2 h3 st
    subst h1; subst h2; subst h3
    exact Or.inl ⟨v, (T.setVm vm₁).calling g' mk As.toArray, t, U', L, hT, X', hL, e1, e2, hq, st⟩
  · dsimp only [Pt.U, Pt.locs, Pt.cells, Pt.slots] at X' e1 e2 h1 h2 h3 st hcl
    subst h1; subst h2; subst h3
    exact Or.inr ⟨q, (T.setVm vm₁).calling g' mk As.toArray, t, U', L, E, ce, hT, X', hL, e1, e2, hq, hce, hcv, vx_cls hW₁ hcl, st⟩
end
end VXH
theorem vx_ofWH {l : Launch} {y : MethodName} {ws ws' : List Cond} {rm : Room} {Pc : Array Value → State → Prop} {Qc : Array Value → State → Outcome → State → Prop} {XC : String → State → State → Prop} {mc ms : Nat} {free : Addr → Prop} {cc : ByteArray} {maxL : Nat} {ret : Option FieldType} {hh : List (Nat × Nat × Nat × Nat)}
    (hy : plainName y.cls = true) (hw : ws = Cond.codeWith y cc maxL ret hh :: ws')
    (body : ∀ p e s m args below meth c s₁, BodyLoose p l y (headSpec ws rm) cc maxL ret e s m args below meth c s₁ → c.maxLocals = maxL → Pc args s →
      W p l e (headSpec ws rm).room s m args below meth c s.heap [] 0 0 (vx_MQ below Qc XC args s mc ms free) (entryFrame m args maxL)) : vx_Met l y ws rm Pc Qc XC mc ms free := by
  refine MetFree.of_bodyS (code := cc) (maxLocals := maxL) (ret := ret) hy ?_ ?_
  · intro args s m h hn
    obtain ⟨m9, meth, c, hn9, h1, h2, h3, h4, -, h5, h6, -⟩ := Cond.codeWith_spec (atoms_spec (ws := ws) h _ (by rw [hw]; exact List.mem_cons_self))
    cases hn.symm.trans hn9
    exact ⟨meth, c, h1, h2, h3, h4, h5, h6⟩
  · intro p e s m args below meth c s₁ B hml hP _
    have hh0 : s₁.heap = s.heap := by rw [B.state]; rfl
    obtain ⟨t, a1, o, b1, b2, b3⟩ := body p e s m args below meth c s₁ B hml hP s₁ hh0 (Stand.of_body B)
    exact ⟨t, o, a1, b1, b2, b3⟩
/-! ===== END ===== -/
end
section
/-! ===== BEGIN printed: names, fields, word lists, decode rows ===== -/
def RX0 : String := "OddShoes$Maker"
def TX0 : u_T := fun k => match k with
  | _ => ("OddShoes$Maker", "shoes", "[I", true)
def tyX0 : Nat → FieldType := fun k => match k with
  | _ => .array .int
abbrev wsX00 : List Cond := u_ws RX0 TX0 1
theorem nmX0 : ∀ a, a < 1 → ∀ b, b < 1 → a ≠ b → (TX0 a).2.1 ≠ (TX0 b).2.1 := by decide +kernel
theorem tyX0_ok : ∀ k, k < 1 → parseFieldDescriptor (TX0 k).2.2.1 = some (tyX0 k) := by decide +kernel
abbrev cX0_init : ByteArray := prog_2_method_1_code
def yX0_init : MethodName := ⟨RX0, "<init>", "()V"⟩
abbrev cX0_kindOf : ByteArray := prog_2_method_2_code
def yX0_kindOf : MethodName := ⟨RX0, "kindOf", "(III)I"⟩
def RX1 : String := "OddShoes$Measures"
def TX1 : u_T := fun k => match k with
  | 0 => ("OddShoes$Measures", "trialCount", "I", false)
  | 1 => ("OddShoes$Measures", "trials", "[LOddShoes$Trial;", true)
  | 2 => ("OddShoes$Measures", "low", "[I", true)
  | 3 => ("OddShoes$Measures", "high", "[I", true)
  | 4 => ("OddShoes$Measures", "least", "[I", true)
  | 5 => ("OddShoes$Measures", "greatest", "[I", true)
  | _ => ("OddShoes$Measures", "gap", "[I", true)
def tyX1 : Nat → FieldType := fun k => match k with
  | 0 => .int
  | 1 => .array (.object "OddShoes$Trial")
  | 2 => .array .int
  | 3 => .array .int
  | 4 => .array .int
  | 5 => .array .int
  | _ => .array .int
abbrev wsX10 : List Cond := u_ws RX1 TX1 7
theorem nmX1 : ∀ a, a < 7 → ∀ b, b < 7 → a ≠ b → (TX1 a).2.1 ≠ (TX1 b).2.1 := by decide +kernel
theorem tyX1_ok : ∀ k, k < 7 → parseFieldDescriptor (TX1 k).2.2.1 = some (tyX1 k) := by decide +kernel
abbrev cX1_init : ByteArray := prog_3_method_1_code
def yX1_init : MethodName := ⟨RX1, "<init>", "()V"⟩
abbrev cX1_isFull : ByteArray := prog_3_method_2_code
def yX1_isFull : MethodName := ⟨RX1, "isFull", "()Z"⟩
abbrev cX1_trialAt : ByteArray := prog_3_method_3_code
def yX1_trialAt : MethodName := ⟨RX1, "trialAt", "(I)LOddShoes$Trial;"⟩
abbrev cX1_standing : ByteArray := prog_3_method_4_code
def yX1_standing : MethodName := ⟨RX1, "standing", "()I"⟩
abbrev cX1_takesIn : ByteArray := prog_3_method_5_code
def yX1_takesIn : MethodName := ⟨RX1, "takesIn", "(LOddShoes$Trial;)Z"⟩
abbrev cX1_takeBack : ByteArray := prog_3_method_6_code
def yX1_takeBack : MethodName := ⟨RX1, "takeBack", "(LOddShoes$Trial;)V"⟩
abbrev cX1_leastNeed : ByteArray := prog_3_method_7_code
def yX1_leastNeed : MethodName := ⟨RX1, "leastNeed", "(II)I"⟩
abbrev cX1_greatestNeed : ByteArray := prog_3_method_8_code
def yX1_greatestNeed : MethodName := ⟨RX1, "greatestNeed", "(II)I"⟩
abbrev cX1_isSure : ByteArray := prog_3_method_9_code
def yX1_isSure : MethodName := ⟨RX1, "isSure", "(II)Z"⟩
abbrev cX1_leastShift : ByteArray := prog_3_method_10_code
def yX1_leastShift : MethodName := ⟨RX1, "leastShift", "(I)I"⟩
abbrev cX1_greatestShift : ByteArray := prog_3_method_11_code
def yX1_greatestShift : MethodName := ⟨RX1, "greatestShift", "(I)I"⟩
abbrev cX1_mostLonger : ByteArray := prog_3_method_12_code
def yX1_mostLonger : MethodName := ⟨RX1, "mostLonger", "(II)I"⟩
abbrev cX1_settle : ByteArray := prog_3_method_13_code
def yX1_settle : MethodName := ⟨RX1, "settle", "()Z"⟩
abbrev cX1_setFirstBounds : ByteArray := prog_3_method_14_code
def yX1_setFirstBounds : MethodName := ⟨RX1, "setFirstBounds", "()V"⟩
abbrev cX1_heed : ByteArray := prog_3_method_15_code
def yX1_heed : MethodName := ⟨RX1, "heed", "(LOddShoes$Trial;)V"⟩
abbrev cX1_closeGaps : ByteArray := prog_3_method_16_code
def yX1_closeGaps : MethodName := ⟨RX1, "closeGaps", "()V"⟩
abbrev cX1_directGap : ByteArray := prog_3_method_17_code
def yX1_directGap : MethodName := ⟨RX1, "directGap", "(II)I"⟩
abbrev cX1_setNeeds : ByteArray := prog_3_method_18_code
def yX1_setNeeds : MethodName := ⟨RX1, "setNeeds", "()V"⟩
def RX2 : String := "OddShoes$Offers"
def TX2 : u_T := fun k => match k with
  | 0 => ("OddShoes$Offers", "prices", "[I", true)
  | 1 => ("OddShoes$Offers", "byRank", "[I", true)
  | _ => ("OddShoes$Offers", "rankOf", "[I", true)
def tyX2 : Nat → FieldType := fun k => match k with
  | 0 => .array .int
  | 1 => .array .int
  | _ => .array .int
abbrev wsX20 : List Cond := u_ws RX2 TX2 3
theorem nmX2 : ∀ a, a < 3 → ∀ b, b < 3 → a ≠ b → (TX2 a).2.1 ≠ (TX2 b).2.1 := by decide +kernel
theorem tyX2_ok : ∀ k, k < 3 → parseFieldDescriptor (TX2 k).2.2.1 = some (tyX2 k) := by decide +kernel
abbrev cX2_init : ByteArray := prog_4_method_1_code
def yX2_init : MethodName := ⟨RX2, "<init>", "()V"⟩
abbrev cX2_put : ByteArray := prog_4_method_2_code
def yX2_put : MethodName := ⟨RX2, "put", "(III)V"⟩
abbrev cX2_insert : ByteArray := prog_4_method_3_code
def yX2_insert : MethodName := ⟨RX2, "insert", "(II)V"⟩
abbrev cX2_priceOf : ByteArray := prog_4_method_4_code
def yX2_priceOf : MethodName := ⟨RX2, "priceOf", "(I)I"⟩
abbrev cX2_ranksOf : ByteArray := prog_4_method_5_code
def yX2_ranksOf : MethodName := ⟨RX2, "ranksOf", "(II)I"⟩
abbrev cX2_bestOf : ByteArray := prog_4_method_6_code
def yX2_bestOf : MethodName := ⟨RX2, "bestOf", "(I)I"⟩
def RX3 : String := "OddShoes$Person"
def TX3 : u_T := fun k => match k with
  | 0 => ("OddShoes$Person", "feet", "I", true)
  | 1 => ("OddShoes$Person", "grows", "I", true)
  | 2 => ("OddShoes$Person", "lasts", "I", true)
  | 3 => ("OddShoes$Person", "came", "I", true)
  | 4 => ("OddShoes$Person", "likes", "I", false)
  | 5 => ("OddShoes$Person", "bars", "I", false)
  | 6 => ("OddShoes$Person", "shod", "I", false)
  | 7 => ("OddShoes$Person", "wait", "I", false)
  | 8 => ("OddShoes$Person", "timesShod", "I", false)
  | 9 => ("OddShoes$Person", "gone", "Z", false)
  | 10 => ("OddShoes$Person", "keptShod", "I", false)
  | 11 => ("OddShoes$Person", "keptWait", "I", false)
  | _ => ("OddShoes$Person", "keptTimes", "I", false)
def tyX3 : Nat → FieldType := fun k => match k with
  | 0 => .int
  | 1 => .int
  | 2 => .int
  | 3 => .int
  | 4 => .int
  | 5 => .int
  | 6 => .int
  | 7 => .int
  | 8 => .int
  | 9 => .boolean
  | 10 => .int
  | 11 => .int
  | _ => .int
abbrev wsX30 : List Cond := u_ws RX3 TX3 13
theorem nmX3 : ∀ a, a < 13 → ∀ b, b < 13 → a ≠ b → (TX3 a).2.1 ≠ (TX3 b).2.1 := by decide +kernel
theorem tyX3_ok : ∀ k, k < 13 → parseFieldDescriptor (TX3 k).2.2.1 = some (tyX3 k) := by decide +kernel
abbrev cX3_init : ByteArray := prog_5_method_1_code
def yX3_init : MethodName := ⟨RX3, "<init>", "(IIIII)V"⟩
abbrev cX3_hasFoot : ByteArray := prog_5_method_2_code
def yX3_hasFoot : MethodName := ⟨RX3, "hasFoot", "(I)Z"⟩
abbrev cX3_likesStyle : ByteArray := prog_5_method_3_code
def yX3_likesStyle : MethodName := ⟨RX3, "likesStyle", "(I)Z"⟩
abbrev cX3_isBarredFrom : ByteArray := prog_5_method_4_code
def yX3_isBarredFrom : MethodName := ⟨RX3, "isBarredFrom", "(I)Z"⟩
abbrev cX3_waits : ByteArray := prog_5_method_5_code
def yX3_waits : MethodName := ⟨RX3, "waits", "()Z"⟩
abbrev cX3_grownBy : ByteArray := prog_5_method_6_code
def yX3_grownBy : MethodName := ⟨RX3, "grownBy", "(I)I"⟩
abbrev cX3_shoe : ByteArray := prog_5_method_7_code
def yX3_shoe : MethodName := ⟨RX3, "shoe", "()V"⟩
abbrev cX3_leave : ByteArray := prog_5_method_8_code
def yX3_leave : MethodName := ⟨RX3, "leave", "()V"⟩
abbrev cX3_passMonth : ByteArray := prog_5_method_9_code
def yX3_passMonth : MethodName := ⟨RX3, "passMonth", "()V"⟩
abbrev cX3_keep : ByteArray := prog_5_method_10_code
def yX3_keep : MethodName := ⟨RX3, "keep", "()V"⟩
abbrev cX3_restore : ByteArray := prog_5_method_11_code
def yX3_restore : MethodName := ⟨RX3, "restore", "()V"⟩
def RX4 : String := "OddShoes$Plan"
def TX4 : u_T := fun k => match k with
  | 0 => ("OddShoes$Plan", "sets", "[I", true)
  | 1 => ("OddShoes$Plan", "offered", "[I", true)
  | 2 => ("OddShoes$Plan", "costs", "[I", true)
  | 3 => ("OddShoes$Plan", "rows", "[I", true)
  | 4 => ("OddShoes$Plan", "leftSizes", "[I", true)
  | 5 => ("OddShoes$Plan", "ringCount", "I", false)
  | 6 => ("OddShoes$Plan", "all", "I", false)
  | 7 => ("OddShoes$Plan", "pairs", "I", false)
  | 8 => ("OddShoes$Plan", "cost", "I", false)
  | _ => ("OddShoes$Plan", "worth", "I", false)
def tyX4 : Nat → FieldType := fun k => match k with
  | 0 => .array .int
  | 1 => .array .int
  | 2 => .array .int
  | 3 => .array .int
  | 4 => .array .int
  | 5 => .int
  | 6 => .int
  | 7 => .int
  | 8 => .int
  | _ => .int
abbrev wsX40 : List Cond := u_ws RX4 TX4 10
theorem nmX4 : ∀ a, a < 10 → ∀ b, b < 10 → a ≠ b → (TX4 a).2.1 ≠ (TX4 b).2.1 := by decide +kernel
theorem tyX4_ok : ∀ k, k < 10 → parseFieldDescriptor (TX4 k).2.2.1 = some (tyX4 k) := by decide +kernel
abbrev cX4_init : ByteArray := prog_6_method_1_code
def yX4_init : MethodName := ⟨RX4, "<init>", "()V"⟩
abbrev cX4_clear : ByteArray := prog_6_method_2_code
def yX4_clear : MethodName := ⟨RX4, "clear", "()V"⟩
abbrev cX4_add : ByteArray := prog_6_method_3_code
def yX4_add : MethodName := ⟨RX4, "add", "(IIII)V"⟩
def RX5 : String := "OddShoes$Planner"
def TX5 : u_T := fun k => match k with
  | 0 => ("OddShoes$Planner", "chosen", "[I", true)
  | 1 => ("OddShoes$Planner", "chosenCount", "I", false)
  | 2 => ("OddShoes$Planner", "all", "I", false)
  | 3 => ("OddShoes$Planner", "rings", "LOddShoes$Rings;", true)
  | 4 => ("OddShoes$Planner", "offers", "LOddShoes$Offers;", true)
  | 5 => ("OddShoes$Planner", "loops", "[I", true)
  | 6 => ("OddShoes$Planner", "firstLoop", "[I", true)
  | 7 => ("OddShoes$Planner", "loopCount", "I", false)
  | 8 => ("OddShoes$Planner", "gains", "[J", true)
  | 9 => ("OddShoes$Planner", "best", "[J", true)
  | 10 => ("OddShoes$Planner", "roundOf", "[I", true)
  | _ => ("OddShoes$Planner", "round", "I", false)
def tyX5 : Nat → FieldType := fun k => match k with
  | 0 => .array .int
  | 1 => .int
  | 2 => .int
  | 3 => .object "OddShoes$Rings"
  | 4 => .object "OddShoes$Offers"
  | 5 => .array .int
  | 6 => .array .int
  | 7 => .int
  | 8 => .array .long
  | 9 => .array .long
  | 10 => .array .int
  | _ => .int
abbrev wsX50 : List Cond := u_ws RX5 TX5 12
theorem nmX5 : ∀ a, a < 12 → ∀ b, b < 12 → a ≠ b → (TX5 a).2.1 ≠ (TX5 b).2.1 := by decide +kernel
theorem tyX5_ok : ∀ k, k < 12 → parseFieldDescriptor (TX5 k).2.2.1 = some (tyX5 k) := by decide +kernel
abbrev cX5_init : ByteArray := prog_7_method_1_code
def yX5_init : MethodName := ⟨RX5, "<init>", "(LOddShoes$Rings;LOddShoes$Offers;)V"⟩
abbrev cX5_choose : ByteArray := prog_7_method_2_code
def yX5_choose : MethodName := ⟨RX5, "choose", "()V"⟩
abbrev cX5_follow : ByteArray := prog_7_method_3_code
def yX5_follow : MethodName := ⟨RX5, "follow", "(IIII)V"⟩
abbrev cX5_add : ByteArray := prog_7_method_4_code
def yX5_add : MethodName := ⟨RX5, "add", "(II)V"⟩
abbrev cX5_bestFor : ByteArray := prog_7_method_5_code
def yX5_bestFor : MethodName := ⟨RX5, "bestFor", "(I)J"⟩
abbrev cX5_pick : ByteArray := prog_7_method_6_code
def yX5_pick : MethodName := ⟨RX5, "pick", "()V"⟩
abbrev cX5_pickFor : ByteArray := prog_7_method_7_code
def yX5_pickFor : MethodName := ⟨RX5, "pickFor", "(II)I"⟩
def RX6 : String := "OddShoes$Rings"
def TX6 : u_T := fun k => match k with
  | 0 => ("OddShoes$Rings", "before", "[I", true)
  | 1 => ("OddShoes$Rings", "ranks", "[I", true)
  | 2 => ("OddShoes$Rings", "bars", "[I", true)
  | 3 => ("OddShoes$Rings", "worths", "[I", true)
  | 4 => ("OddShoes$Rings", "leftMarks", "[I", true)
  | 5 => ("OddShoes$Rings", "rightMarks", "[I", true)
  | 6 => ("OddShoes$Rings", "able", "I", false)
  | _ => ("OddShoes$Rings", "leftFooted", "I", false)
def tyX6 : Nat → FieldType := fun k => match k with
  | 0 => .array .int
  | 1 => .array .int
  | 2 => .array .int
  | 3 => .array .int
  | 4 => .array .int
  | 5 => .array .int
  | 6 => .int
  | _ => .int
abbrev wsX60 : List Cond := u_ws RX6 TX6 8
theorem nmX6 : ∀ a, a < 8 → ∀ b, b < 8 → a ≠ b → (TX6 a).2.1 ≠ (TX6 b).2.1 := by decide +kernel
theorem tyX6_ok : ∀ k, k < 8 → parseFieldDescriptor (TX6 k).2.2.1 = some (tyX6 k) := by decide +kernel
abbrev cX6_init : ByteArray := prog_8_method_1_code
def yX6_init : MethodName := ⟨RX6, "<init>", "()V"⟩
abbrev cX6_clear : ByteArray := prog_8_method_2_code
def yX6_clear : MethodName := ⟨RX6, "clear", "()V"⟩
abbrev cX6_enter : ByteArray := prog_8_method_3_code
def yX6_enter : MethodName := ⟨RX6, "enter", "(IIII)V"⟩
abbrev cX6_tellFeet : ByteArray := prog_8_method_4_code
def yX6_tellFeet : MethodName := ⟨RX6, "tellFeet", "(III)V"⟩
abbrev cX6_link : ByteArray := prog_8_method_5_code
def yX6_link : MethodName := ⟨RX6, "link", "()V"⟩
abbrev cX6_goesAhead : ByteArray := prog_8_method_6_code
def yX6_goesAhead : MethodName := ⟨RX6, "goesAhead", "(II)Z"⟩
abbrev cX6_areAble : ByteArray := prog_8_method_7_code
def yX6_areAble : MethodName := ⟨RX6, "areAble", "(I)Z"⟩
abbrev cX6_pairsOf : ByteArray := prog_8_method_8_code
def yX6_pairsOf : MethodName := ⟨RX6, "pairsOf", "(I)I"⟩
abbrev cX6_worthOfAll : ByteArray := prog_8_method_9_code
def yX6_worthOfAll : MethodName := ⟨RX6, "worthOfAll", "(I)I"⟩
abbrev cX6_sharedBy : ByteArray := prog_8_method_10_code
def yX6_sharedBy : MethodName := ⟨RX6, "sharedBy", "(I)I"⟩
abbrev cX6_puts : ByteArray := prog_8_method_11_code
def yX6_puts : MethodName := ⟨RX6, "puts", "(I[II)Z"⟩
abbrev cX6_putsRest : ByteArray := prog_8_method_12_code
def yX6_putsRest : MethodName := ⟨RX6, "putsRest", "(II[II)Z"⟩
def RX7 : String := "OddShoes$Trial"
def TX7 : u_T := fun k => match k with
  | 0 => ("OddShoes$Trial", "maker", "I", true)
  | 1 => ("OddShoes$Trial", "size", "I", true)
  | 2 => ("OddShoes$Trial", "person", "I", true)
  | 3 => ("OddShoes$Trial", "side", "I", true)
  | 4 => ("OddShoes$Trial", "told", "I", true)
  | 5 => ("OddShoes$Trial", "month", "I", false)
  | 6 => ("OddShoes$Trial", "grown", "I", false)
  | _ => ("OddShoes$Trial", "stands", "Z", false)
def tyX7 : Nat → FieldType := fun k => match k with
  | 0 => .int
  | 1 => .int
  | 2 => .int
  | 3 => .int
  | 4 => .int
  | 5 => .int
  | 6 => .int
  | _ => .boolean
abbrev wsX70 : List Cond := u_ws RX7 TX7 8
theorem nmX7 : ∀ a, a < 8 → ∀ b, b < 8 → a ≠ b → (TX7 a).2.1 ≠ (TX7 b).2.1 := by decide +kernel
theorem tyX7_ok : ∀ k, k < 8 → parseFieldDescriptor (TX7 k).2.2.1 = some (tyX7 k) := by decide +kernel
abbrev cX7_init : ByteArray := prog_9_method_1_code
def yX7_init : MethodName := ⟨RX7, "<init>", "(IIIII)V"⟩
def RX8 : String := "OddShoes"
def TX8 : u_T := fun k => match k with
  | 0 => ("OddShoes", "makers", "[LOddShoes$Maker;", true)
  | 1 => ("OddShoes", "people", "[LOddShoes$Person;", true)
  | 2 => ("OddShoes", "measures", "LOddShoes$Measures;", true)
  | 3 => ("OddShoes", "offers", "LOddShoes$Offers;", true)
  | 4 => ("OddShoes", "rings", "LOddShoes$Rings;", true)
  | 5 => ("OddShoes", "latest", "LOddShoes$Plan;", true)
  | 6 => ("OddShoes", "toldRow", "[I", true)
  | 7 => ("OddShoes", "planner", "LOddShoes$Planner;", false)
  | 8 => ("OddShoes", "makerCount", "I", false)
  | 9 => ("OddShoes", "peopleCount", "I", false)
  | 10 => ("OddShoes", "toldLength", "I", false)
  | 11 => ("OddShoes", "now", "I", false)
  | 12 => ("OddShoes", "base", "I", false)
  | 13 => ("OddShoes", "per", "I", false)
  | 14 => ("OddShoes", "planHolds", "Z", false)
  | 15 => ("OddShoes", "pairsSent", "I", false)
  | 16 => ("OddShoes", "costSent", "I", false)
  | 17 => ("OddShoes", "shoesHeld", "I", false)
  | _ => ("OddShoes", "shoesHanded", "I", false)
def tyX8 : Nat → FieldType := fun k => match k with
  | 0 => .array (.object "OddShoes$Maker")
  | 1 => .array (.object "OddShoes$Person")
  | 2 => .object "OddShoes$Measures"
  | 3 => .object "OddShoes$Offers"
  | 4 => .object "OddShoes$Rings"
  | 5 => .object "OddShoes$Plan"
  | 6 => .array .int
  | 7 => .object "OddShoes$Planner"
  | 8 => .int
  | 9 => .int
  | 10 => .int
  | 11 => .int
  | 12 => .int
  | 13 => .int
  | 14 => .boolean
  | 15 => .int
  | 16 => .int
  | 17 => .int
  | _ => .int
abbrev wsX80 : List Cond := u_ws RX8 TX8 19
theorem nmX8 : ∀ a, a < 19 → ∀ b, b < 19 → a ≠ b → (TX8 a).2.1 ≠ (TX8 b).2.1 := by decide +kernel
theorem tyX8_ok : ∀ k, k < 19 → parseFieldDescriptor (TX8 k).2.2.1 = some (tyX8 k) := by decide +kernel
abbrev cX8_init : ByteArray := prog_1_method_1_code
def yX8_init : MethodName := ⟨RX8, "<init>", "()V"⟩
abbrev cX8_maker : ByteArray := prog_1_method_2_code
def yX8_maker : MethodName := ⟨RX8, "maker", "()I"⟩
abbrev cX8_price : ByteArray := prog_1_method_3_code
def yX8_price : MethodName := ⟨RX8, "price", "(III)Z"⟩
abbrev cX8_person : ByteArray := prog_1_method_4_code
def yX8_person : MethodName := ⟨RX8, "person", "(ZZIII)I"⟩
abbrev cX8_bar : ByteArray := prog_1_method_5_code
def yX8_bar : MethodName := ⟨RX8, "bar", "(IIZ)Z"⟩
abbrev cX8_likes : ByteArray := prog_1_method_6_code
def yX8_likes : MethodName := ⟨RX8, "likes", "(II)Z"⟩
abbrev cX8_gone : ByteArray := prog_1_method_7_code
def yX8_gone : MethodName := ⟨RX8, "gone", "(I)Z"⟩
abbrev cX8_trial : ByteArray := prog_1_method_8_code
def yX8_trial : MethodName := ⟨RX8, "trial", "(IIIII)I"⟩
abbrev cX8_unsay : ByteArray := prog_1_method_9_code
def yX8_unsay : MethodName := ⟨RX8, "unsay", "(I)Z"⟩
abbrev cX8_trialOf : ByteArray := prog_1_method_10_code
def yX8_trialOf : MethodName := ⟨RX8, "trialOf", "(II)I"⟩
abbrev cX8_need : ByteArray := prog_1_method_11_code
def yX8_need : MethodName := ⟨RX8, "need", "(IIII)I"⟩
abbrev cX8_shift : ByteArray := prog_1_method_12_code
def yX8_shift : MethodName := ⟨RX8, "shift", "(II)I"⟩
abbrev cX8_differ : ByteArray := prog_1_method_13_code
def yX8_differ : MethodName := ⟨RX8, "differ", "(IIIII)I"⟩
abbrev cX8_terms : ByteArray := prog_1_method_14_code
def yX8_terms : MethodName := ⟨RX8, "terms", "(II)Z"⟩
abbrev cX8_ring : ByteArray := prog_1_method_15_code
def yX8_ring : MethodName := ⟨RX8, "ring", "(I)I"⟩
abbrev cX8_ringOf : ByteArray := prog_1_method_16_code
def yX8_ringOf : MethodName := ⟨RX8, "ringOf", "(I)I"⟩
abbrev cX8_plan : ByteArray := prog_1_method_17_code
def yX8_plan : MethodName := ⟨RX8, "plan", "()I"⟩
abbrev cX8_planOf : ByteArray := prog_1_method_18_code
def yX8_planOf : MethodName := ⟨RX8, "planOf", "(II)I"⟩
abbrev cX8_send : ByteArray := prog_1_method_19_code
def yX8_send : MethodName := ⟨RX8, "send", "()I"⟩
abbrev cX8_month : ByteArray := prog_1_method_20_code
def yX8_month : MethodName := ⟨RX8, "month", "(I)I"⟩
abbrev cX8_ahead : ByteArray := prog_1_method_21_code
def yX8_ahead : MethodName := ⟨RX8, "ahead", "(I)I"⟩
abbrev cX8_single : ByteArray := prog_1_method_22_code
def yX8_single : MethodName := ⟨RX8, "single", "(IIII)I"⟩
abbrev cX8_hand : ByteArray := prog_1_method_23_code
def yX8_hand : MethodName := ⟨RX8, "hand", "(I)I"⟩
abbrev cX8_stock : ByteArray := prog_1_method_24_code
def yX8_stock : MethodName := ⟨RX8, "stock", "(IIII)I"⟩
abbrev cX8_personOf : ByteArray := prog_1_method_25_code
def yX8_personOf : MethodName := ⟨RX8, "personOf", "(II)I"⟩
abbrev cX8_count : ByteArray := prog_1_method_26_code
def yX8_count : MethodName := ⟨RX8, "count", "(I)I"⟩
abbrev cX8_isWithin : ByteArray := prog_1_method_27_code
def yX8_isWithin : MethodName := ⟨RX8, "isWithin", "(III)Z"⟩
abbrev cX8_isStyle : ByteArray := prog_1_method_28_code
def yX8_isStyle : MethodName := ⟨RX8, "isStyle", "(I)Z"⟩
abbrev cX8_isStyleSet : ByteArray := prog_1_method_29_code
def yX8_isStyleSet : MethodName := ⟨RX8, "isStyleSet", "(I)Z"⟩
abbrev cX8_isKind : ByteArray := prog_1_method_30_code
def yX8_isKind : MethodName := ⟨RX8, "isKind", "(III)Z"⟩
abbrev cX8_footOf : ByteArray := prog_1_method_31_code
def yX8_footOf : MethodName := ⟨RX8, "footOf", "(II)I"⟩
abbrev cX8_lowestOf : ByteArray := prog_1_method_32_code
def yX8_lowestOf : MethodName := ⟨RX8, "lowestOf", "(I)I"⟩
abbrev cX8_makerAt : ByteArray := prog_1_method_33_code
def yX8_makerAt : MethodName := ⟨RX8, "makerAt", "(I)LOddShoes$Maker;"⟩
abbrev cX8_personAt : ByteArray := prog_1_method_34_code
def yX8_personAt : MethodName := ⟨RX8, "personAt", "(I)LOddShoes$Person;"⟩
abbrev cX8_worthOf : ByteArray := prog_1_method_35_code
def yX8_worthOf : MethodName := ⟨RX8, "worthOf", "(LOddShoes$Person;)I"⟩
abbrev cX8_waiting : ByteArray := prog_1_method_36_code
def yX8_waiting : MethodName := ⟨RX8, "waiting", "()I"⟩
abbrev cX8_passMonth : ByteArray := prog_1_method_37_code
def yX8_passMonth : MethodName := ⟨RX8, "passMonth", "()V"⟩
abbrev cX8_shoeAll : ByteArray := prog_1_method_38_code
def yX8_shoeAll : MethodName := ⟨RX8, "shoeAll", "(I)V"⟩
abbrev cX8_suits : ByteArray := prog_1_method_39_code
def yX8_suits : MethodName := ⟨RX8, "suits", "(II)Z"⟩
abbrev cX8_takesOfStock : ByteArray := prog_1_method_40_code
def yX8_takesOfStock : MethodName := ⟨RX8, "takesOfStock", "(III)Z"⟩
abbrev cX8_kindFor : ByteArray := prog_1_method_41_code
def yX8_kindFor : MethodName := ⟨RX8, "kindFor", "(IIII)I"⟩
abbrev cX8_sureNeed : ByteArray := prog_1_method_42_code
def yX8_sureNeed : MethodName := ⟨RX8, "sureNeed", "(III)I"⟩
abbrev cX8_lookRound : ByteArray := prog_1_method_43_code
def yX8_lookRound : MethodName := ⟨RX8, "lookRound", "()V"⟩
abbrev cX8_offersFor : ByteArray := prog_1_method_44_code
def yX8_offersFor : MethodName := ⟨RX8, "offersFor", "(I)I"⟩
abbrev cX8_markOf : ByteArray := prog_1_method_45_code
def yX8_markOf : MethodName := ⟨RX8, "markOf", "(II)I"⟩
abbrev cX8_makePlan : ByteArray := prog_1_method_46_code
def yX8_makePlan : MethodName := ⟨RX8, "makePlan", "()LOddShoes$Planner;"⟩
abbrev cX8_enter : ByteArray := prog_1_method_47_code
def yX8_enter : MethodName := ⟨RX8, "enter", "(I)V"⟩
def RX9 : String := "OddShoesModel"
def TX9 : u_T := fun k => match k with
  | 0 => ("OddShoesModel", "thrown", "I", false)
  | 1 => ("OddShoesModel", "makers", "I", false)
  | 2 => ("OddShoesModel", "people", "I", false)
  | 3 => ("OddShoesModel", "trials", "I", false)
  | 4 => ("OddShoesModel", "month", "I", false)
  | 5 => ("OddShoesModel", "base", "I", false)
  | 6 => ("OddShoesModel", "per", "I", false)
  | 7 => ("OddShoesModel", "price", "[I", true)
  | 8 => ("OddShoesModel", "foot", "[Z", true)
  | 9 => ("OddShoesModel", "likes", "[I", true)
  | 10 => ("OddShoesModel", "grows", "[I", true)
  | 11 => ("OddShoesModel", "lasts", "[I", true)
  | 12 => ("OddShoesModel", "came", "[I", true)
  | 13 => ("OddShoesModel", "bars", "[I", true)
  | 14 => ("OddShoesModel", "shod", "[I", true)
  | 15 => ("OddShoesModel", "wait", "[I", true)
  | 16 => ("OddShoesModel", "isGone", "[Z", true)
  | 17 => ("OddShoesModel", "times", "[I", true)
  | 18 => ("OddShoesModel", "trialMaker", "[I", true)
  | 19 => ("OddShoesModel", "trialSize", "[I", true)
  | 20 => ("OddShoesModel", "trialFoot", "[I", true)
  | 21 => ("OddShoesModel", "trialTold", "[I", true)
  | 22 => ("OddShoesModel", "trialMonth", "[I", true)
  | 23 => ("OddShoesModel", "stands", "[Z", true)
  | 24 => ("OddShoesModel", "stock", "[I", true)
  | 25 => ("OddShoesModel", "pairs", "I", false)
  | 26 => ("OddShoesModel", "spent", "I", false)
  | 27 => ("OddShoesModel", "handed", "I", false)
  | 28 => ("OddShoesModel", "most", "[I", true)
  | 29 => ("OddShoesModel", "isPlanned", "Z", false)
  | 30 => ("OddShoesModel", "setCost", "[I", true)
  | 31 => ("OddShoesModel", "setMaker", "[I", true)
  | 32 => ("OddShoesModel", "setStyle", "[I", true)
  | 33 => ("OddShoesModel", "row", "[I", true)
  | 34 => ("OddShoesModel", "rowSize", "I", false)
  | 35 => ("OddShoesModel", "told", "[I", true)
  | 36 => ("OddShoesModel", "toldSize", "I", false)
  | 37 => ("OddShoesModel", "worth", "[I", true)
  | 38 => ("OddShoesModel", "cost", "[I", true)
  | 39 => ("OddShoesModel", "takes", "[I", true)
  | 40 => ("OddShoesModel", "rings", "[I", true)
  | 41 => ("OddShoesModel", "ringMany", "I", false)
  | 42 => ("OddShoesModel", "planMany", "I", false)
  | 43 => ("OddShoesModel", "planCost", "I", false)
  | 44 => ("OddShoesModel", "planPeople", "I", false)
  | 45 => ("OddShoesModel", "planSet", "[I", true)
  | 46 => ("OddShoesModel", "planMaker", "[I", true)
  | 47 => ("OddShoesModel", "planStyle", "[I", true)
  | 48 => ("OddShoesModel", "planEach", "[I", true)
  | 49 => ("OddShoesModel", "planRow", "[I", true)
  | 50 => ("OddShoesModel", "planSize", "[I", true)
  | 51 => ("OddShoesModel", "keptShod", "[I", true)
  | _ => ("OddShoesModel", "keptWait", "[I", true)
def tyX9 : Nat → FieldType := fun k => match k with
  | 0 => .int
  | 1 => .int
  | 2 => .int
  | 3 => .int
  | 4 => .int
  | 5 => .int
  | 6 => .int
  | 7 => .array .int
  | 8 => .array .boolean
  | 9 => .array .int
  | 10 => .array .int
  | 11 => .array .int
  | 12 => .array .int
  | 13 => .array .int
  | 14 => .array .int
  | 15 => .array .int
  | 16 => .array .boolean
  | 17 => .array .int
  | 18 => .array .int
  | 19 => .array .int
  | 20 => .array .int
  | 21 => .array .int
  | 22 => .array .int
  | 23 => .array .boolean
  | 24 => .array .int
  | 25 => .int
  | 26 => .int
  | 27 => .int
  | 28 => .array .int
  | 29 => .boolean
  | 30 => .array .int
  | 31 => .array .int
  | 32 => .array .int
  | 33 => .array .int
  | 34 => .int
  | 35 => .array .int
  | 36 => .int
  | 37 => .array .int
  | 38 => .array .int
  | 39 => .array .int
  | 40 => .array .int
  | 41 => .int
  | 42 => .int
  | 43 => .int
  | 44 => .int
  | 45 => .array .int
  | 46 => .array .int
  | 47 => .array .int
  | 48 => .array .int
  | 49 => .array .int
  | 50 => .array .int
  | 51 => .array .int
  | _ => .array .int
abbrev wsX90 : List Cond := u_ws RX9 TX9 53
theorem nmX9 : ∀ a, a < 53 → ∀ b, b < 53 → a ≠ b → (TX9 a).2.1 ≠ (TX9 b).2.1 := by decide +kernel
theorem tyX9_ok : ∀ k, k < 53 → parseFieldDescriptor (TX9 k).2.2.1 = some (tyX9 k) := by decide +kernel
abbrev cX9_thrown : ByteArray := prog_11_method_1_code
def yX9_thrown : MethodName := ⟨RX9, "thrown", "()I"⟩
abbrev cX9_in : ByteArray := prog_11_method_2_code
def yX9_in : MethodName := ⟨RX9, "in", "(III)Z"⟩
abbrev cX9_init : ByteArray := prog_11_method_3_code
def yX9_init : MethodName := ⟨RX9, "<init>", "()V"⟩
abbrev cX9_isMaker : ByteArray := prog_11_method_4_code
def yX9_isMaker : MethodName := ⟨RX9, "isMaker", "(I)Z"⟩
abbrev cX9_isPerson : ByteArray := prog_11_method_5_code
def yX9_isPerson : MethodName := ⟨RX9, "isPerson", "(I)Z"⟩
abbrev cX9_isFoot : ByteArray := prog_11_method_6_code
def yX9_isFoot : MethodName := ⟨RX9, "isFoot", "(II)Z"⟩
abbrev cX9_grown : ByteArray := prog_11_method_7_code
def yX9_grown : MethodName := ⟨RX9, "grown", "(II)I"⟩
abbrev cX9_bound : ByteArray := prog_11_method_8_code
def yX9_bound : MethodName := ⟨RX9, "bound", "(III)V"⟩
abbrev cX9_closes : ByteArray := prog_11_method_9_code
def yX9_closes : MethodName := ⟨RX9, "closes", "()Z"⟩
abbrev cX9_tells : ByteArray := prog_11_method_10_code
def yX9_tells : MethodName := ⟨RX9, "tells", "(I)V"⟩
abbrev cX9_least : ByteArray := prog_11_method_11_code
def yX9_least : MethodName := ⟨RX9, "least", "(III)I"⟩
abbrev cX9_greatest : ByteArray := prog_11_method_12_code
def yX9_greatest : MethodName := ⟨RX9, "greatest", "(III)I"⟩
abbrev cX9_maker : ByteArray := prog_11_method_13_code
def yX9_maker : MethodName := ⟨RX9, "maker", "()I"⟩
abbrev cX9_price : ByteArray := prog_11_method_14_code
def yX9_price : MethodName := ⟨RX9, "price", "(III)Z"⟩
abbrev cX9_person : ByteArray := prog_11_method_15_code
def yX9_person : MethodName := ⟨RX9, "person", "(ZZIII)I"⟩
abbrev cX9_bar : ByteArray := prog_11_method_16_code
def yX9_bar : MethodName := ⟨RX9, "bar", "(IIZ)Z"⟩
abbrev cX9_likes : ByteArray := prog_11_method_17_code
def yX9_likes : MethodName := ⟨RX9, "likes", "(II)Z"⟩
abbrev cX9_gone : ByteArray := prog_11_method_18_code
def yX9_gone : MethodName := ⟨RX9, "gone", "(I)Z"⟩
abbrev cX9_trial : ByteArray := prog_11_method_19_code
def yX9_trial : MethodName := ⟨RX9, "trial", "(IIIII)I"⟩
abbrev cX9_unsay : ByteArray := prog_11_method_20_code
def yX9_unsay : MethodName := ⟨RX9, "unsay", "(I)Z"⟩
abbrev cX9_trialOf : ByteArray := prog_11_method_21_code
def yX9_trialOf : MethodName := ⟨RX9, "trialOf", "(II)I"⟩
abbrev cX9_need : ByteArray := prog_11_method_22_code
def yX9_need : MethodName := ⟨RX9, "need", "(IIII)I"⟩
abbrev cX9_shift : ByteArray := prog_11_method_23_code
def yX9_shift : MethodName := ⟨RX9, "shift", "(II)I"⟩
abbrev cX9_differ : ByteArray := prog_11_method_24_code
def yX9_differ : MethodName := ⟨RX9, "differ", "(IIIII)I"⟩
abbrev cX9_terms : ByteArray := prog_11_method_25_code
def yX9_terms : MethodName := ⟨RX9, "terms", "(II)Z"⟩
abbrev cX9_waits : ByteArray := prog_11_method_26_code
def yX9_waits : MethodName := ⟨RX9, "waits", "(I)Z"⟩
abbrev cX9_sizeOf : ByteArray := prog_11_method_27_code
def yX9_sizeOf : MethodName := ⟨RX9, "sizeOf", "(I)I"⟩
abbrev cX9_isSure : ByteArray := prog_11_method_28_code
def yX9_isSure : MethodName := ⟨RX9, "isSure", "(III)Z"⟩
abbrev cX9_areSure : ByteArray := prog_11_method_29_code
def yX9_areSure : MethodName := ⟨RX9, "areSure", "(III)Z"⟩
abbrev cX9_goes : ByteArray := prog_11_method_30_code
def yX9_goes : MethodName := ⟨RX9, "goes", "(IIII)Z"⟩
abbrev cX9_goesRound : ByteArray := prog_11_method_31_code
def yX9_goesRound : MethodName := ⟨RX9, "goesRound", "(IIIII)Z"⟩
abbrev cX9_hasRow : ByteArray := prog_11_method_32_code
def yX9_hasRow : MethodName := ⟨RX9, "hasRow", "(III)Z"⟩
abbrev cX9_costOf : ByteArray := prog_11_method_33_code
def yX9_costOf : MethodName := ⟨RX9, "costOf", "(II)I"⟩
abbrev cX9_ring : ByteArray := prog_11_method_34_code
def yX9_ring : MethodName := ⟨RX9, "ring", "(I)I"⟩
abbrev cX9_ringOf : ByteArray := prog_11_method_35_code
def yX9_ringOf : MethodName := ⟨RX9, "ringOf", "(I)I"⟩
abbrev cX9_worthOf : ByteArray := prog_11_method_36_code
def yX9_worthOf : MethodName := ⟨RX9, "worthOf", "(I)I"⟩
abbrev cX9_plans : ByteArray := prog_11_method_37_code
def yX9_plans : MethodName := ⟨RX9, "plans", "(I)V"⟩
abbrev cX9_plan : ByteArray := prog_11_method_38_code
def yX9_plan : MethodName := ⟨RX9, "plan", "()I"⟩
abbrev cX9_laysRing : ByteArray := prog_11_method_39_code
def yX9_laysRing : MethodName := ⟨RX9, "laysRing", "(I)V"⟩
abbrev cX9_planOf : ByteArray := prog_11_method_40_code
def yX9_planOf : MethodName := ⟨RX9, "planOf", "(II)I"⟩
abbrev cX9_isShod : ByteArray := prog_11_method_41_code
def yX9_isShod : MethodName := ⟨RX9, "isShod", "(I)V"⟩
abbrev cX9_send : ByteArray := prog_11_method_42_code
def yX9_send : MethodName := ⟨RX9, "send", "()I"⟩
abbrev cX9_aMonth : ByteArray := prog_11_method_43_code
def yX9_aMonth : MethodName := ⟨RX9, "aMonth", "()V"⟩
abbrev cX9_month : ByteArray := prog_11_method_44_code
def yX9_month : MethodName := ⟨RX9, "month", "(I)I"⟩
abbrev cX9_ahead : ByteArray := prog_11_method_45_code
def yX9_ahead : MethodName := ⟨RX9, "ahead", "(I)I"⟩
abbrev cX9_kind : ByteArray := prog_11_method_46_code
def yX9_kind : MethodName := ⟨RX9, "kind", "(IIII)I"⟩
abbrev cX9_single : ByteArray := prog_11_method_47_code
def yX9_single : MethodName := ⟨RX9, "single", "(IIII)I"⟩
abbrev cX9_isThere : ByteArray := prog_11_method_48_code
def yX9_isThere : MethodName := ⟨RX9, "isThere", "(III)Z"⟩
abbrev cX9_hand : ByteArray := prog_11_method_49_code
def yX9_hand : MethodName := ⟨RX9, "hand", "(I)I"⟩
abbrev cX9_stock : ByteArray := prog_11_method_50_code
def yX9_stock : MethodName := ⟨RX9, "stock", "(IIII)I"⟩
abbrev cX9_personOf : ByteArray := prog_11_method_51_code
def yX9_personOf : MethodName := ⟨RX9, "personOf", "(II)I"⟩
abbrev cX9_count : ByteArray := prog_11_method_52_code
def yX9_count : MethodName := ⟨RX9, "count", "(I)I"⟩
def RJ6 : String := "java/lang/Integer"
def TJ6 : u_T := fun k => match k with
  | _ => ("", "", "", false)
def tyJ6 : Nat → FieldType := fun k => match k with
  | _ => .int
abbrev wsJ60 : List Cond := u_ws RJ6 TJ6 0
theorem nmJ6 : ∀ a, a < 0 → ∀ b, b < 0 → a ≠ b → (TJ6 a).2.1 ≠ (TJ6 b).2.1 := by decide +kernel
theorem tyJ6_ok : ∀ k, k < 0 → parseFieldDescriptor (TJ6 k).2.2.1 = some (tyJ6 k) := by decide +kernel
abbrev cJ6_bitCount_0f7a4 : ByteArray := prog_13_method_49_code
def yJ6_bitCount_0f7a4 : MethodName := ⟨RJ6, "bitCount", "(I)I"⟩
def RJ9 : String := "java/lang/Math"
def TJ9 : u_T := fun k => match k with
  | _ => ("", "", "", false)
def tyJ9 : Nat → FieldType := fun k => match k with
  | _ => .int
abbrev wsJ90 : List Cond := u_ws RJ9 TJ9 0
theorem nmJ9 : ∀ a, a < 0 → ∀ b, b < 0 → a ≠ b → (TJ9 a).2.1 ≠ (TJ9 b).2.1 := by decide +kernel
theorem tyJ9_ok : ∀ k, k < 0 → parseFieldDescriptor (TJ9 k).2.2.1 = some (tyJ9 k) := by decide +kernel
abbrev cJ9_max_7cf53 : ByteArray := prog_14_method_65_code
def yJ9_max_7cf53 : MethodName := ⟨RJ9, "max", "(II)I"⟩
abbrev cJ9_max_f86c9 : ByteArray := prog_14_method_66_code
def yJ9_max_f86c9 : MethodName := ⟨RJ9, "max", "(JJ)J"⟩
abbrev cJ9_min_7cf53 : ByteArray := prog_14_method_69_code
def yJ9_min_7cf53 : MethodName := ⟨RJ9, "min", "(II)I"⟩
def RJ0 : String := "java/lang/String"
def TJ0 : u_T := fun k => match k with
  | _ => ("", "", "", false)
def tyJ0 : Nat → FieldType := fun k => match k with
  | _ => .int
abbrev wsJ00 : List Cond := u_ws RJ0 TJ0 0
theorem nmJ0 : ∀ a, a < 0 → ∀ b, b < 0 → a ≠ b → (TJ0 a).2.1 ≠ (TJ0 b).2.1 := by decide +kernel
theorem tyJ0_ok : ∀ k, k < 0 → parseFieldDescriptor (TJ0 k).2.2.1 = some (tyJ0 k) := by decide +kernel
def RL : String := "OddShoesLaw"
abbrev cL_need : ByteArray := method_3_code
def yL_need : MethodName := ⟨RL, "need", "(LOddShoes;IIII[J)I"⟩
abbrev cL_shift : ByteArray := method_4_code
def yL_shift : MethodName := ⟨RL, "shift", "(LOddShoes;II[J)I"⟩
abbrev cL_differ : ByteArray := method_5_code
def yL_differ : MethodName := ⟨RL, "differ", "(LOddShoes;IIIII[J)I"⟩
abbrev cL_law : ByteArray := code
def yL_law : MethodName := ⟨RL, "law", "([I)Z"⟩
abbrev vwCl : List vw_C := [(RX0, TX0, 1), (RX1, TX1, 7), (RX2, TX2, 3), (RX3, TX3, 13), (RX4, TX4, 10), (RX5, TX5, 12), (RX6, TX6, 8), (RX7, TX7, 8), (RX8, TX8, 19), (RX9, TX9, 53)]
end
section
/-! A throw of a callee, caught by the one row of the caller's table (own text: the printed rows rest on a law that no round imports). -/
section CX
variable {p : Program} {l : Launch} {e : Env} {R : Room} {s : State} {m : MethodId} {args : Array Value} {below : List Frame} {meth : Method} {c : Code} {H : Heap} {locs : List Loc} {cells slots : Nat} {Q : State → Prop} {ls : Array Slot} {rest : List Value} {pc : Nat}
theorem cx_go {S : State} {f : JFrame} {a : Addr} {x : ExceptionTableEntry} {k : ClassId} {cell : Cell} (hx : covers x f.pc = true) (h0 : x.catchType ≠ 0)
    (hl : S.vm.ClassLinks e.platform f.method.cls x.catchType k) (hcell : S.heap[a]? = some cell) (hobj : ∀ z, cell.vm ≠ .statics z)
    (h1 : ∃ z, S.vm.classes[cell.cls]? = some z) (h2 : ∃ z, S.vm.classes[k]? = some z) (hfit : S.vm.assignable cell.cls k = true)
    {Qh : Handler → Pre} {E : CtlPost} {d : Bool} {acts : List Action} :
    wp (findHandler.go f a [x]) Qh E e d acts S ↔ Qh (.found x.handlerPc) d acts (S.setVm (S.vm.noted f.method.cls x.catchType (.cls k))) := by
  simp only [covers] at hx
  obtain ⟨ha, ht⟩ := (resolveClass_links e.toSetting hl).op (op := VmOp.resolveClass f.method.cls x.catchType) rfl
  have hal : S.vm.Alike (S.vm.noted f.method.cls x.catchType (.cls k)) := (Vm.Alike.refl S.vm).noted _ _ _
  obtain ⟨z1, hz1⟩ := h1
  obtain ⟨z2, hz2⟩ := h2
  obtain ⟨y1, hy1, -⟩ := hal.2.2 _ _ hz1
  obtain ⟨y2, hy2, -⟩ := hal.2.2 _ _ hz2
  have hfit' : (S.vm.noted f.method.cls x.catchType (.cls k)).assignable cell.cls k = true := by rw [hal.assignable]; exact hfit
  simp [findHandler.go, hx, h0, ha, ht, hcell, hobj, hy1, hy2, hfit', VmOp.dirties, VmOp.acts]
theorem cx_step {S : State} {a : Addr} {f : JFrame} {r : List Frame} {q : Nat} {vm' : Vm}
    (hfind : ∀ (Qh : Handler → Pre) (E : CtlPost) (d : Bool) (acts : List Action), wp (findHandler f a) Qh E e d acts S ↔ Qh (.found q) d acts (S.setVm vm')) :
    (stepThrowing e S a (.java f :: r)).Is ((S.setVm vm').setFrames (.java { f with pc := q, stack := [.ref a] } :: r)) [] := by
  simp only [stepThrowing, searchFrame, vmDo]
  generalize hr : Sem.go _ e false [] S = res
  obtain ⟨as, rfl, ha⟩ := Sem.eq_ok_of hr (a := Handler.found q) (s' := S.setVm vm') (acts' := []) (by simp [hfind _ _ _ _])
  exact ⟨rfl, ha⟩
theorem cx_frames (u : State) (vm' : Vm) (F G : List Frame) : ((u.setFrames F).setVm vm').setFrames G = (u.setVm vm').setFrames G := by
  have h1 : (u.setFrames F).setVm vm' = (u.setVm vm').setFrames F := rfl
  rw [h1, State.setFrames_setFrames]
/-- the one row of the table covers the pc and names a class to which the thrown one can be assigned: on to its handler -/
theorem cx_catch {own name : String} {E : String} {ce : Cell} {q : Addr} (hown : s.vm.findClass own = some m.cls) (x : ExceptionTableEntry) (hsplit : c.exceptionTable.toList = [x]) (hx : covers x pc = true) (h0 : x.catchType ≠ 0)
    (hlink : (Cond.classLink own x.catchType name).before args s = true) (hcast : (Cond.castable E name).before args s = true) (hcell : H[q]? = some ce) (hv : ce.vm = .none) (hcl : s.vm.findClass E = some ce.cls)
    (kk : W p l e R s m args below meth c H locs cells slots Q (F0 m x.handlerPc ls [.ref q])) : vx_W p l e R s m args below meth c H locs cells slots Q (F0 m pc ls rest) q := by
  intro T hT X
  have hpl : e.platform.magicAccessors = ({} : Platform).magicAccessors := by rw [X.admits.platform]
  obtain ⟨c3, c4, hc3, hc4, hasg⟩ := Cond.castable_spec hcast
  cases Option.some.inj (hc3.symm.trans hcl)
  obtain ⟨c5, hc5, hcl5⟩ := Cond.classLink_spec hown hlink e.platform hpl
  cases Option.some.inj (hc4.symm.trans hc5)
  obtain ⟨dk, _, _, kt, hd, _, _, _, _, hkt, _, hopen⟩ := hcl5.here
  have hcl0 := X.warmed.classLinks hcl5
  have hW' : s.WarmedH (T.vm.noted m.cls x.catchType (.cls c4)) := X.warmed.noted hd hopen (State.rightAt_cls hcl5)
  have hal := X.warmed.alike
  obtain ⟨kt', hkt', -⟩ := hal.2.2 _ _ hkt
  have hfit' : T.vm.assignable ce.cls c4 = true := by rw [hal.assignable]; exact hasg
  have hfind : ∀ (Qh : Handler → Pre) (E : CtlPost) (d : Bool) (acts : List Action), wp (findHandler (F0 m pc ls rest) q) Qh E e d acts ((T.setTop (F0 m pc ls rest)).pushFrame (.throwing q)) ↔ Qh (.found x.handlerPc) d acts (((T.setTop (F0 m pc ls rest)).pushFrame (.throwing q)).setVm (T.vm.noted m.cls x.catchType (.cls c4))) := by
    intro Qh E d acts
    rw [W.findHandler_eq (meth := meth) (code := c) X.method' X.code, hsplit]
    exact cx_go (S := (T.setTop (F0 m pc ls rest)).pushFrame (.throwing q)) (f := F0 m pc ls rest) (cell := ce) hx h0 hcl0 (by show T.heap[q]? = some ce; rw [hT]; exact hcell) (VmData.ne_statics_of (by rw [hv]; rfl)) (Vm.classAt_of_assignable hfit' ⟨kt', hkt'⟩) ⟨kt', hkt'⟩ hfit'
  obtain ⟨t, a1, b1⟩ := kk (T.setVm (T.vm.noted m.cls x.catchType (.cls c4))) hT (X.noted hW')
  refine ⟨t, ?_, b1⟩
  have h : At T (F0 m pc ls rest).method c below := X.here
  obtain ⟨hgo, hw⟩ := h.throwing q
  refine Steps.head hgo hw ?_
  rw [stepThread_throwing (frames_entered h.top _), (cx_step (S := (T.setTop (F0 m pc ls rest)).pushFrame (.throwing q)) hfind).1]
  obtain ⟨g₀, hg⟩ := Option.isSome_iff_exists.mp h.top
  obtain ⟨r, hr⟩ := State.topJava?_eq_some.mp hg
  have hr' : (T.setVm (T.vm.noted m.cls x.catchType (.cls c4))).frames = .java g₀ :: r := hr
  rw [State.setTop_of_frames _ hr'] at a1
  rw [hr, List.tail_cons, State.pushFrame, cx_frames, State.setTop_of_frames _ hr, cx_frames]
  exact a1
end CX
end
section
/-! The words of this proof: a world before a call, a world behind it, calls with their frame in one row. -/
section Base
/-- links of nest mates and arrays of references, which no word list of a method carries -/
def nw (U : State) : Prop := va_Nw (.methodLinkNest RX8 30 yX2_init "OddShoes") U ∧ va_Nw (.methodLinkNest RX8 37 yX6_init "OddShoes") U ∧ va_Nw (.methodLinkNest RX8 44 yX4_init "OddShoes") U ∧ va_Nw (.methodLinkNest RX8 92 yX0_init "OddShoes") U ∧ va_AO "OddShoes$Maker" U ∧ va_AO "OddShoes$Person" U ∧ va_AO "OddShoes$Trial" U
theorem nw_warm {s U : State} (hW : s.WarmedH U.vm) (h : nw s) : nw U := ⟨va_Nw.warmM hW h.1, va_Nw.warmM hW h.2.1, va_Nw.warmM hW h.2.2.1, va_Nw.warmM hW h.2.2.2.1, va_AO.moved hW.alike h.2.2.2.2.1, va_AO.moved hW.alike h.2.2.2.2.2.1, va_AO.moved hW.alike h.2.2.2.2.2.2⟩
theorem nw_same {u U : State} (e : u.vm = U.vm) (h : nw u) : nw U := ⟨va_Nw.same rfl e h.1, va_Nw.same rfl e h.2.1, va_Nw.same rfl e h.2.2.1, va_Nw.same rfl e h.2.2.2.1, va_AO.moved (by rw [e]; exact Vm.Alike.refl _) h.2.2.2.2.1, va_AO.moved (by rw [e]; exact Vm.Alike.refl _) h.2.2.2.2.2.1, va_AO.moved (by rw [e]; exact Vm.Alike.refl _) h.2.2.2.2.2.2⟩
abbrev TyL : Type := List (ClassId × FieldType)
/-- the world that a method finds -/
abbrev pw (D : va_G) (sz : Nat) (ws : va_W) (tys : TyL) (U : State) : Prop := U.heap.size = sz ∧ va_P D vwCl ws U.heap ∧ va_K D vwCl tys U ∧ va_D (fun _ => True) ws ∧ nw U
/-- the world that it leaves -/
abbrev qw (D : va_G) (A : Nat → Prop) (ws : va_W) (tys : TyL) (t : State) : Prop := va_P D vwCl ws t.heap ∧ va_K D vwCl tys t ∧ va_D A ws
theorem pw_blind {D : va_G} {sz : Nat} {ws : va_W} {tys : TyL} {As : List Value} : FrameBlind (va_Pc As (pw D sz ws tys)) := fun a U g mk q => by
  obtain ⟨q0, q1, qP, qK, qD, qN⟩ := q
  exact ⟨q0, q1, qP, va_K.moved (u := U) (U := U.calling g mk a) (Vm.Alike.refl U.vm) qK, qD, nw_same (u := U) (U := U.calling g mk a) rfl qN⟩
theorem pw_S {s : State} {H : Heap} {D : va_G} {ws wc : va_W} {tys tc : TyL} {As : List Value} {A : Nat → Prop} (isC isT : List Nat) (hP : va_P D vwCl ws H) (hD : va_D A ws) (hK : va_K D vwCl tys s) (hN : nw s) (hC : isC.filterMap (fun i => ws[i]?) = wc) (hC2 : isC.map (fun i => ws[i]?) = wc.map some) (hn : va_nd isC = true) (hT : isT.filterMap (fun i => tys[i]?) = tc) : PreS s H (va_Pc As (pw D H.size wc tc)) As :=
  ⟨pw_blind, fun U hU hW => ⟨rfl, by rw [hU], by rw [hU]; exact hP.sub isC hC, va_K.moved hW.alike (hK.sub isT hT), (hD.sub isC hn hC2).weaken (fun _ _ _ _ => trivial), nw_warm hW hN⟩⟩
theorem pw_V {s : State} {H : Heap} {D : va_G} {ws wc : va_W} {tys tc : TyL} {As : List Value} {A : Nat → Prop} (isC isT : List Nat) (hP : va_P D vwCl ws H) (hD : va_D A ws) (hK : va_K D vwCl tys s) (hN : nw s) (hC : isC.filterMap (fun i => ws[i]?) = wc) (hC2 : isC.map (fun i => ws[i]?) = wc.map some) (hn : va_nd isC = true) (hT : isT.filterMap (fun i => tys[i]?) = tc)
    {ci q0 : Nat} {b : Nat} {fs : List Value} {q : vw_C} (hc : vwCl[ci]? = some q) (he : ws[q0]? = some (b, .inr (ci, fs))) : PreV s H q.1 b (va_Pc (.ref b :: As) (pw D H.size wc tc)) As :=
  ⟨pw_blind, va_recv hK hP hc he, fun U hU hW => ⟨rfl, by rw [hU], by rw [hU]; exact hP.sub isC hC, va_K.moved hW.alike (hK.sub isT hT), (hD.sub isC hn hC2).weaken (fun _ _ _ _ => trivial), nw_warm hW hN⟩⟩
section Frame
variable {p : Program} {l : Launch} {e : Env} {R : Room} {s : State} {m : MethodId} {args : Array Value} {below : List Frame} {meth : Method} {c : Code} {H : Heap} {locs : List Loc} {cells slots : Nat} {Q : State → Prop}
variable {pc : Nat} {ls : Array Slot} {rest st0 : List Value} {a : Array Value} {A : Nat → Prop} {H0 : Heap} {mc ms : Nat} {D : va_G} {ws wc wr : va_W} {tys : TyL}
theorem fr_i {S : Type} {post : Int32 → S → Prop} {w1 : S → va_W} {t1 : S → TyL} (hrun : va_Run p l e R s m args below meth c H locs cells slots mc ms (F0 m pc ls st0) rest (va_Qi post (fun u => qw D (va_A wc H.size) (w1 u) (t1 u)) (va_A wc H.size) a) (va_A wc H.size))
    (hP : va_P D vwCl ws H) (hD : va_D A ws) (hK : va_K D vwCl tys s) (hS : va_S A H0 H locs) (hA : ∀ q, H0.size ≤ q → A q) (isC isR : List Nat) (hC : isC.map (fun i => ws[i]?) = wc.map some) (hR : isR.map (fun i => ws[i]?) = wr.map some) (hn : va_nd isR = true) (hdis : ∀ i ∈ isR, i ∉ isC)
    (kk : ∀ (r : Int32) (u : S) (H1 : Heap) (locs1 : List Loc), post r u → va_P D vwCl (wr ++ w1 u) H1 → va_D A (wr ++ w1 u) → va_K D vwCl (tys ++ t1 u) s → va_S A H0 H1 locs1 → W p l e R s m args below meth c H1 locs1 (cells + mc) (slots + ms) Q (F0 m (pc + 3) ls (.int r :: rest))) : W p l e R s m args below meth c H locs cells slots Q (F0 m pc ls st0) := by
  have hFc := va_free (wc := wc) hD hS hA isC hC
  refine va_calli hrun hS (fun q _ h => hFc q h) hFc (fun r u t H1 locs1 ht hvm hw hB hz1 hk1 hS1 => ?_)
  obtain ⟨hP1, hK1, hD1⟩ := hB
  rw [ht] at hP1
  have hK1 := va_K.moved hvm.symm hK1
  obtain ⟨hP2, hD2⟩ := va_join (wr := wr) (w1 := w1 u) hP hD isC isR hC hR hn hdis hk1 hFc hP1 hD1
  exact kk r u H1 locs1 hw hP2 hD2 (hK.app hK1) hS1
theorem fr_v {S : Type} {post : S → Prop} {w1 : S → va_W} {t1 : S → TyL} (hrun : va_Run p l e R s m args below meth c H locs cells slots mc ms (F0 m pc ls st0) rest (va_Qv post (fun u => qw D (va_A wc H.size) (w1 u) (t1 u)) (va_A wc H.size) a) (va_A wc H.size))
    (hP : va_P D vwCl ws H) (hD : va_D A ws) (hK : va_K D vwCl tys s) (hS : va_S A H0 H locs) (hA : ∀ q, H0.size ≤ q → A q) (isC isR : List Nat) (hC : isC.map (fun i => ws[i]?) = wc.map some) (hR : isR.map (fun i => ws[i]?) = wr.map some) (hn : va_nd isR = true) (hdis : ∀ i ∈ isR, i ∉ isC)
    (kk : ∀ (u : S) (H1 : Heap) (locs1 : List Loc), post u → va_P D vwCl (wr ++ w1 u) H1 → va_D A (wr ++ w1 u) → va_K D vwCl (tys ++ t1 u) s → va_S A H0 H1 locs1 → W p l e R s m args below meth c H1 locs1 (cells + mc) (slots + ms) Q (F0 m (pc + 3) ls rest)) : W p l e R s m args below meth c H locs cells slots Q (F0 m pc ls st0) := by
  have hFc := va_free (wc := wc) hD hS hA isC hC
  refine va_callv hrun hS (fun q _ h => hFc q h) hFc (fun u t H1 locs1 ht hvm hw hB hz1 hk1 hS1 => ?_)
  obtain ⟨hP1, hK1, hD1⟩ := hB
  rw [ht] at hP1
  have hK1 := va_K.moved hvm.symm hK1
  obtain ⟨hP2, hD2⟩ := va_join (wr := wr) (w1 := w1 u) hP hD isC isR hC hR hn hdis hk1 hFc hP1 hD1
  exact kk u H1 locs1 hw hP2 hD2 (hK.app hK1) hS1
theorem fr_q {S : Type} {post : Option Nat → S → Prop} {w1 : S → va_W} {t1 : S → TyL} (hrun : va_Run p l e R s m args below meth c H locs cells slots mc ms (F0 m pc ls st0) rest (va_Qq post (fun u => qw D (va_A wc H.size) (w1 u) (t1 u)) (va_A wc H.size) a) (va_A wc H.size))
    (hP : va_P D vwCl ws H) (hD : va_D A ws) (hK : va_K D vwCl tys s) (hS : va_S A H0 H locs) (hA : ∀ q, H0.size ≤ q → A q) (isC isR : List Nat) (hC : isC.map (fun i => ws[i]?) = wc.map some) (hR : isR.map (fun i => ws[i]?) = wr.map some) (hn : va_nd isR = true) (hdis : ∀ i ∈ isR, i ∉ isC)
    (kk : ∀ (r : Option Nat) (u : S) (H1 : Heap) (locs1 : List Loc), post r u → va_P D vwCl (wr ++ w1 u) H1 → va_D A (wr ++ w1 u) → va_K D vwCl (tys ++ t1 u) s → va_S A H0 H1 locs1 → W p l e R s m args below meth c H1 locs1 (cells + mc) (slots + ms) Q (F0 m (pc + 3) ls (va_rf r :: rest))) : W p l e R s m args below meth c H locs cells slots Q (F0 m pc ls st0) := by
  have hFc := va_free (wc := wc) hD hS hA isC hC
  refine va_callq hrun hS (fun q _ h => hFc q h) hFc (fun r u t H1 locs1 ht hvm hw hB hz1 hk1 hS1 => ?_)
  obtain ⟨hP1, hK1, hD1⟩ := hB
  rw [ht] at hP1
  have hK1 := va_K.moved hvm.symm hK1
  obtain ⟨hP2, hD2⟩ := va_join (wr := wr) (w1 := w1 u) hP hD isC isR hC hR hn hdis hk1 hFc hP1 hD1
  exact kk r u H1 locs1 hw hP2 hD2 (hK.app hK1) hS1
/-- a number on the stack is another one's name -/
theorem tI {x y : Int32} (h : x = y) (k : W p l e R s m args below meth c H locs cells slots Q (F0 m pc ls (.int y :: rest))) : W p l e R s m args below meth c H locs cells slots Q (F0 m pc ls (.int x :: rest)) := by
  rw [h]; exact k
/-- what it is doesn't matter any more -/
theorem tF {x : Int32} (k : ∀ y : Int32, W p l e R s m args below meth c H locs cells slots Q (F0 m pc ls (.int y :: rest))) : W p l e R s m args below meth c H locs cells slots Q (F0 m pc ls (.int x :: rest)) := k x
end Frame
/-- is a number within two bounds: 1 or 0 -/
def isW (x lo hi : Int32) : Int32 := if lo ≤ x ∧ x ≤ hi then 1 else 0
theorem isW_no (x : Int32) : isW x 0 (-1) = 0 := by
  unfold isW
  rw [if_neg]
  rintro ⟨h1, h2⟩
  have h1 := Int32.le_iff_toInt_le.mp h1
  have h2 := Int32.le_iff_toInt_le.mp h2
  have e1 : (0 : Int32).toInt = 0 := by decide
  have e2 : (-1 : Int32).toInt = -1 := by decide
  omega
theorem isW_no1 (x : Int32) : isW x 1 0 = 0 := by
  unfold isW
  rw [if_neg]
  rintro ⟨h1, h2⟩
  have h1 := Int32.le_iff_toInt_le.mp h1
  have h2 := Int32.le_iff_toInt_le.mp h2
  have e1 : (0 : Int32).toInt = 0 := by decide
  have e2 : (1 : Int32).toInt = 1 := by decide
  omega
/-- between 0 and a bound: a natural number -/
theorem isW_nat {x : Int32} {lo hi : Int32} (h : ¬ isW x lo hi = 0) {a b : Nat} (ha : lo = nI a) (hb : hi = nI b) (ha1 : a < 2 ^ 31) (hb1 : b < 2 ^ 31) : ∃ j : Nat, a ≤ j ∧ j ≤ b ∧ x = nI j := by
  unfold isW at h
  by_cases q : lo ≤ x ∧ x ≤ hi
  · obtain ⟨q1, q2⟩ := q
    have q1 := Int32.le_iff_toInt_le.mp q1
    have q2 := Int32.le_iff_toInt_le.mp q2
    rw [ha, nI_toInt ha1] at q1
    rw [hb, nI_toInt hb1] at q2
    have h0 : (0 : Int32).toInt = 0 := by decide
    obtain ⟨j, hj, e⟩ := nI_of (x := x) (fun q => by
      have q := Int32.lt_iff_toInt_lt.mp q
      omega)
    rw [e, nI_toInt hj] at q1 q2
    exact ⟨j, by omega, by omega, e⟩
  · rw [if_neg q] at h; exact absurd rfl h
theorem lt_of {i : Nat} {y : Int32} (b : Nat) (c : ¬ y ≤ nI i) (hy : y = nI b) (hi : i < 2 ^ 31) : i < b := by
  rcases Nat.lt_or_ge i b with q | q
  · exact q
  · exact absurd (by rw [hy]; exact nI_le q hi) c
theorem ge_of {i : Nat} {y : Int32} (b : Nat) (c : y ≤ nI i) (hy : y = nI b) (hi : i < 2 ^ 31) (hb : b < 2 ^ 31) : b ≤ i := by
  rw [hy] at c; exact (nI_leI hb hi).mp c
theorem isW_nar (x lo hi : Int32) : narrow .boolean (.int (isW x lo hi)) = .int (isW x lo hi) := by
  unfold isW
  split <;> rfl
end Base
theorem able1 : ∀ i, i < 12 → (if ((1 : Int32) <<< (nI i &&& 31)) &&& (-1) = 0 then (1 : Int32) else 0) = 0 := by decide +kernel
theorem able2 : ∀ i, i < 12 → ∀ j, j < 12 → (if (((1 : Int32) <<< (nI i &&& 31)) ||| ((1 : Int32) <<< (nI j &&& 31))) &&& (-1) = 0 then (1 : Int32) else 0) = 0 := by decide +kernel
theorem pick0 : ∀ i, i < 12 → ((0 : Int32) >>> (nI i &&& 31)) &&& 1 = 0 := by decide +kernel
end
section
/-! The words that the contracts use, in one list. -/
def G0 : List Cond := [.code yX8_isWithin cX8_isWithin 3 (some .boolean), .methodLink RX8 101 yX8_isWithin, .static yX8_isWithin, .initialized yX8_isWithin.cls, .fieldLink RX8 57 "OddShoes" "makerCount" "I", .fieldLink RX8 61 "OddShoes" "peopleCount" "I", .fieldLink RX1 9 "OddShoes$Measures" "trialCount" "I", .fieldLink RX8 67 "OddShoes" "now" "I", .constant RJ6 265 (1431655765), .constant RJ6 266 (858993459), .constant RJ6 267 (252645135), .methodLink RX0 3 objectInit, .instanceMethod objectInit, .code objectInit ⟨#[0xb1]⟩ 1 none, .arrayClass .int, .fieldLink RX0 9 "OddShoes$Maker" "shoes" "[I", .methodLink RX3 3 objectInit, .fieldLink RX3 9 "OddShoes$Person" "bars" "I", .fieldLink RX3 15 "OddShoes$Person" "shod" "I", .fieldLink RX3 18 "OddShoes$Person" "wait" "I", .fieldLink RX3 21 "OddShoes$Person" "timesShod" "I", .fieldLink RX3 24 "OddShoes$Person" "gone" "Z", .fieldLink RX3 28 "OddShoes$Person" "keptShod" "I", .fieldLink RX3 31 "OddShoes$Person" "keptWait" "I", .fieldLink RX3 34 "OddShoes$Person" "keptTimes" "I", .fieldLink RX3 37 "OddShoes$Person" "feet" "I", .fieldLink RX3 40 "OddShoes$Person" "likes" "I", .fieldLink RX3 43 "OddShoes$Person" "grows" "I", .fieldLink RX3 46 "OddShoes$Person" "lasts" "I", .fieldLink RX3 49 "OddShoes$Person" "came" "I", .methodLink RX2 3 objectInit, .fieldLink RX2 11 "OddShoes$Offers" "prices" "[I", .fieldLink RX2 15 "OddShoes$Offers" "byRank" "[I", .fieldLink RX2 18 "OddShoes$Offers" "rankOf" "[I", .methodLink RX6 3 objectInit, .fieldLink RX6 9 "OddShoes$Rings" "before" "[I", .fieldLink RX6 15 "OddShoes$Rings" "ranks" "[I", .fieldLink RX6 18 "OddShoes$Rings" "bars" "[I", .fieldLink RX6 21 "OddShoes$Rings" "worths" "[I", .fieldLink RX6 24 "OddShoes$Rings" "leftMarks" "[I", .fieldLink RX6 27 "OddShoes$Rings" "rightMarks" "[I", .fieldLink RX6 30 "OddShoes$Rings" "able" "I", .fieldLink RX6 34 "OddShoes$Rings" "leftFooted" "I", .methodLink RX4 3 objectInit, .fieldLink RX4 9 "OddShoes$Plan" "sets" "[I", .fieldLink RX4 15 "OddShoes$Plan" "offered" "[I", .fieldLink RX4 18 "OddShoes$Plan" "costs" "[I", .fieldLink RX4 21 "OddShoes$Plan" "rows" "[I", .fieldLink RX4 24 "OddShoes$Plan" "leftSizes" "[I", .fieldLink RX4 27 "OddShoes$Plan" "ringCount" "I", .fieldLink RX4 31 "OddShoes$Plan" "all" "I", .fieldLink RX4 34 "OddShoes$Plan" "pairs" "I", .fieldLink RX4 37 "OddShoes$Plan" "cost" "I", .fieldLink RX4 40 "OddShoes$Plan" "worth" "I", .fieldLink RX1 21 "OddShoes$Measures" "low" "[I", .fieldLink RX1 25 "OddShoes$Measures" "high" "[I", .methodLink RX1 55 Lib.Math.min.name, .static Lib.Math.min.name, .initialized "java/lang/Math", .code Lib.Math.min.name Lib.Math.min.code 2 (some .int), .fieldLink RX1 34 "OddShoes$Measures" "gap" "[I", .code yX1_directGap cX1_directGap 5 (some .int), .methodLink RX1 97 yX1_directGap, .instanceMethod yX1_directGap, .selects RX1 yX1_directGap yX1_directGap, .initialized RX1, .fieldLink RX1 28 "OddShoes$Measures" "least" "[I", .fieldLink RX1 31 "OddShoes$Measures" "greatest" "[I", .methodLink RX1 94 Lib.Math.max.name, .static Lib.Math.max.name, .code Lib.Math.max.name Lib.Math.max.code 2 (some .int), .code yX1_setFirstBounds cX1_setFirstBounds 5 none, .methodLink RX1 60 yX1_setFirstBounds, .instanceMethod yX1_setFirstBounds, .selects RX1 yX1_setFirstBounds yX1_setFirstBounds, .code yX1_closeGaps cX1_closeGaps 5 none, .methodLink RX1 67 yX1_closeGaps, .instanceMethod yX1_closeGaps, .selects RX1 yX1_closeGaps yX1_closeGaps, .code yX1_setNeeds cX1_setNeeds 6 none, .methodLink RX1 70 yX1_setNeeds, .instanceMethod yX1_setNeeds, .selects RX1 yX1_setNeeds yX1_setNeeds, .methodLink RX1 3 objectInit, .classLink RX1 15 RX7, .fieldLink RX1 17 "OddShoes$Measures" "trials" "[LOddShoes$Trial;", .code yX1_settle cX1_settle 2 (some .boolean), .methodLink RX1 37 yX1_settle, .instanceMethod yX1_settle, .selects RX1 yX1_settle yX1_settle, .code yX6_areAble cX6_areAble 2 (some .boolean), .methodLink RX6 37 yX6_areAble, .instanceMethod yX6_areAble, .selects RX6 yX6_areAble yX6_areAble, .initialized RX6, .methodLink RX5 3 objectInit, .fieldLink RX5 9 "OddShoes$Planner" "chosen" "[I", .fieldLink RX5 15 "OddShoes$Planner" "chosenCount" "I", .fieldLink RX5 19 "OddShoes$Planner" "all" "I", .fieldLink RX5 22 "OddShoes$Planner" "loops" "[I", .fieldLink RX5 25 "OddShoes$Planner" "firstLoop" "[I", .fieldLink RX5 28 "OddShoes$Planner" "loopCount" "I", .arrayClass .long, .fieldLink RX5 31 "OddShoes$Planner" "gains" "[J", .fieldLink RX5 35 "OddShoes$Planner" "best" "[J", .fieldLink RX5 38 "OddShoes$Planner" "roundOf" "[I", .fieldLink RX5 41 "OddShoes$Planner" "round" "I", .fieldLink RX5 44 "OddShoes$Planner" "rings" "LOddShoes$Rings;", .fieldLink RX5 48 "OddShoes$Planner" "offers" "LOddShoes$Offers;", .code yX5_pick cX5_pick 4 none, .methodLink RX5 62 yX5_pick, .instanceMethod yX5_pick, .selects RX5 yX5_pick yX5_pick, .initialized RX5, .methodLink RX5 52 yX6_areAble, .fieldLink RX8 38 "OddShoes" "rings" "LOddShoes$Rings;", .code yX6_clear cX6_clear 2 none, .methodLink RX8 369 yX6_clear, .instanceMethod yX6_clear, .selects RX6 yX6_clear yX6_clear, .code yX6_link cX6_link 3 none, .methodLink RX8 382 yX6_link, .instanceMethod yX6_link, .selects RX6 yX6_link yX6_link, .fieldLink RX8 53 "OddShoes" "planner" "LOddShoes$Planner;", .classLink RX8 249 RX5, .instantiable RX5 12, .fieldLink RX8 31 "OddShoes" "offers" "LOddShoes$Offers;", .code yX5_init cX5_init 3 none, .methodLink RX8 388 yX5_init, .instanceMethod yX5_init, .code yX8_lookRound cX8_lookRound 4 none, .methodLink RX8 222 yX8_lookRound, .instanceMethod yX8_lookRound, .selects RX8 yX8_lookRound yX8_lookRound, .initialized RX8, .code yX5_choose cX5_choose 2 none, .methodLink RX8 391 yX5_choose, .instanceMethod yX5_choose, .selects RX5 yX5_choose yX5_choose, .methodLink RX8 1 objectInit, .classLink RX8 9 RX0, .fieldLink RX8 11 "OddShoes" "makers" "[LOddShoes$Maker;", .classLink RX8 15 RX3, .fieldLink RX8 17 "OddShoes" "people" "[LOddShoes$Person;", .classLink RX8 21 RX1, .instantiable RX1 7, .code yX1_init cX1_init 1 none, .methodLink RX8 23 yX1_init, .instanceMethod yX1_init, .fieldLink RX8 24 "OddShoes" "measures" "LOddShoes$Measures;", .classLink RX8 28 RX2, .instantiable RX2 3, .initialized RX2, .code yX2_init cX2_init 1 none, .instanceMethod yX2_init, .classLink RX8 35 RX6, .instantiable RX6 8, .code yX6_init cX6_init 1 none, .instanceMethod yX6_init, .classLink RX8 42 RX4, .instantiable RX4 10, .initialized RX4, .code yX4_init cX4_init 1 none, .instanceMethod yX4_init, .fieldLink RX8 45 "OddShoes" "latest" "LOddShoes$Plan;", .fieldLink RX8 49 "OddShoes" "toldRow" "[I", .fieldLink RX8 64 "OddShoes" "toldLength" "I", .fieldLink RX8 70 "OddShoes" "base" "I", .fieldLink RX8 73 "OddShoes" "per" "I", .fieldLink RX8 76 "OddShoes" "planHolds" "Z", .fieldLink RX8 80 "OddShoes" "pairsSent" "I", .fieldLink RX8 83 "OddShoes" "costSent" "I", .fieldLink RX8 86 "OddShoes" "shoesHeld" "I", .fieldLink RX8 89 "OddShoes" "shoesHanded" "I"]
def G : List Cond := G0 ++ (wsX00 ++ (wsX10 ++ (wsX20 ++ (wsX30 ++ (wsX40 ++ (wsX50 ++ (wsX60 ++ (wsX70 ++ (wsX80 ++ (wsX90))))))))))
theorem gw_0 : (.code yX8_isWithin cX8_isWithin 3 (some .boolean) : Cond) ∈ G := List.mem_append_left _ (List.mem_of_getElem? (i := 0) rfl)
theorem gw_1 : (.methodLink RX8 101 yX8_isWithin : Cond) ∈ G := List.mem_append_left _ (List.mem_of_getElem? (i := 1) rfl)
theorem gw_2 : (.static yX8_isWithin : Cond) ∈ G := List.mem_append_left _ (List.mem_of_getElem? (i := 2) rfl)
theorem gw_3 : (.initialized yX8_isWithin.cls : Cond) ∈ G := List.mem_append_left _ (List.mem_of_getElem? (i := 3) rfl)
theorem gw_4 : (.fieldLink RX8 57 "OddShoes" "makerCount" "I" : Cond) ∈ G := List.mem_append_left _ (List.mem_of_getElem? (i := 4) rfl)
theorem gw_5 : (.fieldLink RX8 61 "OddShoes" "peopleCount" "I" : Cond) ∈ G := List.mem_append_left _ (List.mem_of_getElem? (i := 5) rfl)
theorem gw_6 : (.fieldLink RX1 9 "OddShoes$Measures" "trialCount" "I" : Cond) ∈ G := List.mem_append_left _ (List.mem_of_getElem? (i := 6) rfl)
theorem gw_7 : (.fieldLink RX8 67 "OddShoes" "now" "I" : Cond) ∈ G := List.mem_append_left _ (List.mem_of_getElem? (i := 7) rfl)
theorem gw_8 : (.constant RJ6 265 (1431655765) : Cond) ∈ G := List.mem_append_left _ (List.mem_of_getElem? (i := 8) rfl)
theorem gw_9 : (.constant RJ6 266 (858993459) : Cond) ∈ G := List.mem_append_left _ (List.mem_of_getElem? (i := 9) rfl)
theorem gw_10 : (.constant RJ6 267 (252645135) : Cond) ∈ G := List.mem_append_left _ (List.mem_of_getElem? (i := 10) rfl)
theorem gw_11 : (.methodLink RX0 3 objectInit : Cond) ∈ G := List.mem_append_left _ (List.mem_of_getElem? (i := 11) rfl)
theorem gw_12 : (.instanceMethod objectInit : Cond) ∈ G := List.mem_append_left _ (List.mem_of_getElem? (i := 12) rfl)
theorem gw_13 : (.code objectInit ⟨#[0xb1]⟩ 1 none : Cond) ∈ G := List.mem_append_left _ (List.mem_of_getElem? (i := 13) rfl)
theorem gw_14 : (.arrayClass .int : Cond) ∈ G := List.mem_append_left _ (List.mem_of_getElem? (i := 14) rfl)
theorem gw_15 : (.fieldLink RX0 9 "OddShoes$Maker" "shoes" "[I" : Cond) ∈ G := List.mem_append_left _ (List.mem_of_getElem? (i := 15) rfl)
theorem gw_16 : (.methodLink RX3 3 objectInit : Cond) ∈ G := List.mem_append_left _ (List.mem_of_getElem? (i := 16) rfl)
theorem gw_17 : (.fieldLink RX3 9 "OddShoes$Person" "bars" "I" : Cond) ∈ G := List.mem_append_left _ (List.mem_of_getElem? (i := 17) rfl)
theorem gw_18 : (.fieldLink RX3 15 "OddShoes$Person" "shod" "I" : Cond) ∈ G := List.mem_append_left _ (List.mem_of_getElem? (i := 18) rfl)
theorem gw_19 : (.fieldLink RX3 18 "OddShoes$Person" "wait" "I" : Cond) ∈ G := List.mem_append_left _ (List.mem_of_getElem? (i := 19) rfl)
theorem gw_20 : (.fieldLink RX3 21 "OddShoes$Person" "timesShod" "I" : Cond) ∈ G := List.mem_append_left _ (List.mem_of_getElem? (i := 20) rfl)
theorem gw_21 : (.fieldLink RX3 24 "OddShoes$Person" "gone" "Z" : Cond) ∈ G := List.mem_append_left _ (List.mem_of_getElem? (i := 21) rfl)
theorem gw_22 : (.fieldLink RX3 28 "OddShoes$Person" "keptShod" "I" : Cond) ∈ G := List.mem_append_left _ (List.mem_of_getElem? (i := 22) rfl)
theorem gw_23 : (.fieldLink RX3 31 "OddShoes$Person" "keptWait" "I" : Cond) ∈ G := List.mem_append_left _ (List.mem_of_getElem? (i := 23) rfl)
theorem gw_24 : (.fieldLink RX3 34 "OddShoes$Person" "keptTimes" "I" : Cond) ∈ G := List.mem_append_left _ (List.mem_of_getElem? (i := 24) rfl)
theorem gw_25 : (.fieldLink RX3 37 "OddShoes$Person" "feet" "I" : Cond) ∈ G := List.mem_append_left _ (List.mem_of_getElem? (i := 25) rfl)
theorem gw_26 : (.fieldLink RX3 40 "OddShoes$Person" "likes" "I" : Cond) ∈ G := List.mem_append_left _ (List.mem_of_getElem? (i := 26) rfl)
theorem gw_27 : (.fieldLink RX3 43 "OddShoes$Person" "grows" "I" : Cond) ∈ G := List.mem_append_left _ (List.mem_of_getElem? (i := 27) rfl)
theorem gw_28 : (.fieldLink RX3 46 "OddShoes$Person" "lasts" "I" : Cond) ∈ G := List.mem_append_left _ (List.mem_of_getElem? (i := 28) rfl)
theorem gw_29 : (.fieldLink RX3 49 "OddShoes$Person" "came" "I" : Cond) ∈ G := List.mem_append_left _ (List.mem_of_getElem? (i := 29) rfl)
theorem gw_30 : (.methodLink RX2 3 objectInit : Cond) ∈ G := List.mem_append_left _ (List.mem_of_getElem? (i := 30) rfl)
theorem gw_31 : (.fieldLink RX2 11 "OddShoes$Offers" "prices" "[I" : Cond) ∈ G := List.mem_append_left _ (List.mem_of_getElem? (i := 31) rfl)
theorem gw_32 : (.fieldLink RX2 15 "OddShoes$Offers" "byRank" "[I" : Cond) ∈ G := List.mem_append_left _ (List.mem_of_getElem? (i := 32) rfl)
theorem gw_33 : (.fieldLink RX2 18 "OddShoes$Offers" "rankOf" "[I" : Cond) ∈ G := List.mem_append_left _ (List.mem_of_getElem? (i := 33) rfl)
theorem gw_34 : (.methodLink RX6 3 objectInit : Cond) ∈ G := List.mem_append_left _ (List.mem_of_getElem? (i := 34) rfl)
theorem gw_35 : (.fieldLink RX6 9 "OddShoes$Rings" "before" "[I" : Cond) ∈ G := List.mem_append_left _ (List.mem_of_getElem? (i := 35) rfl)
theorem gw_36 : (.fieldLink RX6 15 "OddShoes$Rings" "ranks" "[I" : Cond) ∈ G := List.mem_append_left _ (List.mem_of_getElem? (i := 36) rfl)
theorem gw_37 : (.fieldLink RX6 18 "OddShoes$Rings" "bars" "[I" : Cond) ∈ G := List.mem_append_left _ (List.mem_of_getElem? (i := 37) rfl)
theorem gw_38 : (.fieldLink RX6 21 "OddShoes$Rings" "worths" "[I" : Cond) ∈ G := List.mem_append_left _ (List.mem_of_getElem? (i := 38) rfl)
theorem gw_39 : (.fieldLink RX6 24 "OddShoes$Rings" "leftMarks" "[I" : Cond) ∈ G := List.mem_append_left _ (List.mem_of_getElem? (i := 39) rfl)
theorem gw_40 : (.fieldLink RX6 27 "OddShoes$Rings" "rightMarks" "[I" : Cond) ∈ G := List.mem_append_left _ (List.mem_of_getElem? (i := 40) rfl)
theorem gw_41 : (.fieldLink RX6 30 "OddShoes$Rings" "able" "I" : Cond) ∈ G := List.mem_append_left _ (List.mem_of_getElem? (i := 41) rfl)
theorem gw_42 : (.fieldLink RX6 34 "OddShoes$Rings" "leftFooted" "I" : Cond) ∈ G := List.mem_append_left _ (List.mem_of_getElem? (i := 42) rfl)
theorem gw_43 : (.methodLink RX4 3 objectInit : Cond) ∈ G := List.mem_append_left _ (List.mem_of_getElem? (i := 43) rfl)
theorem gw_44 : (.fieldLink RX4 9 "OddShoes$Plan" "sets" "[I" : Cond) ∈ G := List.mem_append_left _ (List.mem_of_getElem? (i := 44) rfl)
theorem gw_45 : (.fieldLink RX4 15 "OddShoes$Plan" "offered" "[I" : Cond) ∈ G := List.mem_append_left _ (List.mem_of_getElem? (i := 45) rfl)
theorem gw_46 : (.fieldLink RX4 18 "OddShoes$Plan" "costs" "[I" : Cond) ∈ G := List.mem_append_left _ (List.mem_of_getElem? (i := 46) rfl)
theorem gw_47 : (.fieldLink RX4 21 "OddShoes$Plan" "rows" "[I" : Cond) ∈ G := List.mem_append_left _ (List.mem_of_getElem? (i := 47) rfl)
theorem gw_48 : (.fieldLink RX4 24 "OddShoes$Plan" "leftSizes" "[I" : Cond) ∈ G := List.mem_append_left _ (List.mem_of_getElem? (i := 48) rfl)
theorem gw_49 : (.fieldLink RX4 27 "OddShoes$Plan" "ringCount" "I" : Cond) ∈ G := List.mem_append_left _ (List.mem_of_getElem? (i := 49) rfl)
theorem gw_50 : (.fieldLink RX4 31 "OddShoes$Plan" "all" "I" : Cond) ∈ G := List.mem_append_left _ (List.mem_of_getElem? (i := 50) rfl)
theorem gw_51 : (.fieldLink RX4 34 "OddShoes$Plan" "pairs" "I" : Cond) ∈ G := List.mem_append_left _ (List.mem_of_getElem? (i := 51) rfl)
theorem gw_52 : (.fieldLink RX4 37 "OddShoes$Plan" "cost" "I" : Cond) ∈ G := List.mem_append_left _ (List.mem_of_getElem? (i := 52) rfl)
theorem gw_53 : (.fieldLink RX4 40 "OddShoes$Plan" "worth" "I" : Cond) ∈ G := List.mem_append_left _ (List.mem_of_getElem? (i := 53) rfl)
theorem gw_54 : (.fieldLink RX1 21 "OddShoes$Measures" "low" "[I" : Cond) ∈ G := List.mem_append_left _ (List.mem_of_getElem? (i := 54) rfl)
theorem gw_55 : (.fieldLink RX1 25 "OddShoes$Measures" "high" "[I" : Cond) ∈ G := List.mem_append_left _ (List.mem_of_getElem? (i := 55) rfl)
theorem gw_56 : (.methodLink RX1 55 Lib.Math.min.name : Cond) ∈ G := List.mem_append_left _ (List.mem_of_getElem? (i := 56) rfl)
theorem gw_57 : (.static Lib.Math.min.name : Cond) ∈ G := List.mem_append_left _ (List.mem_of_getElem? (i := 57) rfl)
theorem gw_58 : (.initialized "java/lang/Math" : Cond) ∈ G := List.mem_append_left _ (List.mem_of_getElem? (i := 58) rfl)
theorem gw_59 : (.code Lib.Math.min.name Lib.Math.min.code 2 (some .int) : Cond) ∈ G := List.mem_append_left _ (List.mem_of_getElem? (i := 59) rfl)
theorem gw_60 : (.fieldLink RX1 34 "OddShoes$Measures" "gap" "[I" : Cond) ∈ G := List.mem_append_left _ (List.mem_of_getElem? (i := 60) rfl)
theorem gw_61 : (.code yX1_directGap cX1_directGap 5 (some .int) : Cond) ∈ G := List.mem_append_left _ (List.mem_of_getElem? (i := 61) rfl)
theorem gw_62 : (.methodLink RX1 97 yX1_directGap : Cond) ∈ G := List.mem_append_left _ (List.mem_of_getElem? (i := 62) rfl)
theorem gw_63 : (.instanceMethod yX1_directGap : Cond) ∈ G := List.mem_append_left _ (List.mem_of_getElem? (i := 63) rfl)
theorem gw_64 : (.selects RX1 yX1_directGap yX1_directGap : Cond) ∈ G := List.mem_append_left _ (List.mem_of_getElem? (i := 64) rfl)
theorem gw_65 : (.initialized RX1 : Cond) ∈ G := List.mem_append_left _ (List.mem_of_getElem? (i := 65) rfl)
theorem gw_66 : (.fieldLink RX1 28 "OddShoes$Measures" "least" "[I" : Cond) ∈ G := List.mem_append_left _ (List.mem_of_getElem? (i := 66) rfl)
theorem gw_67 : (.fieldLink RX1 31 "OddShoes$Measures" "greatest" "[I" : Cond) ∈ G := List.mem_append_left _ (List.mem_of_getElem? (i := 67) rfl)
theorem gw_68 : (.methodLink RX1 94 Lib.Math.max.name : Cond) ∈ G := List.mem_append_left _ (List.mem_of_getElem? (i := 68) rfl)
theorem gw_69 : (.static Lib.Math.max.name : Cond) ∈ G := List.mem_append_left _ (List.mem_of_getElem? (i := 69) rfl)
theorem gw_70 : (.code Lib.Math.max.name Lib.Math.max.code 2 (some .int) : Cond) ∈ G := List.mem_append_left _ (List.mem_of_getElem? (i := 70) rfl)
theorem gw_71 : (.code yX1_setFirstBounds cX1_setFirstBounds 5 none : Cond) ∈ G := List.mem_append_left _ (List.mem_of_getElem? (i := 71) rfl)
theorem gw_72 : (.methodLink RX1 60 yX1_setFirstBounds : Cond) ∈ G := List.mem_append_left _ (List.mem_of_getElem? (i := 72) rfl)
theorem gw_73 : (.instanceMethod yX1_setFirstBounds : Cond) ∈ G := List.mem_append_left _ (List.mem_of_getElem? (i := 73) rfl)
theorem gw_74 : (.selects RX1 yX1_setFirstBounds yX1_setFirstBounds : Cond) ∈ G := List.mem_append_left _ (List.mem_of_getElem? (i := 74) rfl)
theorem gw_75 : (.code yX1_closeGaps cX1_closeGaps 5 none : Cond) ∈ G := List.mem_append_left _ (List.mem_of_getElem? (i := 75) rfl)
theorem gw_76 : (.methodLink RX1 67 yX1_closeGaps : Cond) ∈ G := List.mem_append_left _ (List.mem_of_getElem? (i := 76) rfl)
theorem gw_77 : (.instanceMethod yX1_closeGaps : Cond) ∈ G := List.mem_append_left _ (List.mem_of_getElem? (i := 77) rfl)
theorem gw_78 : (.selects RX1 yX1_closeGaps yX1_closeGaps : Cond) ∈ G := List.mem_append_left _ (List.mem_of_getElem? (i := 78) rfl)
theorem gw_79 : (.code yX1_setNeeds cX1_setNeeds 6 none : Cond) ∈ G := List.mem_append_left _ (List.mem_of_getElem? (i := 79) rfl)
theorem gw_80 : (.methodLink RX1 70 yX1_setNeeds : Cond) ∈ G := List.mem_append_left _ (List.mem_of_getElem? (i := 80) rfl)
theorem gw_81 : (.instanceMethod yX1_setNeeds : Cond) ∈ G := List.mem_append_left _ (List.mem_of_getElem? (i := 81) rfl)
theorem gw_82 : (.selects RX1 yX1_setNeeds yX1_setNeeds : Cond) ∈ G := List.mem_append_left _ (List.mem_of_getElem? (i := 82) rfl)
theorem gw_83 : (.methodLink RX1 3 objectInit : Cond) ∈ G := List.mem_append_left _ (List.mem_of_getElem? (i := 83) rfl)
theorem gw_84 : (.classLink RX1 15 RX7 : Cond) ∈ G := List.mem_append_left _ (List.mem_of_getElem? (i := 84) rfl)
theorem gw_85 : (.fieldLink RX1 17 "OddShoes$Measures" "trials" "[LOddShoes$Trial;" : Cond) ∈ G := List.mem_append_left _ (List.mem_of_getElem? (i := 85) rfl)
theorem gw_86 : (.code yX1_settle cX1_settle 2 (some .boolean) : Cond) ∈ G := List.mem_append_left _ (List.mem_of_getElem? (i := 86) rfl)
theorem gw_87 : (.methodLink RX1 37 yX1_settle : Cond) ∈ G := List.mem_append_left _ (List.mem_of_getElem? (i := 87) rfl)
theorem gw_88 : (.instanceMethod yX1_settle : Cond) ∈ G := List.mem_append_left _ (List.mem_of_getElem? (i := 88) rfl)
theorem gw_89 : (.selects RX1 yX1_settle yX1_settle : Cond) ∈ G := List.mem_append_left _ (List.mem_of_getElem? (i := 89) rfl)
theorem gw_90 : (.code yX6_areAble cX6_areAble 2 (some .boolean) : Cond) ∈ G := List.mem_append_left _ (List.mem_of_getElem? (i := 90) rfl)
theorem gw_91 : (.methodLink RX6 37 yX6_areAble : Cond) ∈ G := List.mem_append_left _ (List.mem_of_getElem? (i := 91) rfl)
theorem gw_92 : (.instanceMethod yX6_areAble : Cond) ∈ G := List.mem_append_left _ (List.mem_of_getElem? (i := 92) rfl)
theorem gw_93 : (.selects RX6 yX6_areAble yX6_areAble : Cond) ∈ G := List.mem_append_left _ (List.mem_of_getElem? (i := 93) rfl)
theorem gw_94 : (.initialized RX6 : Cond) ∈ G := List.mem_append_left _ (List.mem_of_getElem? (i := 94) rfl)
theorem gw_95 : (.methodLink RX5 3 objectInit : Cond) ∈ G := List.mem_append_left _ (List.mem_of_getElem? (i := 95) rfl)
theorem gw_96 : (.fieldLink RX5 9 "OddShoes$Planner" "chosen" "[I" : Cond) ∈ G := List.mem_append_left _ (List.mem_of_getElem? (i := 96) rfl)
theorem gw_97 : (.fieldLink RX5 15 "OddShoes$Planner" "chosenCount" "I" : Cond) ∈ G := List.mem_append_left _ (List.mem_of_getElem? (i := 97) rfl)
theorem gw_98 : (.fieldLink RX5 19 "OddShoes$Planner" "all" "I" : Cond) ∈ G := List.mem_append_left _ (List.mem_of_getElem? (i := 98) rfl)
theorem gw_99 : (.fieldLink RX5 22 "OddShoes$Planner" "loops" "[I" : Cond) ∈ G := List.mem_append_left _ (List.mem_of_getElem? (i := 99) rfl)
theorem gw_100 : (.fieldLink RX5 25 "OddShoes$Planner" "firstLoop" "[I" : Cond) ∈ G := List.mem_append_left _ (List.mem_of_getElem? (i := 100) rfl)
theorem gw_101 : (.fieldLink RX5 28 "OddShoes$Planner" "loopCount" "I" : Cond) ∈ G := List.mem_append_left _ (List.mem_of_getElem? (i := 101) rfl)
theorem gw_102 : (.arrayClass .long : Cond) ∈ G := List.mem_append_left _ (List.mem_of_getElem? (i := 102) rfl)
theorem gw_103 : (.fieldLink RX5 31 "OddShoes$Planner" "gains" "[J" : Cond) ∈ G := List.mem_append_left _ (List.mem_of_getElem? (i := 103) rfl)
theorem gw_104 : (.fieldLink RX5 35 "OddShoes$Planner" "best" "[J" : Cond) ∈ G := List.mem_append_left _ (List.mem_of_getElem? (i := 104) rfl)
theorem gw_105 : (.fieldLink RX5 38 "OddShoes$Planner" "roundOf" "[I" : Cond) ∈ G := List.mem_append_left _ (List.mem_of_getElem? (i := 105) rfl)
theorem gw_106 : (.fieldLink RX5 41 "OddShoes$Planner" "round" "I" : Cond) ∈ G := List.mem_append_left _ (List.mem_of_getElem? (i := 106) rfl)
theorem gw_107 : (.fieldLink RX5 44 "OddShoes$Planner" "rings" "LOddShoes$Rings;" : Cond) ∈ G := List.mem_append_left _ (List.mem_of_getElem? (i := 107) rfl)
theorem gw_108 : (.fieldLink RX5 48 "OddShoes$Planner" "offers" "LOddShoes$Offers;" : Cond) ∈ G := List.mem_append_left _ (List.mem_of_getElem? (i := 108) rfl)
theorem gw_109 : (.code yX5_pick cX5_pick 4 none : Cond) ∈ G := List.mem_append_left _ (List.mem_of_getElem? (i := 109) rfl)
theorem gw_110 : (.methodLink RX5 62 yX5_pick : Cond) ∈ G := List.mem_append_left _ (List.mem_of_getElem? (i := 110) rfl)
theorem gw_111 : (.instanceMethod yX5_pick : Cond) ∈ G := List.mem_append_left _ (List.mem_of_getElem? (i := 111) rfl)
theorem gw_112 : (.selects RX5 yX5_pick yX5_pick : Cond) ∈ G := List.mem_append_left _ (List.mem_of_getElem? (i := 112) rfl)
theorem gw_113 : (.initialized RX5 : Cond) ∈ G := List.mem_append_left _ (List.mem_of_getElem? (i := 113) rfl)
theorem gw_114 : (.methodLink RX5 52 yX6_areAble : Cond) ∈ G := List.mem_append_left _ (List.mem_of_getElem? (i := 114) rfl)
theorem gw_115 : (.fieldLink RX8 38 "OddShoes" "rings" "LOddShoes$Rings;" : Cond) ∈ G := List.mem_append_left _ (List.mem_of_getElem? (i := 115) rfl)
theorem gw_116 : (.code yX6_clear cX6_clear 2 none : Cond) ∈ G := List.mem_append_left _ (List.mem_of_getElem? (i := 116) rfl)
theorem gw_117 : (.methodLink RX8 369 yX6_clear : Cond) ∈ G := List.mem_append_left _ (List.mem_of_getElem? (i := 117) rfl)
theorem gw_118 : (.instanceMethod yX6_clear : Cond) ∈ G := List.mem_append_left _ (List.mem_of_getElem? (i := 118) rfl)
theorem gw_119 : (.selects RX6 yX6_clear yX6_clear : Cond) ∈ G := List.mem_append_left _ (List.mem_of_getElem? (i := 119) rfl)
theorem gw_120 : (.code yX6_link cX6_link 3 none : Cond) ∈ G := List.mem_append_left _ (List.mem_of_getElem? (i := 120) rfl)
theorem gw_121 : (.methodLink RX8 382 yX6_link : Cond) ∈ G := List.mem_append_left _ (List.mem_of_getElem? (i := 121) rfl)
theorem gw_122 : (.instanceMethod yX6_link : Cond) ∈ G := List.mem_append_left _ (List.mem_of_getElem? (i := 122) rfl)
theorem gw_123 : (.selects RX6 yX6_link yX6_link : Cond) ∈ G := List.mem_append_left _ (List.mem_of_getElem? (i := 123) rfl)
theorem gw_124 : (.fieldLink RX8 53 "OddShoes" "planner" "LOddShoes$Planner;" : Cond) ∈ G := List.mem_append_left _ (List.mem_of_getElem? (i := 124) rfl)
theorem gw_125 : (.classLink RX8 249 RX5 : Cond) ∈ G := List.mem_append_left _ (List.mem_of_getElem? (i := 125) rfl)
theorem gw_126 : (.instantiable RX5 12 : Cond) ∈ G := List.mem_append_left _ (List.mem_of_getElem? (i := 126) rfl)
theorem gw_127 : (.fieldLink RX8 31 "OddShoes" "offers" "LOddShoes$Offers;" : Cond) ∈ G := List.mem_append_left _ (List.mem_of_getElem? (i := 127) rfl)
theorem gw_128 : (.code yX5_init cX5_init 3 none : Cond) ∈ G := List.mem_append_left _ (List.mem_of_getElem? (i := 128) rfl)
theorem gw_129 : (.methodLink RX8 388 yX5_init : Cond) ∈ G := List.mem_append_left _ (List.mem_of_getElem? (i := 129) rfl)
theorem gw_130 : (.instanceMethod yX5_init : Cond) ∈ G := List.mem_append_left _ (List.mem_of_getElem? (i := 130) rfl)
theorem gw_131 : (.code yX8_lookRound cX8_lookRound 4 none : Cond) ∈ G := List.mem_append_left _ (List.mem_of_getElem? (i := 131) rfl)
theorem gw_132 : (.methodLink RX8 222 yX8_lookRound : Cond) ∈ G := List.mem_append_left _ (List.mem_of_getElem? (i := 132) rfl)
theorem gw_133 : (.instanceMethod yX8_lookRound : Cond) ∈ G := List.mem_append_left _ (List.mem_of_getElem? (i := 133) rfl)
theorem gw_134 : (.selects RX8 yX8_lookRound yX8_lookRound : Cond) ∈ G := List.mem_append_left _ (List.mem_of_getElem? (i := 134) rfl)
theorem gw_135 : (.initialized RX8 : Cond) ∈ G := List.mem_append_left _ (List.mem_of_getElem? (i := 135) rfl)
theorem gw_136 : (.code yX5_choose cX5_choose 2 none : Cond) ∈ G := List.mem_append_left _ (List.mem_of_getElem? (i := 136) rfl)
theorem gw_137 : (.methodLink RX8 391 yX5_choose : Cond) ∈ G := List.mem_append_left _ (List.mem_of_getElem? (i := 137) rfl)
theorem gw_138 : (.instanceMethod yX5_choose : Cond) ∈ G := List.mem_append_left _ (List.mem_of_getElem? (i := 138) rfl)
theorem gw_139 : (.selects RX5 yX5_choose yX5_choose : Cond) ∈ G := List.mem_append_left _ (List.mem_of_getElem? (i := 139) rfl)
theorem gw_140 : (.methodLink RX8 1 objectInit : Cond) ∈ G := List.mem_append_left _ (List.mem_of_getElem? (i := 140) rfl)
theorem gw_141 : (.classLink RX8 9 RX0 : Cond) ∈ G := List.mem_append_left _ (List.mem_of_getElem? (i := 141) rfl)
theorem gw_142 : (.fieldLink RX8 11 "OddShoes" "makers" "[LOddShoes$Maker;" : Cond) ∈ G := List.mem_append_left _ (List.mem_of_getElem? (i := 142) rfl)
theorem gw_143 : (.classLink RX8 15 RX3 : Cond) ∈ G := List.mem_append_left _ (List.mem_of_getElem? (i := 143) rfl)
theorem gw_144 : (.fieldLink RX8 17 "OddShoes" "people" "[LOddShoes$Person;" : Cond) ∈ G := List.mem_append_left _ (List.mem_of_getElem? (i := 144) rfl)
theorem gw_145 : (.classLink RX8 21 RX1 : Cond) ∈ G := List.mem_append_left _ (List.mem_of_getElem? (i := 145) rfl)
theorem gw_146 : (.instantiable RX1 7 : Cond) ∈ G := List.mem_append_left _ (List.mem_of_getElem? (i := 146) rfl)
theorem gw_147 : (.code yX1_init cX1_init 1 none : Cond) ∈ G := List.mem_append_left _ (List.mem_of_getElem? (i := 147) rfl)
theorem gw_148 : (.methodLink RX8 23 yX1_init : Cond) ∈ G := List.mem_append_left _ (List.mem_of_getElem? (i := 148) rfl)
theorem gw_149 : (.instanceMethod yX1_init : Cond) ∈ G := List.mem_append_left _ (List.mem_of_getElem? (i := 149) rfl)
theorem gw_150 : (.fieldLink RX8 24 "OddShoes" "measures" "LOddShoes$Measures;" : Cond) ∈ G := List.mem_append_left _ (List.mem_of_getElem? (i := 150) rfl)
theorem gw_151 : (.classLink RX8 28 RX2 : Cond) ∈ G := List.mem_append_left _ (List.mem_of_getElem? (i := 151) rfl)
theorem gw_152 : (.instantiable RX2 3 : Cond) ∈ G := List.mem_append_left _ (List.mem_of_getElem? (i := 152) rfl)
theorem gw_153 : (.initialized RX2 : Cond) ∈ G := List.mem_append_left _ (List.mem_of_getElem? (i := 153) rfl)
theorem gw_154 : (.code yX2_init cX2_init 1 none : Cond) ∈ G := List.mem_append_left _ (List.mem_of_getElem? (i := 154) rfl)
theorem gw_155 : (.instanceMethod yX2_init : Cond) ∈ G := List.mem_append_left _ (List.mem_of_getElem? (i := 155) rfl)
theorem gw_156 : (.classLink RX8 35 RX6 : Cond) ∈ G := List.mem_append_left _ (List.mem_of_getElem? (i := 156) rfl)
theorem gw_157 : (.instantiable RX6 8 : Cond) ∈ G := List.mem_append_left _ (List.mem_of_getElem? (i := 157) rfl)
theorem gw_158 : (.code yX6_init cX6_init 1 none : Cond) ∈ G := List.mem_append_left _ (List.mem_of_getElem? (i := 158) rfl)
theorem gw_159 : (.instanceMethod yX6_init : Cond) ∈ G := List.mem_append_left _ (List.mem_of_getElem? (i := 159) rfl)
theorem gw_160 : (.classLink RX8 42 RX4 : Cond) ∈ G := List.mem_append_left _ (List.mem_of_getElem? (i := 160) rfl)
theorem gw_161 : (.instantiable RX4 10 : Cond) ∈ G := List.mem_append_left _ (List.mem_of_getElem? (i := 161) rfl)
theorem gw_162 : (.initialized RX4 : Cond) ∈ G := List.mem_append_left _ (List.mem_of_getElem? (i := 162) rfl)
theorem gw_163 : (.code yX4_init cX4_init 1 none : Cond) ∈ G := List.mem_append_left _ (List.mem_of_getElem? (i := 163) rfl)
theorem gw_164 : (.instanceMethod yX4_init : Cond) ∈ G := List.mem_append_left _ (List.mem_of_getElem? (i := 164) rfl)
theorem gw_165 : (.fieldLink RX8 45 "OddShoes" "latest" "LOddShoes$Plan;" : Cond) ∈ G := List.mem_append_left _ (List.mem_of_getElem? (i := 165) rfl)
theorem gw_166 : (.fieldLink RX8 49 "OddShoes" "toldRow" "[I" : Cond) ∈ G := List.mem_append_left _ (List.mem_of_getElem? (i := 166) rfl)
theorem gw_167 : (.fieldLink RX8 64 "OddShoes" "toldLength" "I" : Cond) ∈ G := List.mem_append_left _ (List.mem_of_getElem? (i := 167) rfl)
theorem gw_168 : (.fieldLink RX8 70 "OddShoes" "base" "I" : Cond) ∈ G := List.mem_append_left _ (List.mem_of_getElem? (i := 168) rfl)
theorem gw_169 : (.fieldLink RX8 73 "OddShoes" "per" "I" : Cond) ∈ G := List.mem_append_left _ (List.mem_of_getElem? (i := 169) rfl)
theorem gw_170 : (.fieldLink RX8 76 "OddShoes" "planHolds" "Z" : Cond) ∈ G := List.mem_append_left _ (List.mem_of_getElem? (i := 170) rfl)
theorem gw_171 : (.fieldLink RX8 80 "OddShoes" "pairsSent" "I" : Cond) ∈ G := List.mem_append_left _ (List.mem_of_getElem? (i := 171) rfl)
theorem gw_172 : (.fieldLink RX8 83 "OddShoes" "costSent" "I" : Cond) ∈ G := List.mem_append_left _ (List.mem_of_getElem? (i := 172) rfl)
theorem gw_173 : (.fieldLink RX8 86 "OddShoes" "shoesHeld" "I" : Cond) ∈ G := List.mem_append_left _ (List.mem_of_getElem? (i := 173) rfl)
theorem gw_174 : (.fieldLink RX8 89 "OddShoes" "shoesHanded" "I" : Cond) ∈ G := List.mem_append_left _ (List.mem_of_getElem? (i := 174) rfl)
theorem inG0 : ∀ w ∈ wsX00, w ∈ G := fun _ h => List.mem_append_right _ (List.mem_append_left _ h)
theorem inG1 : ∀ w ∈ wsX10, w ∈ G := fun _ h => List.mem_append_right _ (List.mem_append_right _ (List.mem_append_left _ h))
theorem inG2 : ∀ w ∈ wsX20, w ∈ G := fun _ h => List.mem_append_right _ (List.mem_append_right _ (List.mem_append_right _ (List.mem_append_left _ h)))
theorem inG3 : ∀ w ∈ wsX30, w ∈ G := fun _ h => List.mem_append_right _ (List.mem_append_right _ (List.mem_append_right _ (List.mem_append_right _ (List.mem_append_left _ h))))
theorem inG4 : ∀ w ∈ wsX40, w ∈ G := fun _ h => List.mem_append_right _ (List.mem_append_right _ (List.mem_append_right _ (List.mem_append_right _ (List.mem_append_right _ (List.mem_append_left _ h)))))
theorem inG5 : ∀ w ∈ wsX50, w ∈ G := fun _ h => List.mem_append_right _ (List.mem_append_right _ (List.mem_append_right _ (List.mem_append_right _ (List.mem_append_right _ (List.mem_append_right _ (List.mem_append_left _ h))))))
theorem inG6 : ∀ w ∈ wsX60, w ∈ G := fun _ h => List.mem_append_right _ (List.mem_append_right _ (List.mem_append_right _ (List.mem_append_right _ (List.mem_append_right _ (List.mem_append_right _ (List.mem_append_right _ (List.mem_append_left _ h)))))))
theorem inG7 : ∀ w ∈ wsX70, w ∈ G := fun _ h => List.mem_append_right _ (List.mem_append_right _ (List.mem_append_right _ (List.mem_append_right _ (List.mem_append_right _ (List.mem_append_right _ (List.mem_append_right _ (List.mem_append_right _ (List.mem_append_left _ h))))))))
theorem inG8 : ∀ w ∈ wsX80, w ∈ G := fun _ h => List.mem_append_right _ (List.mem_append_right _ (List.mem_append_right _ (List.mem_append_right _ (List.mem_append_right _ (List.mem_append_right _ (List.mem_append_right _ (List.mem_append_right _ (List.mem_append_right _ (List.mem_append_left _ h)))))))))
theorem inG9 : ∀ w ∈ wsX90, w ∈ G := fun _ h => List.mem_append_right _ (List.mem_append_right _ (List.mem_append_right _ (List.mem_append_right _ (List.mem_append_right _ (List.mem_append_right _ (List.mem_append_right _ (List.mem_append_right _ (List.mem_append_right _ (List.mem_append_right _ (h))))))))))
set_option maxRecDepth 20000 in
theorem G_all : G.all goodWord = true := by decide +kernel
theorem G_good : ∀ w ∈ G, (w.onTables && w.keeps) = true ∨ ∃ ty, w = .arrayClass ty := fun w h => good_of_word (List.all_eq_true.mp G_all w h)
theorem gI {Ts : List Cond} {y : MethodName} {b : ByteArray} {n : Nat} {r : Option FieldType} (h : ∀ w ∈ G, w ∈ Ts) (h5 : Cond.code y b n r ∈ G) : GoodIn Ts (.code y b n r :: G) := fun w hw => by
  rcases List.mem_cons.mp hw with e | e
  · rw [e]; exact ⟨h _ h5, G_good _ h5⟩
  · exact ⟨h _ e, G_good _ e⟩
theorem gV {Ts : List Cond} {own C : String} {idx : Nat} {y : MethodName} {b : ByteArray} {n : Nat} {r : Option FieldType} (h : ∀ w ∈ G, w ∈ Ts) (h1 : Cond.methodLink own idx y ∈ G) (h2 : Cond.instanceMethod y ∈ G) (h3 : Cond.selects C y y ∈ G) (h4 : Cond.initialized C ∈ G) (h5 : Cond.code y b n r ∈ G) : GoodIn Ts (wsV own idx C y (.code y b n r :: G)) := fun w hw => by
  rcases List.mem_append.mp hw with e | e
  · have : w ∈ G := by
      rcases List.mem_cons.mp e with rfl | e
      · exact h1
      rcases List.mem_cons.mp e with rfl | e
      · exact h2
      rcases List.mem_cons.mp e with rfl | e
      · exact h3
      rcases List.mem_cons.mp e with rfl | e
      · exact h4
      exact absurd e List.not_mem_nil
    exact ⟨h _ this, G_good _ this⟩
  · exact gI h h5 w e
theorem gS {Ts : List Cond} {own : String} {idx : Nat} {y : MethodName} {b : ByteArray} {n : Nat} {r : Option FieldType} (h : ∀ w ∈ G, w ∈ Ts) (h1 : Cond.methodLink own idx y ∈ G) (h2 : Cond.static y ∈ G) (h4 : Cond.initialized y.cls ∈ G) (h5 : Cond.code y b n r ∈ G) : GoodIn Ts (va_wsS own idx y (.code y b n r :: G)) := fun w hw => by
  rcases List.mem_append.mp hw with e | e
  · have : w ∈ G := by
      rcases List.mem_cons.mp e with rfl | e
      · exact h1
      rcases List.mem_cons.mp e with rfl | e
      · exact h2
      rcases List.mem_cons.mp e with rfl | e
      · exact h4
      exact absurd e List.not_mem_nil
    exact ⟨h _ this, G_good _ this⟩
  · exact gI h h5 w e
theorem dvX0 : ∀ j, j < 1 → defaultValue (tyX0 j) = vp_V [.null] j := by decide +kernel
theorem dvX1 : ∀ j, j < 7 → defaultValue (tyX1 j) = vp_V [.int 0, .null, .null, .null, .null, .null, .null] j := by decide +kernel
theorem dvX2 : ∀ j, j < 3 → defaultValue (tyX2 j) = vp_V [.null, .null, .null] j := by decide +kernel
theorem dvX3 : ∀ j, j < 13 → defaultValue (tyX3 j) = vp_V [.int 0, .int 0, .int 0, .int 0, .int 0, .int 0, .int 0, .int 0, .int 0, .int 0, .int 0, .int 0, .int 0] j := by decide +kernel
theorem dvX4 : ∀ j, j < 10 → defaultValue (tyX4 j) = vp_V [.null, .null, .null, .null, .null, .int 0, .int 0, .int 0, .int 0, .int 0] j := by decide +kernel
theorem dvX5 : ∀ j, j < 12 → defaultValue (tyX5 j) = vp_V [.null, .int 0, .int 0, .null, .null, .null, .null, .int 0, .null, .null, .null, .int 0] j := by decide +kernel
theorem dvX6 : ∀ j, j < 8 → defaultValue (tyX6 j) = vp_V [.null, .null, .null, .null, .null, .null, .int 0, .int 0] j := by decide +kernel
theorem dvX7 : ∀ j, j < 8 → defaultValue (tyX7 j) = vp_V [.int 0, .int 0, .int 0, .int 0, .int 0, .int 0, .int 0, .int 0] j := by decide +kernel
theorem dvX8 : ∀ j, j < 19 → defaultValue (tyX8 j) = vp_V [.null, .null, .null, .null, .null, .null, .null, .null, .int 0, .int 0, .int 0, .int 0, .int 0, .int 0, .int 0, .int 0, .int 0, .int 0, .int 0] j := by decide +kernel
theorem dvX9 : ∀ j, j < 53 → defaultValue (tyX9 j) = vp_V [.int 0, .int 0, .int 0, .int 0, .int 0, .int 0, .int 0, .null, .null, .null, .null, .null, .null, .null, .null, .null, .null, .null, .null, .null, .null, .null, .null, .null, .null, .int 0, .int 0, .int 0, .null, .int 0, .null, .null, .null, .null, .int 0, .null, .int 0, .null, .null, .null, .null, .int 0, .int 0, .int 0, .int 0, .null, .null, .null, .null, .null, .null, .null, .null] j := by decide +kernel
end
section
theorem dX8_isWithin_0 : decode cX8_isWithin 0 = .ok (.iload_n 0, 1) := by decide +kernel
theorem dX8_isWithin_1 : decode cX8_isWithin 1 = .ok (.iload_n 1, 1) := by decide +kernel
theorem dX8_isWithin_2 : decode cX8_isWithin 2 = .ok (.if_icmp .lt 12, 3) := by decide +kernel
theorem dX8_isWithin_14 : decode cX8_isWithin 14 = .ok (.iconst 0, 1) := by decide +kernel
theorem dX8_isWithin_15 : decode cX8_isWithin 15 = .ok (.ireturn, 1) := by decide +kernel
theorem dX8_isWithin_5 : decode cX8_isWithin 5 = .ok (.iload_n 0, 1) := by decide +kernel
theorem dX8_isWithin_6 : decode cX8_isWithin 6 = .ok (.iload_n 2, 1) := by decide +kernel
theorem dX8_isWithin_7 : decode cX8_isWithin 7 = .ok (.if_icmp .gt 7, 3) := by decide +kernel
theorem dX8_isWithin_10 : decode cX8_isWithin 10 = .ok (.iconst 1, 1) := by decide +kernel
theorem dX8_isWithin_11 : decode cX8_isWithin 11 = .ok (.goto 4, 3) := by decide +kernel
theorem dX8_isStyleSet_0 : decode cX8_isStyleSet 0 = .ok (.iload_n 0, 1) := by decide +kernel
theorem dX8_isStyleSet_1 : decode cX8_isStyleSet 1 = .ok (.iconst 1, 1) := by decide +kernel
theorem dX8_isStyleSet_2 : decode cX8_isStyleSet 2 = .ok (.sipush 255, 3) := by decide +kernel
theorem dX8_isStyleSet_5 : decode cX8_isStyleSet 5 = .ok (.invokestatic 101, 3) := by decide +kernel
theorem dX8_isStyleSet_8 : decode cX8_isStyleSet 8 = .ok (.ireturn, 1) := by decide +kernel
theorem dX8_makerAt_0 : decode cX8_makerAt 0 = .ok (.iload_n 1, 1) := by decide +kernel
theorem dX8_makerAt_1 : decode cX8_makerAt 1 = .ok (.ifCond .lt 20, 3) := by decide +kernel
theorem dX8_makerAt_21 : decode cX8_makerAt 21 = .ok (.aconst_null, 1) := by decide +kernel
theorem dX8_makerAt_22 : decode cX8_makerAt 22 = .ok (.areturn, 1) := by decide +kernel
theorem dX8_makerAt_4 : decode cX8_makerAt 4 = .ok (.iload_n 1, 1) := by decide +kernel
theorem dX8_makerAt_5 : decode cX8_makerAt 5 = .ok (.aload_n 0, 1) := by decide +kernel
theorem dX8_makerAt_6 : decode cX8_makerAt 6 = .ok (.getfield 57, 3) := by decide +kernel
theorem dX8_makerAt_9 : decode cX8_makerAt 9 = .ok (.if_icmp .ge 12, 3) := by decide +kernel
theorem dX8_makerAt_12 : decode cX8_makerAt 12 = .ok (.aload_n 0, 1) := by decide +kernel
theorem dX8_personAt_0 : decode cX8_personAt 0 = .ok (.iload_n 1, 1) := by decide +kernel
theorem dX8_personAt_1 : decode cX8_personAt 1 = .ok (.ifCond .lt 20, 3) := by decide +kernel
theorem dX8_personAt_21 : decode cX8_personAt 21 = .ok (.aconst_null, 1) := by decide +kernel
theorem dX8_personAt_22 : decode cX8_personAt 22 = .ok (.areturn, 1) := by decide +kernel
theorem dX8_personAt_4 : decode cX8_personAt 4 = .ok (.iload_n 1, 1) := by decide +kernel
theorem dX8_personAt_5 : decode cX8_personAt 5 = .ok (.aload_n 0, 1) := by decide +kernel
theorem dX8_personAt_6 : decode cX8_personAt 6 = .ok (.getfield 61, 3) := by decide +kernel
theorem dX8_personAt_9 : decode cX8_personAt 9 = .ok (.if_icmp .ge 12, 3) := by decide +kernel
theorem dX8_personAt_12 : decode cX8_personAt 12 = .ok (.aload_n 0, 1) := by decide +kernel
theorem dX1_trialAt_0 : decode cX1_trialAt 0 = .ok (.iload_n 1, 1) := by decide +kernel
theorem dX1_trialAt_1 : decode cX1_trialAt 1 = .ok (.ifCond .lt 20, 3) := by decide +kernel
theorem dX1_trialAt_21 : decode cX1_trialAt 21 = .ok (.aconst_null, 1) := by decide +kernel
theorem dX1_trialAt_22 : decode cX1_trialAt 22 = .ok (.areturn, 1) := by decide +kernel
theorem dX1_trialAt_4 : decode cX1_trialAt 4 = .ok (.iload_n 1, 1) := by decide +kernel
theorem dX1_trialAt_5 : decode cX1_trialAt 5 = .ok (.aload_n 0, 1) := by decide +kernel
theorem dX1_trialAt_6 : decode cX1_trialAt 6 = .ok (.getfield 9, 3) := by decide +kernel
theorem dX1_trialAt_9 : decode cX1_trialAt 9 = .ok (.if_icmp .ge 12, 3) := by decide +kernel
theorem dX1_trialAt_12 : decode cX1_trialAt 12 = .ok (.aload_n 0, 1) := by decide +kernel
theorem dX1_standing_0 : decode cX1_standing 0 = .ok (.iconst 0, 1) := by decide +kernel
theorem dX1_standing_1 : decode cX1_standing 1 = .ok (.istore_n 1, 1) := by decide +kernel
theorem dX1_standing_2 : decode cX1_standing 2 = .ok (.iconst 0, 1) := by decide +kernel
theorem dX1_standing_3 : decode cX1_standing 3 = .ok (.istore_n 2, 1) := by decide +kernel
theorem dX1_standing_4 : decode cX1_standing 4 = .ok (.iload_n 2, 1) := by decide +kernel
theorem dX1_standing_5 : decode cX1_standing 5 = .ok (.aload_n 0, 1) := by decide +kernel
theorem dX1_standing_6 : decode cX1_standing 6 = .ok (.getfield 9, 3) := by decide +kernel
theorem dX1_standing_9 : decode cX1_standing 9 = .ok (.if_icmp .ge 24, 3) := by decide +kernel
theorem dX1_standing_33 : decode cX1_standing 33 = .ok (.iload_n 1, 1) := by decide +kernel
theorem dX1_standing_34 : decode cX1_standing 34 = .ok (.ireturn, 1) := by decide +kernel
theorem dX8_waiting_0 : decode cX8_waiting 0 = .ok (.iconst 0, 1) := by decide +kernel
theorem dX8_waiting_1 : decode cX8_waiting 1 = .ok (.istore_n 1, 1) := by decide +kernel
theorem dX8_waiting_2 : decode cX8_waiting 2 = .ok (.iconst 0, 1) := by decide +kernel
theorem dX8_waiting_3 : decode cX8_waiting 3 = .ok (.istore_n 2, 1) := by decide +kernel
theorem dX8_waiting_4 : decode cX8_waiting 4 = .ok (.iload_n 2, 1) := by decide +kernel
theorem dX8_waiting_5 : decode cX8_waiting 5 = .ok (.aload_n 0, 1) := by decide +kernel
theorem dX8_waiting_6 : decode cX8_waiting 6 = .ok (.getfield 61, 3) := by decide +kernel
theorem dX8_waiting_9 : decode cX8_waiting 9 = .ok (.if_icmp .ge 24, 3) := by decide +kernel
theorem dX8_waiting_33 : decode cX8_waiting 33 = .ok (.iload_n 1, 1) := by decide +kernel
theorem dX8_waiting_34 : decode cX8_waiting 34 = .ok (.ireturn, 1) := by decide +kernel
theorem dX8_shoeAll_0 : decode cX8_shoeAll 0 = .ok (.iconst 0, 1) := by decide +kernel
theorem dX8_shoeAll_1 : decode cX8_shoeAll 1 = .ok (.istore_n 2, 1) := by decide +kernel
theorem dX8_shoeAll_2 : decode cX8_shoeAll 2 = .ok (.iload_n 2, 1) := by decide +kernel
theorem dX8_shoeAll_3 : decode cX8_shoeAll 3 = .ok (.aload_n 0, 1) := by decide +kernel
theorem dX8_shoeAll_4 : decode cX8_shoeAll 4 = .ok (.getfield 61, 3) := by decide +kernel
theorem dX8_shoeAll_7 : decode cX8_shoeAll 7 = .ok (.if_icmp .ge 26, 3) := by decide +kernel
theorem dX8_shoeAll_33 : decode cX8_shoeAll 33 = .ok (.return_, 1) := by decide +kernel
theorem dX8_passMonth_0 : decode cX8_passMonth 0 = .ok (.aload_n 0, 1) := by decide +kernel
theorem dX8_passMonth_1 : decode cX8_passMonth 1 = .ok (.dup, 1) := by decide +kernel
theorem dX8_passMonth_2 : decode cX8_passMonth 2 = .ok (.getfield 67, 3) := by decide +kernel
theorem dX8_passMonth_5 : decode cX8_passMonth 5 = .ok (.iconst 1, 1) := by decide +kernel
theorem dX8_passMonth_6 : decode cX8_passMonth 6 = .ok (.iadd, 1) := by decide +kernel
theorem dX8_passMonth_7 : decode cX8_passMonth 7 = .ok (.putfield 67, 3) := by decide +kernel
theorem dX8_passMonth_10 : decode cX8_passMonth 10 = .ok (.iconst 0, 1) := by decide +kernel
theorem dX8_passMonth_11 : decode cX8_passMonth 11 = .ok (.istore_n 1, 1) := by decide +kernel
theorem dX8_passMonth_12 : decode cX8_passMonth 12 = .ok (.iload_n 1, 1) := by decide +kernel
theorem dX8_passMonth_13 : decode cX8_passMonth 13 = .ok (.aload_n 0, 1) := by decide +kernel
theorem dX8_passMonth_14 : decode cX8_passMonth 14 = .ok (.getfield 61, 3) := by decide +kernel
theorem dX8_passMonth_17 : decode cX8_passMonth 17 = .ok (.if_icmp .ge 18, 3) := by decide +kernel
theorem dX8_passMonth_35 : decode cX8_passMonth 35 = .ok (.return_, 1) := by decide +kernel
theorem dJ6_bitCount_0f7a4_0 : decode cJ6_bitCount_0f7a4 0 = .ok (.iload_n 0, 1) := by decide +kernel
theorem dJ6_bitCount_0f7a4_1 : decode cJ6_bitCount_0f7a4 1 = .ok (.iload_n 0, 1) := by decide +kernel
theorem dJ6_bitCount_0f7a4_2 : decode cJ6_bitCount_0f7a4 2 = .ok (.iconst 1, 1) := by decide +kernel
theorem dJ6_bitCount_0f7a4_3 : decode cJ6_bitCount_0f7a4 3 = .ok (.iushr, 1) := by decide +kernel
theorem dJ6_bitCount_0f7a4_4 : decode cJ6_bitCount_0f7a4 4 = .ok (.ldc_w 265, 3) := by decide +kernel
theorem dJ6_bitCount_0f7a4_7 : decode cJ6_bitCount_0f7a4 7 = .ok (.iand, 1) := by decide +kernel
theorem dJ6_bitCount_0f7a4_8 : decode cJ6_bitCount_0f7a4 8 = .ok (.isub, 1) := by decide +kernel
theorem dJ6_bitCount_0f7a4_9 : decode cJ6_bitCount_0f7a4 9 = .ok (.istore_n 0, 1) := by decide +kernel
theorem dJ6_bitCount_0f7a4_10 : decode cJ6_bitCount_0f7a4 10 = .ok (.iload_n 0, 1) := by decide +kernel
theorem dJ6_bitCount_0f7a4_11 : decode cJ6_bitCount_0f7a4 11 = .ok (.ldc_w 266, 3) := by decide +kernel
theorem dJ6_bitCount_0f7a4_14 : decode cJ6_bitCount_0f7a4 14 = .ok (.iand, 1) := by decide +kernel
theorem dJ6_bitCount_0f7a4_15 : decode cJ6_bitCount_0f7a4 15 = .ok (.iload_n 0, 1) := by decide +kernel
theorem dJ6_bitCount_0f7a4_16 : decode cJ6_bitCount_0f7a4 16 = .ok (.iconst 2, 1) := by decide +kernel
theorem dJ6_bitCount_0f7a4_17 : decode cJ6_bitCount_0f7a4 17 = .ok (.iushr, 1) := by decide +kernel
theorem dJ6_bitCount_0f7a4_18 : decode cJ6_bitCount_0f7a4 18 = .ok (.ldc_w 266, 3) := by decide +kernel
theorem dJ6_bitCount_0f7a4_21 : decode cJ6_bitCount_0f7a4 21 = .ok (.iand, 1) := by decide +kernel
theorem dJ6_bitCount_0f7a4_22 : decode cJ6_bitCount_0f7a4 22 = .ok (.iadd, 1) := by decide +kernel
theorem dJ6_bitCount_0f7a4_23 : decode cJ6_bitCount_0f7a4 23 = .ok (.istore_n 0, 1) := by decide +kernel
theorem dJ6_bitCount_0f7a4_24 : decode cJ6_bitCount_0f7a4 24 = .ok (.iload_n 0, 1) := by decide +kernel
theorem dJ6_bitCount_0f7a4_25 : decode cJ6_bitCount_0f7a4 25 = .ok (.iload_n 0, 1) := by decide +kernel
theorem dJ6_bitCount_0f7a4_26 : decode cJ6_bitCount_0f7a4 26 = .ok (.iconst 4, 1) := by decide +kernel
theorem dJ6_bitCount_0f7a4_27 : decode cJ6_bitCount_0f7a4 27 = .ok (.iushr, 1) := by decide +kernel
theorem dJ6_bitCount_0f7a4_28 : decode cJ6_bitCount_0f7a4 28 = .ok (.iadd, 1) := by decide +kernel
theorem dJ6_bitCount_0f7a4_29 : decode cJ6_bitCount_0f7a4 29 = .ok (.ldc_w 267, 3) := by decide +kernel
theorem dJ6_bitCount_0f7a4_32 : decode cJ6_bitCount_0f7a4 32 = .ok (.iand, 1) := by decide +kernel
theorem dJ6_bitCount_0f7a4_33 : decode cJ6_bitCount_0f7a4 33 = .ok (.istore_n 0, 1) := by decide +kernel
theorem dJ6_bitCount_0f7a4_34 : decode cJ6_bitCount_0f7a4 34 = .ok (.iload_n 0, 1) := by decide +kernel
theorem dJ6_bitCount_0f7a4_35 : decode cJ6_bitCount_0f7a4 35 = .ok (.iload_n 0, 1) := by decide +kernel
theorem dJ6_bitCount_0f7a4_36 : decode cJ6_bitCount_0f7a4 36 = .ok (.bipush 8, 2) := by decide +kernel
theorem dJ6_bitCount_0f7a4_38 : decode cJ6_bitCount_0f7a4 38 = .ok (.iushr, 1) := by decide +kernel
theorem dJ6_bitCount_0f7a4_39 : decode cJ6_bitCount_0f7a4 39 = .ok (.iadd, 1) := by decide +kernel
theorem dJ6_bitCount_0f7a4_40 : decode cJ6_bitCount_0f7a4 40 = .ok (.istore_n 0, 1) := by decide +kernel
theorem dJ6_bitCount_0f7a4_41 : decode cJ6_bitCount_0f7a4 41 = .ok (.iload_n 0, 1) := by decide +kernel
theorem dJ6_bitCount_0f7a4_42 : decode cJ6_bitCount_0f7a4 42 = .ok (.iload_n 0, 1) := by decide +kernel
theorem dJ6_bitCount_0f7a4_43 : decode cJ6_bitCount_0f7a4 43 = .ok (.bipush 16, 2) := by decide +kernel
theorem dJ6_bitCount_0f7a4_45 : decode cJ6_bitCount_0f7a4 45 = .ok (.iushr, 1) := by decide +kernel
theorem dJ6_bitCount_0f7a4_46 : decode cJ6_bitCount_0f7a4 46 = .ok (.iadd, 1) := by decide +kernel
theorem dJ6_bitCount_0f7a4_47 : decode cJ6_bitCount_0f7a4 47 = .ok (.istore_n 0, 1) := by decide +kernel
theorem dJ6_bitCount_0f7a4_48 : decode cJ6_bitCount_0f7a4 48 = .ok (.iload_n 0, 1) := by decide +kernel
theorem dJ6_bitCount_0f7a4_49 : decode cJ6_bitCount_0f7a4 49 = .ok (.bipush 63, 2) := by decide +kernel
theorem dJ6_bitCount_0f7a4_51 : decode cJ6_bitCount_0f7a4 51 = .ok (.iand, 1) := by decide +kernel
theorem dJ6_bitCount_0f7a4_52 : decode cJ6_bitCount_0f7a4 52 = .ok (.ireturn, 1) := by decide +kernel
set_option maxHeartbeats 4000000 in
set_option maxRecDepth 100000 in
theorem c_X8_isWithin (l : Launch) (D : va_G) (sz : Nat) (x0 : Int32) (x1 : Int32) (x2 : Int32) : Met l yX8_isWithin (.code yX8_isWithin cX8_isWithin 3 (some .boolean) :: G) ({ frames := 2, cells := 0, slots := 0, locals := 40 }) (va_Pc [.int x0, .int x1, .int x2] (pw D sz [] [])) (va_Qi (fun (r : Int32) (u : Unit) => r = isW x0 x1 x2) (fun (u : Unit) => qw D (va_A [] sz) [] []) (va_A [] sz)) 0 0 (va_A [] sz) := by
  refine Met.ofW (cc := cX8_isWithin) (maxL := 3) (ret := (some .boolean)) (by decide) rfl ?_
  intro p e s m args below meth c s₁ B hml hv
  obtain ⟨rfl, hsz, hP, hK, hD0, hN⟩ := hv
  have hx := B.exec
  have hb := B.bytes
  have hr := B.returns
  have hts := atoms_spec (ws := (.code yX8_isWithin cX8_isWithin 3 (some .boolean) :: G)) B.pre
  have hown : s.vm.findClass RX8 = some m.cls := findClass_of_methodNamed B.named
  have hlocks := B.notSynchronized
  subst hsz
  have hD := hD0.self (sz := s.heap.size)
  generalize hAe : va_A [] s.heap.size = A at hD ⊢
  have hA : ∀ q : Nat, s.heap.size ≤ q → A q := fun q h => by rw [← hAe]; exact Or.inr h
  have hS : va_S A s.heap s.heap [] := va_S.rf
  have hP : va_P D vwCl [] s.heap := hP
  have hl := lv_entry ([.int x0, .int x1, .int x2]) (n := 3) (Nat.le_of_ble_eq_true rfl)
  rw [lg_entry_eq]
  generalize (lg_sl ([.int x0, .int x1, .int x2]) ++ List.replicate (3 - (lg_sl ([.int x0, .int x1, .int x2])).length) Slot.unset).toArray = ls at hl ⊢
  have hl : lv_has ls 3 [(0, .int x0), (1, .int x1), (2, .int x2)] := hl
  refine lv_iload_n hx hb dX8_isWithin_0 rfl (lv_at hl 0 rfl) ?_
  refine lv_iload_n hx hb dX8_isWithin_1 rfl (lv_at hl 1 rfl) ?_
  refine lv_icmp_lt (tgt := 14) hx hb dX8_isWithin_2 (by decide) (fun c_1 => ?_) (fun c_1 => ?_)
  · skip
    refine lv_iconst (v := 0) hx hb dX8_isWithin_14 (by decide) ?_
    have hP9 := hP.sub (ws' := []) [] rfl
    have hD9 := hD.sub (ws' := []) [] (by decide) rfl
    have hK9 := hK.sub (tys' := []) [] rfl
    refine W.widen (k := 0) (n := 0) (Nat.le_of_ble_eq_true rfl) (Nat.le_of_ble_eq_true rfl) ?_
    exact W.zret (v := 0) hx hb hr rfl (fun t ht hW => ⟨⟨0, (), rfl, (if_neg (fun q => absurd q.1 (Int32.not_le.mpr c_1))).symm, by rw [ht]; exact hP9, va_K.moved hW.alike hK9, hD9⟩, hS.F ht⟩) hS.2.2 dX8_isWithin_15
  · skip
    refine lv_iload_n hx hb dX8_isWithin_5 rfl (lv_at hl 0 rfl) ?_
    refine lv_iload_n hx hb dX8_isWithin_6 rfl (lv_at hl 2 rfl) ?_
    refine lv_icmp_gt (tgt := 14) hx hb dX8_isWithin_7 (by decide) (fun c_2 => ?_) (fun c_2 => ?_)
    · skip
      refine lv_iconst (v := 0) hx hb dX8_isWithin_14 (by decide) ?_
      have hP9 := hP.sub (ws' := []) [] rfl
      have hD9 := hD.sub (ws' := []) [] (by decide) rfl
      have hK9 := hK.sub (tys' := []) [] rfl
      refine W.widen (k := 0) (n := 0) (Nat.le_of_ble_eq_true rfl) (Nat.le_of_ble_eq_true rfl) ?_
      exact W.zret (v := 0) hx hb hr rfl (fun t ht hW => ⟨⟨0, (), rfl, (if_neg (fun q => absurd q.2 (Int32.not_le.mpr c_2))).symm, by rw [ht]; exact hP9, va_K.moved hW.alike hK9, hD9⟩, hS.F ht⟩) hS.2.2 dX8_isWithin_15
    · skip
      refine lv_iconst (v := 1) hx hb dX8_isWithin_10 (by decide) ?_
      refine lv_goto (tgt := 15) hx hb dX8_isWithin_11 (by decide) ?_
      have hP9 := hP.sub (ws' := []) [] rfl
      have hD9 := hD.sub (ws' := []) [] (by decide) rfl
      have hK9 := hK.sub (tys' := []) [] rfl
      refine W.widen (k := 0) (n := 0) (Nat.le_of_ble_eq_true rfl) (Nat.le_of_ble_eq_true rfl) ?_
      exact W.zret (v := 1) hx hb hr rfl (fun t ht hW => ⟨⟨1, (), rfl, (if_pos ⟨Int32.not_lt.mp c_1, Int32.not_lt.mp c_2⟩).symm, by rw [ht]; exact hP9, va_K.moved hW.alike hK9, hD9⟩, hS.F ht⟩) hS.2.2 dX8_isWithin_15
set_option maxHeartbeats 4000000 in
set_option maxRecDepth 100000 in
theorem c_X8_isStyleSet (l : Launch) (D : va_G) (sz : Nat) (x0 : Int32) : Met l yX8_isStyleSet (.code yX8_isStyleSet cX8_isStyleSet 1 (some .boolean) :: G) ({ frames := 4, cells := 0, slots := 0, locals := 68 }) (va_Pc [.int x0] (pw D sz [] [])) (va_Qi (fun (r : Int32) (u : Unit) => r = isW x0 1 255) (fun (u : Unit) => qw D (va_A [] sz) [] []) (va_A [] sz)) 0 0 (va_A [] sz) := by
  refine Met.ofW (cc := cX8_isStyleSet) (maxL := 1) (ret := (some .boolean)) (by decide) rfl ?_
  intro p e s m args below meth c s₁ B hml hv
  obtain ⟨rfl, hsz, hP, hK, hD0, hN⟩ := hv
  have hx := B.exec
  have hb := B.bytes
  have hr := B.returns
  have hts := atoms_spec (ws := (.code yX8_isStyleSet cX8_isStyleSet 1 (some .boolean) :: G)) B.pre
  have hown : s.vm.findClass RX8 = some m.cls := findClass_of_methodNamed B.named
  have hlocks := B.notSynchronized
  subst hsz
  have hD := hD0.self (sz := s.heap.size)
  generalize hAe : va_A [] s.heap.size = A at hD ⊢
  have hA : ∀ q : Nat, s.heap.size ≤ q → A q := fun q h => by rw [← hAe]; exact Or.inr h
  have hS : va_S A s.heap s.heap [] := va_S.rf
  have hP : va_P D vwCl [] s.heap := hP
  have hl := lv_entry ([.int x0]) (n := 1) (Nat.le_of_ble_eq_true rfl)
  rw [lg_entry_eq]
  generalize (lg_sl ([.int x0]) ++ List.replicate (1 - (lg_sl ([.int x0])).length) Slot.unset).toArray = ls at hl ⊢
  have hl : lv_has ls 1 [(0, .int x0)] := hl
  refine lv_iload_n hx hb dX8_isStyleSet_0 rfl (lv_at hl 0 rfl) ?_
  refine lv_iconst (v := 1) hx hb dX8_isStyleSet_1 (by decide) ?_
  refine lv_sipush (v := 255) hx hb dX8_isStyleSet_2 (by decide) ?_
  refine fr_i (wr := []) (va_runS (As := [.int x0, .int 1, .int 255]) (rest := []) ⟨hx, hb, hml, hown, hts⟩ (c_X8_isWithin l D s.heap.size x0 1 255 ) (va_cwS 3 hts (gS (fun w h => List.mem_cons_of_mem _ h) gw_1 gw_2 gw_3 gw_0) rfl rfl rfl (by decide +kernel) ⟨Nat.le_of_ble_eq_true rfl, Nat.le_of_ble_eq_true rfl⟩) (pw_S [] [] hP hD hK hN rfl rfl (by decide) rfl) rfl rfl hl.1 rfl (lv_room (Nat.le_of_ble_eq_true rfl)) dX8_isStyleSet_5 ⟨Nat.le_of_ble_eq_true rfl, Nat.le_of_ble_eq_true rfl⟩) hP hD hK hS hA [] [] rfl rfl (by decide) (by decide) (fun r_2 u_1 H locs hw_3 hP hD hK hS => ?_)
  try dsimp only at hw_3
  have hP : va_P D vwCl [] H := hP
  have hD : va_D A [] := hD
  have hK : va_K D vwCl [] s := hK
  refine W.widen (k := 0) (n := 0) (Nat.le_of_ble_eq_true rfl) (Nat.le_of_ble_eq_true rfl) ?_
  refine tI (y := isW x0 1 255) hw_3 ?_
  have hP9 := hP.sub (ws' := []) [] rfl
  have hD9 := hD.sub (ws' := []) [] (by decide) rfl
  have hK9 := hK.sub (tys' := []) [] rfl
  refine W.widen (k := 0) (n := 0) (Nat.le_of_ble_eq_true rfl) (Nat.le_of_ble_eq_true rfl) ?_
  exact W.zret (v := isW x0 1 255) hx hb hr (isW_nar _ _ _) (fun t ht hW => ⟨⟨(isW x0 1 255), (), rfl, rfl, by rw [ht]; exact hP9, va_K.moved hW.alike hK9, hD9⟩, hS.F ht⟩) hS.2.2 dX8_isStyleSet_8
set_option maxHeartbeats 4000000 in
set_option maxRecDepth 100000 in
theorem c_X8_makerAt (l : Launch) (D : va_G) (sz : Nat) (h0 : Nat) (i0 : Int32) (fs : List Value) (hf8 : fs[8]? = some (.int 0)) : Met l yX8_makerAt (.code yX8_makerAt cX8_makerAt 2 (some (.object "OddShoes$Maker")) :: G) ({ frames := 2, cells := 0, slots := 0, locals := 40 }) (va_Pc [.ref h0, .int i0] (pw D sz [(h0, .inr (8, fs))] [])) (va_Qq (fun (r : Option Nat) (u : Unit) => r = none) (fun (u : Unit) => qw D (va_A [(h0, .inr (8, fs))] sz) [(h0, .inr (8, fs))] []) (va_A [(h0, .inr (8, fs))] sz)) 0 0 (va_A [(h0, .inr (8, fs))] sz) := by
  refine Met.ofW (cc := cX8_makerAt) (maxL := 2) (ret := (some (.object "OddShoes$Maker"))) (by decide) rfl ?_
  intro p e s m args below meth c s₁ B hml hv
  obtain ⟨rfl, hsz, hP, hK, hD0, hN⟩ := hv
  have hx := B.exec
  have hb := B.bytes
  have hr := B.returns
  have hts := atoms_spec (ws := (.code yX8_makerAt cX8_makerAt 2 (some (.object "OddShoes$Maker")) :: G)) B.pre
  have hown : s.vm.findClass RX8 = some m.cls := findClass_of_methodNamed B.named
  have hlocks := B.notSynchronized
  subst hsz
  have hD := hD0.self (sz := s.heap.size)
  generalize hAe : va_A [(h0, .inr (8, fs))] s.heap.size = A at hD ⊢
  have hA : ∀ q : Nat, s.heap.size ≤ q → A q := fun q h => by rw [← hAe]; exact Or.inr h
  have hS : va_S A s.heap s.heap [] := va_S.rf
  have hP : va_P D vwCl [(h0, .inr (8, fs))] s.heap := hP
  have hl := lv_entry ([.ref h0, .int i0]) (n := 2) (Nat.le_of_ble_eq_true rfl)
  rw [lg_entry_eq]
  generalize (lg_sl ([.ref h0, .int i0]) ++ List.replicate (2 - (lg_sl ([.ref h0, .int i0])).length) Slot.unset).toArray = ls at hl ⊢
  have hl : lv_has ls 2 [(0, .ref h0), (1, .int i0)] := hl
  refine lv_iload_n hx hb dX8_makerAt_0 rfl (lv_at hl 1 rfl) ?_
  refine lv_if_lt (tgt := 21) hx hb dX8_makerAt_1 (by decide) (fun c_1 => ?_) (fun c_1 => ?_)
  · skip
    refine lv_null hx hb dX8_makerAt_21 ?_
    have hP9 := hP.sub (ws' := [(h0, .inr (8, fs))]) [0] rfl
    have hD9 := hD.sub (ws' := [(h0, .inr (8, fs))]) [0] (by decide) rfl
    have hK9 := hK.sub (tys' := []) [] rfl
    refine W.widen (k := 0) (n := 0) (Nat.le_of_ble_eq_true rfl) (Nat.le_of_ble_eq_true rfl) ?_
    exact W.aret (v := .null) hx hb hr (Or.inl ⟨_, rfl⟩) (Or.inl rfl) (fun t ht hW => ⟨⟨none, (), rfl, rfl, by rw [ht]; exact hP9, va_K.moved hW.alike hK9, hD9⟩, hS.F ht⟩) hS.2.2 dX8_makerAt_22
  · skip
    refine lv_iload_n hx hb dX8_makerAt_4 rfl (lv_at hl 1 rfl) ?_
    refine lv_aload_n hx hb dX8_makerAt_5 rfl (lv_at hl 0 rfl) ?_
    refine va_get (D := D) (ci := 8) (v := .int 0) (C := RX8) (T := TX8) (N := 19) hx hb hts (fun w h => List.mem_cons_of_mem _ (inG8 w h)) hown hK hP 0 rfl rfl 8 (by decide) (hts _ (List.mem_cons_of_mem _ gw_4)) (fun _ h9 => h9) hf8 dX8_makerAt_6 ?_
    refine lv_icmp_ge (tgt := 21) hx hb dX8_makerAt_9 (by decide) (fun c_2 => ?_) (fun c_2 => ?_)
    · skip
      refine lv_null hx hb dX8_makerAt_21 ?_
      have hP9 := hP.sub (ws' := [(h0, .inr (8, fs))]) [0] rfl
      have hD9 := hD.sub (ws' := [(h0, .inr (8, fs))]) [0] (by decide) rfl
      have hK9 := hK.sub (tys' := []) [] rfl
      refine W.widen (k := 0) (n := 0) (Nat.le_of_ble_eq_true rfl) (Nat.le_of_ble_eq_true rfl) ?_
      exact W.aret (v := .null) hx hb hr (Or.inl ⟨_, rfl⟩) (Or.inl rfl) (fun t ht hW => ⟨⟨none, (), rfl, rfl, by rw [ht]; exact hP9, va_K.moved hW.alike hK9, hD9⟩, hS.F ht⟩) hS.2.2 dX8_makerAt_22
    · skip
      exact absurd (Int32.not_lt.mp c_1) c_2
set_option maxHeartbeats 4000000 in
set_option maxRecDepth 100000 in
theorem c_X8_personAt (l : Launch) (D : va_G) (sz : Nat) (h0 : Nat) (i0 : Int32) (fs : List Value) (hf9 : fs[9]? = some (.int 0)) : Met l yX8_personAt (.code yX8_personAt cX8_personAt 2 (some (.object "OddShoes$Person")) :: G) ({ frames := 2, cells := 0, slots := 0, locals := 40 }) (va_Pc [.ref h0, .int i0] (pw D sz [(h0, .inr (8, fs))] [])) (va_Qq (fun (r : Option Nat) (u : Unit) => r = none) (fun (u : Unit) => qw D (va_A [(h0, .inr (8, fs))] sz) [(h0, .inr (8, fs))] []) (va_A [(h0, .inr (8, fs))] sz)) 0 0 (va_A [(h0, .inr (8, fs))] sz) := by
  refine Met.ofW (cc := cX8_personAt) (maxL := 2) (ret := (some (.object "OddShoes$Person"))) (by decide) rfl ?_
  intro p e s m args below meth c s₁ B hml hv
  obtain ⟨rfl, hsz, hP, hK, hD0, hN⟩ := hv
  have hx := B.exec
  have hb := B.bytes
  have hr := B.returns
  have hts := atoms_spec (ws := (.code yX8_personAt cX8_personAt 2 (some (.object "OddShoes$Person")) :: G)) B.pre
  have hown : s.vm.findClass RX8 = some m.cls := findClass_of_methodNamed B.named
  have hlocks := B.notSynchronized
  subst hsz
  have hD := hD0.self (sz := s.heap.size)
  generalize hAe : va_A [(h0, .inr (8, fs))] s.heap.size = A at hD ⊢
  have hA : ∀ q : Nat, s.heap.size ≤ q → A q := fun q h => by rw [← hAe]; exact Or.inr h
  have hS : va_S A s.heap s.heap [] := va_S.rf
  have hP : va_P D vwCl [(h0, .inr (8, fs))] s.heap := hP
  have hl := lv_entry ([.ref h0, .int i0]) (n := 2) (Nat.le_of_ble_eq_true rfl)
  rw [lg_entry_eq]
  generalize (lg_sl ([.ref h0, .int i0]) ++ List.replicate (2 - (lg_sl ([.ref h0, .int i0])).length) Slot.unset).toArray = ls at hl ⊢
  have hl : lv_has ls 2 [(0, .ref h0), (1, .int i0)] := hl
  refine lv_iload_n hx hb dX8_personAt_0 rfl (lv_at hl 1 rfl) ?_
  refine lv_if_lt (tgt := 21) hx hb dX8_personAt_1 (by decide) (fun c_1 => ?_) (fun c_1 => ?_)
  · skip
    refine lv_null hx hb dX8_personAt_21 ?_
    have hP9 := hP.sub (ws' := [(h0, .inr (8, fs))]) [0] rfl
    have hD9 := hD.sub (ws' := [(h0, .inr (8, fs))]) [0] (by decide) rfl
    have hK9 := hK.sub (tys' := []) [] rfl
    refine W.widen (k := 0) (n := 0) (Nat.le_of_ble_eq_true rfl) (Nat.le_of_ble_eq_true rfl) ?_
    exact W.aret (v := .null) hx hb hr (Or.inl ⟨_, rfl⟩) (Or.inl rfl) (fun t ht hW => ⟨⟨none, (), rfl, rfl, by rw [ht]; exact hP9, va_K.moved hW.alike hK9, hD9⟩, hS.F ht⟩) hS.2.2 dX8_personAt_22
  · skip
    refine lv_iload_n hx hb dX8_personAt_4 rfl (lv_at hl 1 rfl) ?_
    refine lv_aload_n hx hb dX8_personAt_5 rfl (lv_at hl 0 rfl) ?_
    refine va_get (D := D) (ci := 8) (v := .int 0) (C := RX8) (T := TX8) (N := 19) hx hb hts (fun w h => List.mem_cons_of_mem _ (inG8 w h)) hown hK hP 0 rfl rfl 9 (by decide) (hts _ (List.mem_cons_of_mem _ gw_5)) (fun _ h9 => h9) hf9 dX8_personAt_6 ?_
    refine lv_icmp_ge (tgt := 21) hx hb dX8_personAt_9 (by decide) (fun c_2 => ?_) (fun c_2 => ?_)
    · skip
      refine lv_null hx hb dX8_personAt_21 ?_
      have hP9 := hP.sub (ws' := [(h0, .inr (8, fs))]) [0] rfl
      have hD9 := hD.sub (ws' := [(h0, .inr (8, fs))]) [0] (by decide) rfl
      have hK9 := hK.sub (tys' := []) [] rfl
      refine W.widen (k := 0) (n := 0) (Nat.le_of_ble_eq_true rfl) (Nat.le_of_ble_eq_true rfl) ?_
      exact W.aret (v := .null) hx hb hr (Or.inl ⟨_, rfl⟩) (Or.inl rfl) (fun t ht hW => ⟨⟨none, (), rfl, rfl, by rw [ht]; exact hP9, va_K.moved hW.alike hK9, hD9⟩, hS.F ht⟩) hS.2.2 dX8_personAt_22
    · skip
      exact absurd (Int32.not_lt.mp c_1) c_2
set_option maxHeartbeats 4000000 in
set_option maxRecDepth 100000 in
theorem c_X1_trialAt (l : Launch) (D : va_G) (sz : Nat) (h0 : Nat) (i0 : Int32) (fs : List Value) (hf0 : fs[0]? = some (.int 0)) : Met l yX1_trialAt (.code yX1_trialAt cX1_trialAt 2 (some (.object "OddShoes$Trial")) :: G) ({ frames := 2, cells := 0, slots := 0, locals := 40 }) (va_Pc [.ref h0, .int i0] (pw D sz [(h0, .inr (1, fs))] [])) (va_Qq (fun (r : Option Nat) (u : Unit) => r = none) (fun (u : Unit) => qw D (va_A [(h0, .inr (1, fs))] sz) [(h0, .inr (1, fs))] []) (va_A [(h0, .inr (1, fs))] sz)) 0 0 (va_A [(h0, .inr (1, fs))] sz) := by
  refine Met.ofW (cc := cX1_trialAt) (maxL := 2) (ret := (some (.object "OddShoes$Trial"))) (by decide) rfl ?_
  intro p e s m args below meth c s₁ B hml hv
  obtain ⟨rfl, hsz, hP, hK, hD0, hN⟩ := hv
  have hx := B.exec
  have hb := B.bytes
  have hr := B.returns
  have hts := atoms_spec (ws := (.code yX1_trialAt cX1_trialAt 2 (some (.object "OddShoes$Trial")) :: G)) B.pre
  have hown : s.vm.findClass RX1 = some m.cls := findClass_of_methodNamed B.named
  have hlocks := B.notSynchronized
  subst hsz
  have hD := hD0.self (sz := s.heap.size)
  generalize hAe : va_A [(h0, .inr (1, fs))] s.heap.size = A at hD ⊢
  have hA : ∀ q : Nat, s.heap.size ≤ q → A q := fun q h => by rw [← hAe]; exact Or.inr h
  have hS : va_S A s.heap s.heap [] := va_S.rf
  have hP : va_P D vwCl [(h0, .inr (1, fs))] s.heap := hP
  have hl := lv_entry ([.ref h0, .int i0]) (n := 2) (Nat.le_of_ble_eq_true rfl)
  rw [lg_entry_eq]
  generalize (lg_sl ([.ref h0, .int i0]) ++ List.replicate (2 - (lg_sl ([.ref h0, .int i0])).length) Slot.unset).toArray = ls at hl ⊢
  have hl : lv_has ls 2 [(0, .ref h0), (1, .int i0)] := hl
  refine lv_iload_n hx hb dX1_trialAt_0 rfl (lv_at hl 1 rfl) ?_
  refine lv_if_lt (tgt := 21) hx hb dX1_trialAt_1 (by decide) (fun c_1 => ?_) (fun c_1 => ?_)
  · skip
    refine lv_null hx hb dX1_trialAt_21 ?_
    have hP9 := hP.sub (ws' := [(h0, .inr (1, fs))]) [0] rfl
    have hD9 := hD.sub (ws' := [(h0, .inr (1, fs))]) [0] (by decide) rfl
    have hK9 := hK.sub (tys' := []) [] rfl
    refine W.widen (k := 0) (n := 0) (Nat.le_of_ble_eq_true rfl) (Nat.le_of_ble_eq_true rfl) ?_
    exact W.aret (v := .null) hx hb hr (Or.inl ⟨_, rfl⟩) (Or.inl rfl) (fun t ht hW => ⟨⟨none, (), rfl, rfl, by rw [ht]; exact hP9, va_K.moved hW.alike hK9, hD9⟩, hS.F ht⟩) hS.2.2 dX1_trialAt_22
  · skip
    refine lv_iload_n hx hb dX1_trialAt_4 rfl (lv_at hl 1 rfl) ?_
    refine lv_aload_n hx hb dX1_trialAt_5 rfl (lv_at hl 0 rfl) ?_
    refine va_get (D := D) (ci := 1) (v := .int 0) (C := RX1) (T := TX1) (N := 7) hx hb hts (fun w h => List.mem_cons_of_mem _ (inG1 w h)) hown hK hP 0 rfl rfl 0 (by decide) (hts _ (List.mem_cons_of_mem _ gw_6)) (fun _ h9 => h9) hf0 dX1_trialAt_6 ?_
    refine lv_icmp_ge (tgt := 21) hx hb dX1_trialAt_9 (by decide) (fun c_2 => ?_) (fun c_2 => ?_)
    · skip
      refine lv_null hx hb dX1_trialAt_21 ?_
      have hP9 := hP.sub (ws' := [(h0, .inr (1, fs))]) [0] rfl
      have hD9 := hD.sub (ws' := [(h0, .inr (1, fs))]) [0] (by decide) rfl
      have hK9 := hK.sub (tys' := []) [] rfl
      refine W.widen (k := 0) (n := 0) (Nat.le_of_ble_eq_true rfl) (Nat.le_of_ble_eq_true rfl) ?_
      exact W.aret (v := .null) hx hb hr (Or.inl ⟨_, rfl⟩) (Or.inl rfl) (fun t ht hW => ⟨⟨none, (), rfl, rfl, by rw [ht]; exact hP9, va_K.moved hW.alike hK9, hD9⟩, hS.F ht⟩) hS.2.2 dX1_trialAt_22
    · skip
      exact absurd (Int32.not_lt.mp c_1) c_2
set_option maxHeartbeats 4000000 in
set_option maxRecDepth 100000 in
theorem c_X1_standing (l : Launch) (D : va_G) (sz : Nat) (h0 : Nat) (fs : List Value) (hf0 : fs[0]? = some (.int 0)) : Met l yX1_standing (.code yX1_standing cX1_standing 3 (some .int) :: G) ({ frames := 2, cells := 0, slots := 0, locals := 40 }) (va_Pc [.ref h0] (pw D sz [(h0, .inr (1, fs))] [])) (va_Qi (fun (r : Int32) (u : Unit) => r = 0) (fun (u : Unit) => qw D (va_A [(h0, .inr (1, fs))] sz) [(h0, .inr (1, fs))] []) (va_A [(h0, .inr (1, fs))] sz)) 0 0 (va_A [(h0, .inr (1, fs))] sz) := by
  refine Met.ofW (cc := cX1_standing) (maxL := 3) (ret := (some .int)) (by decide) rfl ?_
  intro p e s m args below meth c s₁ B hml hv
  obtain ⟨rfl, hsz, hP, hK, hD0, hN⟩ := hv
  have hx := B.exec
  have hb := B.bytes
  have hr := B.returns
  have hts := atoms_spec (ws := (.code yX1_standing cX1_standing 3 (some .int) :: G)) B.pre
  have hown : s.vm.findClass RX1 = some m.cls := findClass_of_methodNamed B.named
  have hlocks := B.notSynchronized
  subst hsz
  have hD := hD0.self (sz := s.heap.size)
  generalize hAe : va_A [(h0, .inr (1, fs))] s.heap.size = A at hD ⊢
  have hA : ∀ q : Nat, s.heap.size ≤ q → A q := fun q h => by rw [← hAe]; exact Or.inr h
  have hS : va_S A s.heap s.heap [] := va_S.rf
  have hP : va_P D vwCl [(h0, .inr (1, fs))] s.heap := hP
  have hl := lv_entry ([.ref h0]) (n := 3) (Nat.le_of_ble_eq_true rfl)
  rw [lg_entry_eq]
  generalize (lg_sl ([.ref h0]) ++ List.replicate (3 - (lg_sl ([.ref h0])).length) Slot.unset).toArray = ls at hl ⊢
  have hl : lv_has ls 3 [(0, .ref h0)] := hl
  refine lv_iconst (v := 0) hx hb dX1_standing_0 (by decide) ?_
  refine lv_istore_n (lv' := [(1, .int 0), (0, .ref h0)]) hx hb dX1_standing_1 rfl hl (by decide) rfl (fun ls hl => ?_)
  refine lv_iconst (v := 0) hx hb dX1_standing_2 (by decide) ?_
  refine lv_istore_n (lv' := [(2, .int 0), (1, .int 0), (0, .ref h0)]) hx hb dX1_standing_3 rfl hl (by decide) rfl (fun ls hl => ?_)
  refine lv_iload_n hx hb dX1_standing_4 rfl (lv_at hl 0 rfl) ?_
  refine lv_aload_n hx hb dX1_standing_5 rfl (lv_at hl 2 rfl) ?_
  refine va_get (D := D) (ci := 1) (v := .int 0) (C := RX1) (T := TX1) (N := 7) hx hb hts (fun w h => List.mem_cons_of_mem _ (inG1 w h)) hown hK hP 0 rfl rfl 0 (by decide) (hts _ (List.mem_cons_of_mem _ gw_6)) (fun _ h9 => h9) hf0 dX1_standing_6 ?_
  refine lv_icmp_ge (tgt := 33) hx hb dX1_standing_9 (by decide) (fun c_1 => ?_) (fun c_1 => absurd (by decide) c_1)
  refine lv_iload_n hx hb dX1_standing_33 rfl (lv_at hl 1 rfl) ?_
  have hP9 := hP.sub (ws' := [(h0, .inr (1, fs))]) [0] rfl
  have hD9 := hD.sub (ws' := [(h0, .inr (1, fs))]) [0] (by decide) rfl
  have hK9 := hK.sub (tys' := []) [] rfl
  refine W.widen (k := 0) (n := 0) (Nat.le_of_ble_eq_true rfl) (Nat.le_of_ble_eq_true rfl) ?_
  exact W.iret (v := 0) hx hb hr (fun t ht hW => ⟨⟨0, (), rfl, rfl, by rw [ht]; exact hP9, va_K.moved hW.alike hK9, hD9⟩, hS.F ht⟩) hS.2.2 dX1_standing_34
set_option maxHeartbeats 4000000 in
set_option maxRecDepth 100000 in
theorem c_X8_waiting (l : Launch) (D : va_G) (sz : Nat) (h0 : Nat) (fs : List Value) (hf9 : fs[9]? = some (.int 0)) : Met l yX8_waiting (.code yX8_waiting cX8_waiting 3 (some .int) :: G) ({ frames := 2, cells := 0, slots := 0, locals := 40 }) (va_Pc [.ref h0] (pw D sz [(h0, .inr (8, fs))] [])) (va_Qi (fun (r : Int32) (u : Unit) => r = 0) (fun (u : Unit) => qw D (va_A [(h0, .inr (8, fs))] sz) [(h0, .inr (8, fs))] []) (va_A [(h0, .inr (8, fs))] sz)) 0 0 (va_A [(h0, .inr (8, fs))] sz) := by
  refine Met.ofW (cc := cX8_waiting) (maxL := 3) (ret := (some .int)) (by decide) rfl ?_
  intro p e s m args below meth c s₁ B hml hv
  obtain ⟨rfl, hsz, hP, hK, hD0, hN⟩ := hv
  have hx := B.exec
  have hb := B.bytes
  have hr := B.returns
  have hts := atoms_spec (ws := (.code yX8_waiting cX8_waiting 3 (some .int) :: G)) B.pre
  have hown : s.vm.findClass RX8 = some m.cls := findClass_of_methodNamed B.named
  have hlocks := B.notSynchronized
  subst hsz
  have hD := hD0.self (sz := s.heap.size)
  generalize hAe : va_A [(h0, .inr (8, fs))] s.heap.size = A at hD ⊢
  have hA : ∀ q : Nat, s.heap.size ≤ q → A q := fun q h => by rw [← hAe]; exact Or.inr h
  have hS : va_S A s.heap s.heap [] := va_S.rf
  have hP : va_P D vwCl [(h0, .inr (8, fs))] s.heap := hP
  have hl := lv_entry ([.ref h0]) (n := 3) (Nat.le_of_ble_eq_true rfl)
  rw [lg_entry_eq]
  generalize (lg_sl ([.ref h0]) ++ List.replicate (3 - (lg_sl ([.ref h0])).length) Slot.unset).toArray = ls at hl ⊢
  have hl : lv_has ls 3 [(0, .ref h0)] := hl
  refine lv_iconst (v := 0) hx hb dX8_waiting_0 (by decide) ?_
  refine lv_istore_n (lv' := [(1, .int 0), (0, .ref h0)]) hx hb dX8_waiting_1 rfl hl (by decide) rfl (fun ls hl => ?_)
  refine lv_iconst (v := 0) hx hb dX8_waiting_2 (by decide) ?_
  refine lv_istore_n (lv' := [(2, .int 0), (1, .int 0), (0, .ref h0)]) hx hb dX8_waiting_3 rfl hl (by decide) rfl (fun ls hl => ?_)
  refine lv_iload_n hx hb dX8_waiting_4 rfl (lv_at hl 0 rfl) ?_
  refine lv_aload_n hx hb dX8_waiting_5 rfl (lv_at hl 2 rfl) ?_
  refine va_get (D := D) (ci := 8) (v := .int 0) (C := RX8) (T := TX8) (N := 19) hx hb hts (fun w h => List.mem_cons_of_mem _ (inG8 w h)) hown hK hP 0 rfl rfl 9 (by decide) (hts _ (List.mem_cons_of_mem _ gw_5)) (fun _ h9 => h9) hf9 dX8_waiting_6 ?_
  refine lv_icmp_ge (tgt := 33) hx hb dX8_waiting_9 (by decide) (fun c_1 => ?_) (fun c_1 => absurd (by decide) c_1)
  refine lv_iload_n hx hb dX8_waiting_33 rfl (lv_at hl 1 rfl) ?_
  have hP9 := hP.sub (ws' := [(h0, .inr (8, fs))]) [0] rfl
  have hD9 := hD.sub (ws' := [(h0, .inr (8, fs))]) [0] (by decide) rfl
  have hK9 := hK.sub (tys' := []) [] rfl
  refine W.widen (k := 0) (n := 0) (Nat.le_of_ble_eq_true rfl) (Nat.le_of_ble_eq_true rfl) ?_
  exact W.iret (v := 0) hx hb hr (fun t ht hW => ⟨⟨0, (), rfl, rfl, by rw [ht]; exact hP9, va_K.moved hW.alike hK9, hD9⟩, hS.F ht⟩) hS.2.2 dX8_waiting_34
set_option maxHeartbeats 4000000 in
set_option maxRecDepth 100000 in
theorem c_X8_shoeAll (l : Launch) (D : va_G) (sz : Nat) (h0 : Nat) (x0 : Int32) (fs : List Value) (hf9 : fs[9]? = some (.int 0)) : Met l yX8_shoeAll (.code yX8_shoeAll cX8_shoeAll 3 none :: G) ({ frames := 2, cells := 0, slots := 0, locals := 40 }) (va_Pc [.ref h0, .int x0] (pw D sz [(h0, .inr (8, fs))] [])) (va_Qv (fun (u : Unit) => True) (fun (u : Unit) => qw D (va_A [(h0, .inr (8, fs))] sz) [(h0, .inr (8, fs))] []) (va_A [(h0, .inr (8, fs))] sz)) 0 0 (va_A [(h0, .inr (8, fs))] sz) := by
  refine Met.ofW (cc := cX8_shoeAll) (maxL := 3) (ret := none) (by decide) rfl ?_
  intro p e s m args below meth c s₁ B hml hv
  obtain ⟨rfl, hsz, hP, hK, hD0, hN⟩ := hv
  have hx := B.exec
  have hb := B.bytes
  have hr := B.returns
  have hts := atoms_spec (ws := (.code yX8_shoeAll cX8_shoeAll 3 none :: G)) B.pre
  have hown : s.vm.findClass RX8 = some m.cls := findClass_of_methodNamed B.named
  have hlocks := B.notSynchronized
  subst hsz
  have hD := hD0.self (sz := s.heap.size)
  generalize hAe : va_A [(h0, .inr (8, fs))] s.heap.size = A at hD ⊢
  have hA : ∀ q : Nat, s.heap.size ≤ q → A q := fun q h => by rw [← hAe]; exact Or.inr h
  have hS : va_S A s.heap s.heap [] := va_S.rf
  have hP : va_P D vwCl [(h0, .inr (8, fs))] s.heap := hP
  have hl := lv_entry ([.ref h0, .int x0]) (n := 3) (Nat.le_of_ble_eq_true rfl)
  rw [lg_entry_eq]
  generalize (lg_sl ([.ref h0, .int x0]) ++ List.replicate (3 - (lg_sl ([.ref h0, .int x0])).length) Slot.unset).toArray = ls at hl ⊢
  have hl : lv_has ls 3 [(0, .ref h0), (1, .int x0)] := hl
  refine lv_iconst (v := 0) hx hb dX8_shoeAll_0 (by decide) ?_
  refine lv_istore_n (lv' := [(2, .int 0), (0, .ref h0), (1, .int x0)]) hx hb dX8_shoeAll_1 rfl hl (by decide) rfl (fun ls hl => ?_)
  refine lv_iload_n hx hb dX8_shoeAll_2 rfl (lv_at hl 0 rfl) ?_
  refine lv_aload_n hx hb dX8_shoeAll_3 rfl (lv_at hl 1 rfl) ?_
  refine va_get (D := D) (ci := 8) (v := .int 0) (C := RX8) (T := TX8) (N := 19) hx hb hts (fun w h => List.mem_cons_of_mem _ (inG8 w h)) hown hK hP 0 rfl rfl 9 (by decide) (hts _ (List.mem_cons_of_mem _ gw_5)) (fun _ h9 => h9) hf9 dX8_shoeAll_4 ?_
  refine lv_icmp_ge (tgt := 33) hx hb dX8_shoeAll_7 (by decide) (fun c_1 => ?_) (fun c_1 => absurd (by decide) c_1)
  have hP9 := hP.sub (ws' := [(h0, .inr (8, fs))]) [0] rfl
  have hD9 := hD.sub (ws' := [(h0, .inr (8, fs))]) [0] (by decide) rfl
  have hK9 := hK.sub (tys' := []) [] rfl
  refine W.widen (k := 0) (n := 0) (Nat.le_of_ble_eq_true rfl) (Nat.le_of_ble_eq_true rfl) ?_
  exact W.vret hx hb hr (fun t ht hW => ⟨⟨(), rfl, (by first | trivial | rfl), by rw [ht]; exact hP9, va_K.moved hW.alike hK9, hD9⟩, hS.F ht⟩) hS.2.2 dX8_shoeAll_33
set_option maxHeartbeats 4000000 in
set_option maxRecDepth 100000 in
theorem c_X8_passMonth (l : Launch) (D : va_G) (sz : Nat) (h0 : Nat) (k0 : Nat) (v0 : Value) (v1 : Value) (v2 : Value) (v3 : Value) (v4 : Value) (v5 : Value) (v6 : Value) (v7 : Value) (v8 : Value) (v10 : Value) (v12 : Value) (v13 : Value) (v14 : Value) (v15 : Value) (v16 : Value) (v17 : Value) (v18 : Value) : Met l yX8_passMonth (.code yX8_passMonth cX8_passMonth 2 none :: G) ({ frames := 2, cells := 0, slots := 0, locals := 40 }) (va_Pc [.ref h0] (pw D sz [(h0, .inr (8, [v0, v1, v2, v3, v4, v5, v6, v7, v8, .int 0, v10, .int (nI k0), v12, v13, v14, v15, v16, v17, v18]))] [])) (va_Qv (fun (u : Unit) => True) (fun (u : Unit) => qw D (va_A [(h0, .inr (8, [v0, v1, v2, v3, v4, v5, v6, v7, v8, .int 0, v10, .int (nI k0), v12, v13, v14, v15, v16, v17, v18]))] sz) [(h0, .inr (8, [v0, v1, v2, v3, v4, v5, v6, v7, v8, .int 0, v10, .int (nI (k0 + 1)), v12, v13, v14, v15, v16, v17, v18]))] []) (va_A [(h0, .inr (8, [v0, v1, v2, v3, v4, v5, v6, v7, v8, .int 0, v10, .int (nI k0), v12, v13, v14, v15, v16, v17, v18]))] sz)) 0 0 (va_A [(h0, .inr (8, [v0, v1, v2, v3, v4, v5, v6, v7, v8, .int 0, v10, .int (nI k0), v12, v13, v14, v15, v16, v17, v18]))] sz) := by
  refine Met.ofW (cc := cX8_passMonth) (maxL := 2) (ret := none) (by decide) rfl ?_
  intro p e s m args below meth c s₁ B hml hv
  obtain ⟨rfl, hsz, hP, hK, hD0, hN⟩ := hv
  have hx := B.exec
  have hb := B.bytes
  have hr := B.returns
  have hts := atoms_spec (ws := (.code yX8_passMonth cX8_passMonth 2 none :: G)) B.pre
  have hown : s.vm.findClass RX8 = some m.cls := findClass_of_methodNamed B.named
  have hlocks := B.notSynchronized
  subst hsz
  have hD := hD0.self (sz := s.heap.size)
  generalize hAe : va_A [(h0, .inr (8, [v0, v1, v2, v3, v4, v5, v6, v7, v8, .int 0, v10, .int (nI k0), v12, v13, v14, v15, v16, v17, v18]))] s.heap.size = A at hD ⊢
  have hA : ∀ q : Nat, s.heap.size ≤ q → A q := fun q h => by rw [← hAe]; exact Or.inr h
  have hS : va_S A s.heap s.heap [] := va_S.rf
  have hP : va_P D vwCl [(h0, .inr (8, [v0, v1, v2, v3, v4, v5, v6, v7, v8, .int 0, v10, .int (nI k0), v12, v13, v14, v15, v16, v17, v18]))] s.heap := hP
  have hl := lv_entry ([.ref h0]) (n := 2) (Nat.le_of_ble_eq_true rfl)
  rw [lg_entry_eq]
  generalize (lg_sl ([.ref h0]) ++ List.replicate (2 - (lg_sl ([.ref h0])).length) Slot.unset).toArray = ls at hl ⊢
  have hl : lv_has ls 2 [(0, .ref h0)] := hl
  refine lv_aload_n hx hb dX8_passMonth_0 rfl (lv_at hl 0 rfl) ?_
  refine lv_dup hx hb dX8_passMonth_1 rfl ?_
  refine va_get (D := D) (ci := 8) (v := .int (nI k0)) (C := RX8) (T := TX8) (N := 19) hx hb hts (fun w h => List.mem_cons_of_mem _ (inG8 w h)) hown hK hP 0 rfl rfl 11 (by decide) (hts _ (List.mem_cons_of_mem _ gw_7)) (fun _ h9 => h9) rfl dX8_passMonth_2 ?_
  refine lv_iconst (v := 1) hx hb dX8_passMonth_5 (by decide) ?_
  refine lv_iadd hx hb dX8_passMonth_6 ?_
  refine tI (y := nI (k0 + 1)) (nI_add k0 1) ?_
  refine va_put (D := D) (ci := 8) (v := .int (nI (k0 + 1))) (ty := .int) (C := RX8) (T := TX8) (N := 19) hx hb hts (fun w h => List.mem_cons_of_mem _ (inG8 w h)) tyX8 tyX8_ok nmX8 hown hK hP hD hS 0 rfl rfl 11 (by decide) (hts _ (List.mem_cons_of_mem _ gw_7)) (fun _ h9 => h9) rfl (by decide +kernel) rfl rfl (Nat.le_of_ble_eq_true rfl) dX8_passMonth_7 (fun H locs hP hD hS => ?_)
  have hP : va_P D vwCl [(h0, .inr (8, [v0, v1, v2, v3, v4, v5, v6, v7, v8, .int 0, v10, .int (nI (k0 + 1)), v12, v13, v14, v15, v16, v17, v18]))] H := hP
  have hD : va_D A [(h0, .inr (8, [v0, v1, v2, v3, v4, v5, v6, v7, v8, .int 0, v10, .int (nI (k0 + 1)), v12, v13, v14, v15, v16, v17, v18]))] := hD
  refine lv_iconst (v := 0) hx hb dX8_passMonth_10 (by decide) ?_
  refine lv_istore_n (lv' := [(1, .int 0), (0, .ref h0)]) hx hb dX8_passMonth_11 rfl hl (by decide) rfl (fun ls hl => ?_)
  refine lv_iload_n hx hb dX8_passMonth_12 rfl (lv_at hl 0 rfl) ?_
  refine lv_aload_n hx hb dX8_passMonth_13 rfl (lv_at hl 1 rfl) ?_
  refine va_get (D := D) (ci := 8) (v := .int 0) (C := RX8) (T := TX8) (N := 19) hx hb hts (fun w h => List.mem_cons_of_mem _ (inG8 w h)) hown hK hP 0 rfl rfl 9 (by decide) (hts _ (List.mem_cons_of_mem _ gw_5)) (fun _ h9 => h9) rfl dX8_passMonth_14 ?_
  refine lv_icmp_ge (tgt := 35) hx hb dX8_passMonth_17 (by decide) (fun c_1 => ?_) (fun c_1 => absurd (by decide) c_1)
  have hP9 := hP.sub (ws' := [(h0, .inr (8, [v0, v1, v2, v3, v4, v5, v6, v7, v8, .int 0, v10, .int (nI (k0 + 1)), v12, v13, v14, v15, v16, v17, v18]))]) [0] rfl
  have hD9 := hD.sub (ws' := [(h0, .inr (8, [v0, v1, v2, v3, v4, v5, v6, v7, v8, .int 0, v10, .int (nI (k0 + 1)), v12, v13, v14, v15, v16, v17, v18]))]) [0] (by decide) rfl
  have hK9 := hK.sub (tys' := []) [] rfl
  refine W.widen (k := 0) (n := 0) (Nat.le_of_ble_eq_true rfl) (Nat.le_of_ble_eq_true rfl) ?_
  exact W.vret hx hb hr (fun t ht hW => ⟨⟨(), rfl, (by first | trivial | rfl), by rw [ht]; exact hP9, va_K.moved hW.alike hK9, hD9⟩, hS.F ht⟩) hS.2.2 dX8_passMonth_35
set_option maxHeartbeats 4000000 in
set_option maxRecDepth 100000 in
theorem c_J6_bitCount (l : Launch) (D : va_G) (sz : Nat) : Met l yJ6_bitCount_0f7a4 (.code yJ6_bitCount_0f7a4 cJ6_bitCount_0f7a4 1 (some .int) :: G) ({ frames := 2, cells := 0, slots := 0, locals := 40 }) (va_Pc [.int 0] (pw D sz [] [])) (va_Qi (fun (r : Int32) (u : Unit) => r = 0) (fun (u : Unit) => qw D (va_A [] sz) [] []) (va_A [] sz)) 0 0 (va_A [] sz) := by
  refine Met.ofW (cc := cJ6_bitCount_0f7a4) (maxL := 1) (ret := (some .int)) (by decide) rfl ?_
  intro p e s m args below meth c s₁ B hml hv
  obtain ⟨rfl, hsz, hP, hK, hD0, hN⟩ := hv
  have hx := B.exec
  have hb := B.bytes
  have hr := B.returns
  have hts := atoms_spec (ws := (.code yJ6_bitCount_0f7a4 cJ6_bitCount_0f7a4 1 (some .int) :: G)) B.pre
  have hown : s.vm.findClass RJ6 = some m.cls := findClass_of_methodNamed B.named
  have hlocks := B.notSynchronized
  subst hsz
  have hD := hD0.self (sz := s.heap.size)
  generalize hAe : va_A [] s.heap.size = A at hD ⊢
  have hA : ∀ q : Nat, s.heap.size ≤ q → A q := fun q h => by rw [← hAe]; exact Or.inr h
  have hS : va_S A s.heap s.heap [] := va_S.rf
  have hP : va_P D vwCl [] s.heap := hP
  have hl := lv_entry ([.int 0]) (n := 1) (Nat.le_of_ble_eq_true rfl)
  rw [lg_entry_eq]
  generalize (lg_sl ([.int 0]) ++ List.replicate (1 - (lg_sl ([.int 0])).length) Slot.unset).toArray = ls at hl ⊢
  have hl : lv_has ls 1 [(0, .int 0)] := hl
  refine lv_iload_n hx hb dJ6_bitCount_0f7a4_0 rfl (lv_at hl 0 rfl) ?_
  refine lv_iload_n hx hb dJ6_bitCount_0f7a4_1 rfl (lv_at hl 0 rfl) ?_
  refine lv_iconst (v := 1) hx hb dJ6_bitCount_0f7a4_2 (by decide) ?_
  refine lv_iushr (v := 0) hx hb dJ6_bitCount_0f7a4_3 (by decide) ?_
  refine lv_ldcw (v := 1431655765) hx hb hown (hts _ (List.mem_cons_of_mem _ gw_8)) dJ6_bitCount_0f7a4_4 ?_
  refine lv_iand hx hb dJ6_bitCount_0f7a4_7 ?_
  refine tI (y := 0) (by decide) ?_
  refine lv_isub hx hb dJ6_bitCount_0f7a4_8 ?_
  refine tI (y := 0) (by decide) ?_
  refine lv_istore_n (lv' := [(0, .int 0)]) hx hb dJ6_bitCount_0f7a4_9 rfl hl (by decide) rfl (fun ls hl => ?_)
  refine lv_iload_n hx hb dJ6_bitCount_0f7a4_10 rfl (lv_at hl 0 rfl) ?_
  refine lv_ldcw (v := 858993459) hx hb hown (hts _ (List.mem_cons_of_mem _ gw_9)) dJ6_bitCount_0f7a4_11 ?_
  refine lv_iand hx hb dJ6_bitCount_0f7a4_14 ?_
  refine tI (y := 0) (by decide) ?_
  refine lv_iload_n hx hb dJ6_bitCount_0f7a4_15 rfl (lv_at hl 0 rfl) ?_
  refine lv_iconst (v := 2) hx hb dJ6_bitCount_0f7a4_16 (by decide) ?_
  refine lv_iushr (v := 0) hx hb dJ6_bitCount_0f7a4_17 (by decide) ?_
  refine lv_ldcw (v := 858993459) hx hb hown (hts _ (List.mem_cons_of_mem _ gw_9)) dJ6_bitCount_0f7a4_18 ?_
  refine lv_iand hx hb dJ6_bitCount_0f7a4_21 ?_
  refine tI (y := 0) (by decide) ?_
  refine lv_iadd hx hb dJ6_bitCount_0f7a4_22 ?_
  refine tI (y := 0) (by decide) ?_
  refine lv_istore_n (lv' := [(0, .int 0)]) hx hb dJ6_bitCount_0f7a4_23 rfl hl (by decide) rfl (fun ls hl => ?_)
  refine lv_iload_n hx hb dJ6_bitCount_0f7a4_24 rfl (lv_at hl 0 rfl) ?_
  refine lv_iload_n hx hb dJ6_bitCount_0f7a4_25 rfl (lv_at hl 0 rfl) ?_
  refine lv_iconst (v := 4) hx hb dJ6_bitCount_0f7a4_26 (by decide) ?_
  refine lv_iushr (v := 0) hx hb dJ6_bitCount_0f7a4_27 (by decide) ?_
  refine lv_iadd hx hb dJ6_bitCount_0f7a4_28 ?_
  refine tI (y := 0) (by decide) ?_
  refine lv_ldcw (v := 252645135) hx hb hown (hts _ (List.mem_cons_of_mem _ gw_10)) dJ6_bitCount_0f7a4_29 ?_
  refine lv_iand hx hb dJ6_bitCount_0f7a4_32 ?_
  refine tI (y := 0) (by decide) ?_
  refine lv_istore_n (lv' := [(0, .int 0)]) hx hb dJ6_bitCount_0f7a4_33 rfl hl (by decide) rfl (fun ls hl => ?_)
  refine lv_iload_n hx hb dJ6_bitCount_0f7a4_34 rfl (lv_at hl 0 rfl) ?_
  refine lv_iload_n hx hb dJ6_bitCount_0f7a4_35 rfl (lv_at hl 0 rfl) ?_
  refine lv_bipush (v := 8) hx hb dJ6_bitCount_0f7a4_36 (by decide) ?_
  refine lv_iushr (v := 0) hx hb dJ6_bitCount_0f7a4_38 (by decide) ?_
  refine lv_iadd hx hb dJ6_bitCount_0f7a4_39 ?_
  refine tI (y := 0) (by decide) ?_
  refine lv_istore_n (lv' := [(0, .int 0)]) hx hb dJ6_bitCount_0f7a4_40 rfl hl (by decide) rfl (fun ls hl => ?_)
  refine lv_iload_n hx hb dJ6_bitCount_0f7a4_41 rfl (lv_at hl 0 rfl) ?_
  refine lv_iload_n hx hb dJ6_bitCount_0f7a4_42 rfl (lv_at hl 0 rfl) ?_
  refine lv_bipush (v := 16) hx hb dJ6_bitCount_0f7a4_43 (by decide) ?_
  refine lv_iushr (v := 0) hx hb dJ6_bitCount_0f7a4_45 (by decide) ?_
  refine lv_iadd hx hb dJ6_bitCount_0f7a4_46 ?_
  refine tI (y := 0) (by decide) ?_
  refine lv_istore_n (lv' := [(0, .int 0)]) hx hb dJ6_bitCount_0f7a4_47 rfl hl (by decide) rfl (fun ls hl => ?_)
  refine lv_iload_n hx hb dJ6_bitCount_0f7a4_48 rfl (lv_at hl 0 rfl) ?_
  refine lv_bipush (v := 63) hx hb dJ6_bitCount_0f7a4_49 (by decide) ?_
  refine lv_iand hx hb dJ6_bitCount_0f7a4_51 ?_
  refine tI (y := 0) (by decide) ?_
  have hP9 := hP.sub (ws' := []) [] rfl
  have hD9 := hD.sub (ws' := []) [] (by decide) rfl
  have hK9 := hK.sub (tys' := []) [] rfl
  refine W.widen (k := 0) (n := 0) (Nat.le_of_ble_eq_true rfl) (Nat.le_of_ble_eq_true rfl) ?_
  exact W.iret (v := 0) hx hb hr (fun t ht hW => ⟨⟨0, (), rfl, rfl, by rw [ht]; exact hP9, va_K.moved hW.alike hK9, hD9⟩, hS.F ht⟩) hS.2.2 dJ6_bitCount_0f7a4_52
end
section
theorem dX0_init_0 : decode cX0_init 0 = .ok (.aload_n 0, 1) := by decide +kernel
theorem dX0_init_1 : decode cX0_init 1 = .ok (.invokespecial 3, 3) := by decide +kernel
theorem dX0_init_4 : decode cX0_init 4 = .ok (.aload_n 0, 1) := by decide +kernel
theorem dX0_init_5 : decode cX0_init 5 = .ok (.sipush 960, 3) := by decide +kernel
theorem dX0_init_8 : decode cX0_init 8 = .ok (.newarray .int, 2) := by decide +kernel
theorem dX0_init_10 : decode cX0_init 10 = .ok (.putfield 9, 3) := by decide +kernel
theorem dX0_init_13 : decode cX0_init 13 = .ok (.return_, 1) := by decide +kernel
theorem dX3_init_0 : decode cX3_init 0 = .ok (.aload_n 0, 1) := by decide +kernel
theorem dX3_init_1 : decode cX3_init 1 = .ok (.invokespecial 3, 3) := by decide +kernel
theorem dX3_init_4 : decode cX3_init 4 = .ok (.aload_n 0, 1) := by decide +kernel
theorem dX3_init_5 : decode cX3_init 5 = .ok (.iconst 0, 1) := by decide +kernel
theorem dX3_init_6 : decode cX3_init 6 = .ok (.putfield 9, 3) := by decide +kernel
theorem dX3_init_9 : decode cX3_init 9 = .ok (.aload_n 0, 1) := by decide +kernel
theorem dX3_init_10 : decode cX3_init 10 = .ok (.iconst 0, 1) := by decide +kernel
theorem dX3_init_11 : decode cX3_init 11 = .ok (.putfield 15, 3) := by decide +kernel
theorem dX3_init_14 : decode cX3_init 14 = .ok (.aload_n 0, 1) := by decide +kernel
theorem dX3_init_15 : decode cX3_init 15 = .ok (.iconst 0, 1) := by decide +kernel
theorem dX3_init_16 : decode cX3_init 16 = .ok (.putfield 18, 3) := by decide +kernel
theorem dX3_init_19 : decode cX3_init 19 = .ok (.aload_n 0, 1) := by decide +kernel
theorem dX3_init_20 : decode cX3_init 20 = .ok (.iconst 0, 1) := by decide +kernel
theorem dX3_init_21 : decode cX3_init 21 = .ok (.putfield 21, 3) := by decide +kernel
theorem dX3_init_24 : decode cX3_init 24 = .ok (.aload_n 0, 1) := by decide +kernel
theorem dX3_init_25 : decode cX3_init 25 = .ok (.iconst 0, 1) := by decide +kernel
theorem dX3_init_26 : decode cX3_init 26 = .ok (.putfield 24, 3) := by decide +kernel
theorem dX3_init_29 : decode cX3_init 29 = .ok (.aload_n 0, 1) := by decide +kernel
theorem dX3_init_30 : decode cX3_init 30 = .ok (.iconst 0, 1) := by decide +kernel
theorem dX3_init_31 : decode cX3_init 31 = .ok (.putfield 28, 3) := by decide +kernel
theorem dX3_init_34 : decode cX3_init 34 = .ok (.aload_n 0, 1) := by decide +kernel
theorem dX3_init_35 : decode cX3_init 35 = .ok (.iconst 0, 1) := by decide +kernel
theorem dX3_init_36 : decode cX3_init 36 = .ok (.putfield 31, 3) := by decide +kernel
theorem dX3_init_39 : decode cX3_init 39 = .ok (.aload_n 0, 1) := by decide +kernel
theorem dX3_init_40 : decode cX3_init 40 = .ok (.iconst 0, 1) := by decide +kernel
theorem dX3_init_41 : decode cX3_init 41 = .ok (.putfield 34, 3) := by decide +kernel
theorem dX3_init_44 : decode cX3_init 44 = .ok (.aload_n 0, 1) := by decide +kernel
theorem dX3_init_45 : decode cX3_init 45 = .ok (.iload_n 1, 1) := by decide +kernel
theorem dX3_init_46 : decode cX3_init 46 = .ok (.putfield 37, 3) := by decide +kernel
theorem dX3_init_49 : decode cX3_init 49 = .ok (.aload_n 0, 1) := by decide +kernel
theorem dX3_init_50 : decode cX3_init 50 = .ok (.iload_n 2, 1) := by decide +kernel
theorem dX3_init_51 : decode cX3_init 51 = .ok (.putfield 40, 3) := by decide +kernel
theorem dX3_init_54 : decode cX3_init 54 = .ok (.aload_n 0, 1) := by decide +kernel
theorem dX3_init_55 : decode cX3_init 55 = .ok (.iload_n 3, 1) := by decide +kernel
theorem dX3_init_56 : decode cX3_init 56 = .ok (.putfield 43, 3) := by decide +kernel
theorem dX3_init_59 : decode cX3_init 59 = .ok (.aload_n 0, 1) := by decide +kernel
theorem dX3_init_60 : decode cX3_init 60 = .ok (.iload 4, 2) := by decide +kernel
theorem dX3_init_62 : decode cX3_init 62 = .ok (.putfield 46, 3) := by decide +kernel
theorem dX3_init_65 : decode cX3_init 65 = .ok (.aload_n 0, 1) := by decide +kernel
theorem dX3_init_66 : decode cX3_init 66 = .ok (.iload 5, 2) := by decide +kernel
theorem dX3_init_68 : decode cX3_init 68 = .ok (.putfield 49, 3) := by decide +kernel
theorem dX3_init_71 : decode cX3_init 71 = .ok (.return_, 1) := by decide +kernel
theorem dX2_init_0 : decode cX2_init 0 = .ok (.aload_n 0, 1) := by decide +kernel
theorem dX2_init_1 : decode cX2_init 1 = .ok (.invokespecial 3, 3) := by decide +kernel
theorem dX2_init_4 : decode cX2_init 4 = .ok (.aload_n 0, 1) := by decide +kernel
theorem dX2_init_5 : decode cX2_init 5 = .ok (.bipush 32, 2) := by decide +kernel
theorem dX2_init_7 : decode cX2_init 7 = .ok (.newarray .int, 2) := by decide +kernel
theorem dX2_init_9 : decode cX2_init 9 = .ok (.putfield 11, 3) := by decide +kernel
theorem dX2_init_12 : decode cX2_init 12 = .ok (.aload_n 0, 1) := by decide +kernel
theorem dX2_init_13 : decode cX2_init 13 = .ok (.bipush 32, 2) := by decide +kernel
theorem dX2_init_15 : decode cX2_init 15 = .ok (.newarray .int, 2) := by decide +kernel
theorem dX2_init_17 : decode cX2_init 17 = .ok (.putfield 15, 3) := by decide +kernel
theorem dX2_init_20 : decode cX2_init 20 = .ok (.aload_n 0, 1) := by decide +kernel
theorem dX2_init_21 : decode cX2_init 21 = .ok (.bipush 32, 2) := by decide +kernel
theorem dX2_init_23 : decode cX2_init 23 = .ok (.newarray .int, 2) := by decide +kernel
theorem dX2_init_25 : decode cX2_init 25 = .ok (.putfield 18, 3) := by decide +kernel
theorem dX2_init_28 : decode cX2_init 28 = .ok (.return_, 1) := by decide +kernel
theorem dX6_init_0 : decode cX6_init 0 = .ok (.aload_n 0, 1) := by decide +kernel
theorem dX6_init_1 : decode cX6_init 1 = .ok (.invokespecial 3, 3) := by decide +kernel
theorem dX6_init_4 : decode cX6_init 4 = .ok (.aload_n 0, 1) := by decide +kernel
theorem dX6_init_5 : decode cX6_init 5 = .ok (.bipush 12, 2) := by decide +kernel
theorem dX6_init_7 : decode cX6_init 7 = .ok (.newarray .int, 2) := by decide +kernel
theorem dX6_init_9 : decode cX6_init 9 = .ok (.putfield 9, 3) := by decide +kernel
theorem dX6_init_12 : decode cX6_init 12 = .ok (.aload_n 0, 1) := by decide +kernel
theorem dX6_init_13 : decode cX6_init 13 = .ok (.bipush 12, 2) := by decide +kernel
theorem dX6_init_15 : decode cX6_init 15 = .ok (.newarray .int, 2) := by decide +kernel
theorem dX6_init_17 : decode cX6_init 17 = .ok (.putfield 15, 3) := by decide +kernel
theorem dX6_init_20 : decode cX6_init 20 = .ok (.aload_n 0, 1) := by decide +kernel
theorem dX6_init_21 : decode cX6_init 21 = .ok (.bipush 12, 2) := by decide +kernel
theorem dX6_init_23 : decode cX6_init 23 = .ok (.newarray .int, 2) := by decide +kernel
theorem dX6_init_25 : decode cX6_init 25 = .ok (.putfield 18, 3) := by decide +kernel
theorem dX6_init_28 : decode cX6_init 28 = .ok (.aload_n 0, 1) := by decide +kernel
theorem dX6_init_29 : decode cX6_init 29 = .ok (.bipush 12, 2) := by decide +kernel
theorem dX6_init_31 : decode cX6_init 31 = .ok (.newarray .int, 2) := by decide +kernel
theorem dX6_init_33 : decode cX6_init 33 = .ok (.putfield 21, 3) := by decide +kernel
theorem dX6_init_36 : decode cX6_init 36 = .ok (.aload_n 0, 1) := by decide +kernel
theorem dX6_init_37 : decode cX6_init 37 = .ok (.bipush 12, 2) := by decide +kernel
theorem dX6_init_39 : decode cX6_init 39 = .ok (.newarray .int, 2) := by decide +kernel
theorem dX6_init_41 : decode cX6_init 41 = .ok (.putfield 24, 3) := by decide +kernel
theorem dX6_init_44 : decode cX6_init 44 = .ok (.aload_n 0, 1) := by decide +kernel
theorem dX6_init_45 : decode cX6_init 45 = .ok (.bipush 12, 2) := by decide +kernel
theorem dX6_init_47 : decode cX6_init 47 = .ok (.newarray .int, 2) := by decide +kernel
theorem dX6_init_49 : decode cX6_init 49 = .ok (.putfield 27, 3) := by decide +kernel
theorem dX6_init_52 : decode cX6_init 52 = .ok (.aload_n 0, 1) := by decide +kernel
theorem dX6_init_53 : decode cX6_init 53 = .ok (.iconst 0, 1) := by decide +kernel
theorem dX6_init_54 : decode cX6_init 54 = .ok (.putfield 30, 3) := by decide +kernel
theorem dX6_init_57 : decode cX6_init 57 = .ok (.aload_n 0, 1) := by decide +kernel
theorem dX6_init_58 : decode cX6_init 58 = .ok (.iconst 0, 1) := by decide +kernel
theorem dX6_init_59 : decode cX6_init 59 = .ok (.putfield 34, 3) := by decide +kernel
theorem dX6_init_62 : decode cX6_init 62 = .ok (.return_, 1) := by decide +kernel
theorem dX4_init_0 : decode cX4_init 0 = .ok (.aload_n 0, 1) := by decide +kernel
theorem dX4_init_1 : decode cX4_init 1 = .ok (.invokespecial 3, 3) := by decide +kernel
theorem dX4_init_4 : decode cX4_init 4 = .ok (.aload_n 0, 1) := by decide +kernel
theorem dX4_init_5 : decode cX4_init 5 = .ok (.bipush 12, 2) := by decide +kernel
theorem dX4_init_7 : decode cX4_init 7 = .ok (.newarray .int, 2) := by decide +kernel
theorem dX4_init_9 : decode cX4_init 9 = .ok (.putfield 9, 3) := by decide +kernel
theorem dX4_init_12 : decode cX4_init 12 = .ok (.aload_n 0, 1) := by decide +kernel
theorem dX4_init_13 : decode cX4_init 13 = .ok (.bipush 12, 2) := by decide +kernel
theorem dX4_init_15 : decode cX4_init 15 = .ok (.newarray .int, 2) := by decide +kernel
theorem dX4_init_17 : decode cX4_init 17 = .ok (.putfield 15, 3) := by decide +kernel
theorem dX4_init_20 : decode cX4_init 20 = .ok (.aload_n 0, 1) := by decide +kernel
theorem dX4_init_21 : decode cX4_init 21 = .ok (.bipush 12, 2) := by decide +kernel
theorem dX4_init_23 : decode cX4_init 23 = .ok (.newarray .int, 2) := by decide +kernel
theorem dX4_init_25 : decode cX4_init 25 = .ok (.putfield 18, 3) := by decide +kernel
theorem dX4_init_28 : decode cX4_init 28 = .ok (.aload_n 0, 1) := by decide +kernel
theorem dX4_init_29 : decode cX4_init 29 = .ok (.bipush 60, 2) := by decide +kernel
theorem dX4_init_31 : decode cX4_init 31 = .ok (.newarray .int, 2) := by decide +kernel
theorem dX4_init_33 : decode cX4_init 33 = .ok (.putfield 21, 3) := by decide +kernel
theorem dX4_init_36 : decode cX4_init 36 = .ok (.aload_n 0, 1) := by decide +kernel
theorem dX4_init_37 : decode cX4_init 37 = .ok (.bipush 60, 2) := by decide +kernel
theorem dX4_init_39 : decode cX4_init 39 = .ok (.newarray .int, 2) := by decide +kernel
theorem dX4_init_41 : decode cX4_init 41 = .ok (.putfield 24, 3) := by decide +kernel
theorem dX4_init_44 : decode cX4_init 44 = .ok (.aload_n 0, 1) := by decide +kernel
theorem dX4_init_45 : decode cX4_init 45 = .ok (.iconst 0, 1) := by decide +kernel
theorem dX4_init_46 : decode cX4_init 46 = .ok (.putfield 27, 3) := by decide +kernel
theorem dX4_init_49 : decode cX4_init 49 = .ok (.aload_n 0, 1) := by decide +kernel
theorem dX4_init_50 : decode cX4_init 50 = .ok (.iconst 0, 1) := by decide +kernel
theorem dX4_init_51 : decode cX4_init 51 = .ok (.putfield 31, 3) := by decide +kernel
theorem dX4_init_54 : decode cX4_init 54 = .ok (.aload_n 0, 1) := by decide +kernel
theorem dX4_init_55 : decode cX4_init 55 = .ok (.iconst 0, 1) := by decide +kernel
theorem dX4_init_56 : decode cX4_init 56 = .ok (.putfield 34, 3) := by decide +kernel
theorem dX4_init_59 : decode cX4_init 59 = .ok (.aload_n 0, 1) := by decide +kernel
theorem dX4_init_60 : decode cX4_init 60 = .ok (.iconst 0, 1) := by decide +kernel
theorem dX4_init_61 : decode cX4_init 61 = .ok (.putfield 37, 3) := by decide +kernel
theorem dX4_init_64 : decode cX4_init 64 = .ok (.aload_n 0, 1) := by decide +kernel
theorem dX4_init_65 : decode cX4_init 65 = .ok (.iconst 0, 1) := by decide +kernel
theorem dX4_init_66 : decode cX4_init 66 = .ok (.putfield 40, 3) := by decide +kernel
theorem dX4_init_69 : decode cX4_init 69 = .ok (.return_, 1) := by decide +kernel
theorem dX4_clear_0 : decode cX4_clear 0 = .ok (.aload_n 0, 1) := by decide +kernel
theorem dX4_clear_1 : decode cX4_clear 1 = .ok (.iconst 0, 1) := by decide +kernel
theorem dX4_clear_2 : decode cX4_clear 2 = .ok (.putfield 27, 3) := by decide +kernel
theorem dX4_clear_5 : decode cX4_clear 5 = .ok (.aload_n 0, 1) := by decide +kernel
theorem dX4_clear_6 : decode cX4_clear 6 = .ok (.iconst 0, 1) := by decide +kernel
theorem dX4_clear_7 : decode cX4_clear 7 = .ok (.putfield 31, 3) := by decide +kernel
theorem dX4_clear_10 : decode cX4_clear 10 = .ok (.aload_n 0, 1) := by decide +kernel
theorem dX4_clear_11 : decode cX4_clear 11 = .ok (.iconst 0, 1) := by decide +kernel
theorem dX4_clear_12 : decode cX4_clear 12 = .ok (.putfield 34, 3) := by decide +kernel
theorem dX4_clear_15 : decode cX4_clear 15 = .ok (.aload_n 0, 1) := by decide +kernel
theorem dX4_clear_16 : decode cX4_clear 16 = .ok (.iconst 0, 1) := by decide +kernel
theorem dX4_clear_17 : decode cX4_clear 17 = .ok (.putfield 37, 3) := by decide +kernel
theorem dX4_clear_20 : decode cX4_clear 20 = .ok (.aload_n 0, 1) := by decide +kernel
theorem dX4_clear_21 : decode cX4_clear 21 = .ok (.iconst 0, 1) := by decide +kernel
theorem dX4_clear_22 : decode cX4_clear 22 = .ok (.putfield 40, 3) := by decide +kernel
theorem dX4_clear_25 : decode cX4_clear 25 = .ok (.return_, 1) := by decide +kernel
set_option maxHeartbeats 4000000 in
set_option maxRecDepth 100000 in
theorem c_X0_init (l : Launch) (D : va_G) (sz : Nat) (h0 : Nat) : Met l yX0_init (.code yX0_init cX0_init 1 none :: G) ({ frames := 2, cells := 1, slots := 960, locals := 40 }) (va_Pc [.ref h0] (pw D sz [(h0, .inr (0, [.null]))] [])) (va_Qv (fun (u : (Nat)) => True) (fun (u : (Nat)) => qw D (va_A [(h0, .inr (0, [.null]))] sz) [(h0, .inr (0, [.ref u]))] []) (va_A [(h0, .inr (0, [.null]))] sz)) 1 960 (va_A [(h0, .inr (0, [.null]))] sz) := by
  refine Met.ofW (cc := cX0_init) (maxL := 1) (ret := none) (by decide) rfl ?_
  intro p e s m args below meth c s₁ B hml hv
  obtain ⟨rfl, hsz, hP, hK, hD0, hN⟩ := hv
  have hx := B.exec
  have hb := B.bytes
  have hr := B.returns
  have hts := atoms_spec (ws := (.code yX0_init cX0_init 1 none :: G)) B.pre
  have hown : s.vm.findClass RX0 = some m.cls := findClass_of_methodNamed B.named
  have hlocks := B.notSynchronized
  have hin : meth.name = "<init>" := (name_of_methodNamed B.named B.method).1
  subst hsz
  have hD := hD0.self (sz := s.heap.size)
  generalize hAe : va_A [(h0, .inr (0, [.null]))] s.heap.size = A at hD ⊢
  have hA : ∀ q : Nat, s.heap.size ≤ q → A q := fun q h => by rw [← hAe]; exact Or.inr h
  have hS : va_S A s.heap s.heap [] := va_S.rf
  have hP : va_P D vwCl [(h0, .inr (0, [.null]))] s.heap := hP
  have hl := lv_entry ([.ref h0]) (n := 1) (Nat.le_of_ble_eq_true rfl)
  rw [lg_entry_eq]
  generalize (lg_sl ([.ref h0]) ++ List.replicate (1 - (lg_sl ([.ref h0])).length) Slot.unset).toArray = ls at hl ⊢
  have hl : lv_has ls 1 [(0, .ref h0)] := hl
  refine lv_aload_n hx hb dX0_init_0 rfl (lv_at hl 0 rfl) ?_
  refine W.objInit hx hb hown (hts _ (List.mem_cons_of_mem _ gw_11)) (hts _ (List.mem_cons_of_mem _ gw_12)) (hts _ (List.mem_cons_of_mem _ gw_13)) rfl (by rw [hml]; exact hl.1) rfl dX0_init_1 (Nat.le_of_ble_eq_true rfl) (Nat.le_of_ble_eq_true rfl) ?_
  refine W.eq (g2 := F0 m 4 ls []) rfl ?_
  refine lv_aload_n hx hb dX0_init_4 rfl (lv_at hl 0 rfl) ?_
  refine lv_sipush (v := 960) hx hb dX0_init_5 (by decide) ?_
  refine va_newa (atype := .int) (ty := .int) (N' := 960) (a0 := (960, .inl (fun _ => 0))) hx hb (hts _ (List.mem_cons_of_mem _ gw_14)) rfl hK hP hD hS hA (fun _ => rfl) (by decide) (by decide +kernel) (by decide) (Nat.le_of_ble_eq_true rfl) (Nat.le_of_ble_eq_true rfl) dX0_init_8 (fun q_1 cA_2 H hK hP hD hS => ?_)
  have hP : va_P D vwCl [(h0, .inr (0, [.null])), (q_1, .inl (cA_2, 960, .inl (fun _ => 0)))] H := hP
  have hD : va_D A [(h0, .inr (0, [.null])), (q_1, .inl (cA_2, 960, .inl (fun _ => 0)))] := hD
  have hK : va_K D vwCl [(cA_2, .int)] s := hK
  refine W.widen (k := 1) (n := 960) (Nat.le_of_ble_eq_true rfl) (Nat.le_of_ble_eq_true rfl) ?_
  refine va_putF (D := D) (ci := 0) (v := .ref q_1) (ty := .array .int) (C := RX0) (T := TX0) (N := 1) hx hb hts (fun w h => List.mem_cons_of_mem _ (inG0 w h)) tyX0 tyX0_ok nmX0 hown hK hP hD hS 0 rfl rfl 0 (by decide) (hts _ (List.mem_cons_of_mem _ gw_15)) (fun _ h9 => h9) rfl hin rfl (by decide +kernel) rfl rfl (Nat.le_of_ble_eq_true rfl) dX0_init_10 (fun H locs hP hD hS => ?_)
  have hP : va_P D vwCl [(h0, .inr (0, [.ref q_1])), (q_1, .inl (cA_2, 960, .inl (fun _ => 0)))] H := hP
  have hD : va_D A [(h0, .inr (0, [.ref q_1])), (q_1, .inl (cA_2, 960, .inl (fun _ => 0)))] := hD
  have hP9 := hP.sub (ws' := [(h0, .inr (0, [.ref q_1]))]) [0] rfl
  have hD9 := hD.sub (ws' := [(h0, .inr (0, [.ref q_1]))]) [0] (by decide) rfl
  have hK9 := hK.sub (tys' := []) [] rfl
  refine W.widen (k := 1) (n := 960) (Nat.le_of_ble_eq_true rfl) (Nat.le_of_ble_eq_true rfl) ?_
  exact W.vret hx hb hr (fun t ht hW => ⟨⟨(q_1), rfl, (by first | trivial | rfl), by rw [ht]; exact hP9, va_K.moved hW.alike hK9, hD9⟩, hS.F ht⟩) hS.2.2 dX0_init_13
set_option maxHeartbeats 4000000 in
set_option maxRecDepth 100000 in
theorem c_X3_init (l : Launch) (D : va_G) (sz : Nat) (h0 : Nat) (x0 : Int32) (x1 : Int32) (x2 : Int32) (x3 : Int32) (x4 : Int32) : Met l yX3_init (.code yX3_init cX3_init 6 none :: G) ({ frames := 2, cells := 0, slots := 0, locals := 40 }) (va_Pc [.ref h0, .int x0, .int x1, .int x2, .int x3, .int x4] (pw D sz [(h0, .inr (3, [.int 0, .int 0, .int 0, .int 0, .int 0, .int 0, .int 0, .int 0, .int 0, .int 0, .int 0, .int 0, .int 0]))] [])) (va_Qv (fun (u : Unit) => True) (fun (u : Unit) => qw D (va_A [(h0, .inr (3, [.int 0, .int 0, .int 0, .int 0, .int 0, .int 0, .int 0, .int 0, .int 0, .int 0, .int 0, .int 0, .int 0]))] sz) [(h0, .inr (3, [.int x0, .int x2, .int x3, .int x4, .int x1, .int 0, .int 0, .int 0, .int 0, .int 0, .int 0, .int 0, .int 0]))] []) (va_A [(h0, .inr (3, [.int 0, .int 0, .int 0, .int 0, .int 0, .int 0, .int 0, .int 0, .int 0, .int 0, .int 0, .int 0, .int 0]))] sz)) 0 0 (va_A [(h0, .inr (3, [.int 0, .int 0, .int 0, .int 0, .int 0, .int 0, .int 0, .int 0, .int 0, .int 0, .int 0, .int 0, .int 0]))] sz) := by
  refine Met.ofW (cc := cX3_init) (maxL := 6) (ret := none) (by decide) rfl ?_
  intro p e s m args below meth c s₁ B hml hv
  obtain ⟨rfl, hsz, hP, hK, hD0, hN⟩ := hv
  have hx := B.exec
  have hb := B.bytes
  have hr := B.returns
  have hts := atoms_spec (ws := (.code yX3_init cX3_init 6 none :: G)) B.pre
  have hown : s.vm.findClass RX3 = some m.cls := findClass_of_methodNamed B.named
  have hlocks := B.notSynchronized
  have hin : meth.name = "<init>" := (name_of_methodNamed B.named B.method).1
  subst hsz
  have hD := hD0.self (sz := s.heap.size)
  generalize hAe : va_A [(h0, .inr (3, [.int 0, .int 0, .int 0, .int 0, .int 0, .int 0, .int 0, .int 0, .int 0, .int 0, .int 0, .int 0, .int 0]))] s.heap.size = A at hD ⊢
  have hA : ∀ q : Nat, s.heap.size ≤ q → A q := fun q h => by rw [← hAe]; exact Or.inr h
  have hS : va_S A s.heap s.heap [] := va_S.rf
  have hP : va_P D vwCl [(h0, .inr (3, [.int 0, .int 0, .int 0, .int 0, .int 0, .int 0, .int 0, .int 0, .int 0, .int 0, .int 0, .int 0, .int 0]))] s.heap := hP
  have hl := lv_entry ([.ref h0, .int x0, .int x1, .int x2, .int x3, .int x4]) (n := 6) (Nat.le_of_ble_eq_true rfl)
  rw [lg_entry_eq]
  generalize (lg_sl ([.ref h0, .int x0, .int x1, .int x2, .int x3, .int x4]) ++ List.replicate (6 - (lg_sl ([.ref h0, .int x0, .int x1, .int x2, .int x3, .int x4])).length) Slot.unset).toArray = ls at hl ⊢
  have hl : lv_has ls 6 [(0, .ref h0), (1, .int x0), (2, .int x1), (3, .int x2), (4, .int x3), (5, .int x4)] := hl
  refine lv_aload_n hx hb dX3_init_0 rfl (lv_at hl 0 rfl) ?_
  refine W.objInit hx hb hown (hts _ (List.mem_cons_of_mem _ gw_16)) (hts _ (List.mem_cons_of_mem _ gw_12)) (hts _ (List.mem_cons_of_mem _ gw_13)) rfl (by rw [hml]; exact hl.1) rfl dX3_init_1 (Nat.le_of_ble_eq_true rfl) (Nat.le_of_ble_eq_true rfl) ?_
  refine W.eq (g2 := F0 m 4 ls []) rfl ?_
  refine lv_aload_n hx hb dX3_init_4 rfl (lv_at hl 0 rfl) ?_
  refine lv_iconst (v := 0) hx hb dX3_init_5 (by decide) ?_
  refine va_put (D := D) (ci := 3) (v := .int 0) (ty := .int) (C := RX3) (T := TX3) (N := 13) hx hb hts (fun w h => List.mem_cons_of_mem _ (inG3 w h)) tyX3 tyX3_ok nmX3 hown hK hP hD hS 0 rfl rfl 5 (by decide) (hts _ (List.mem_cons_of_mem _ gw_17)) (fun _ h9 => h9) rfl (by decide +kernel) rfl rfl (Nat.le_of_ble_eq_true rfl) dX3_init_6 (fun H locs hP hD hS => ?_)
  have hP : va_P D vwCl [(h0, .inr (3, [.int 0, .int 0, .int 0, .int 0, .int 0, .int 0, .int 0, .int 0, .int 0, .int 0, .int 0, .int 0, .int 0]))] H := hP
  have hD : va_D A [(h0, .inr (3, [.int 0, .int 0, .int 0, .int 0, .int 0, .int 0, .int 0, .int 0, .int 0, .int 0, .int 0, .int 0, .int 0]))] := hD
  refine lv_aload_n hx hb dX3_init_9 rfl (lv_at hl 0 rfl) ?_
  refine lv_iconst (v := 0) hx hb dX3_init_10 (by decide) ?_
  refine va_put (D := D) (ci := 3) (v := .int 0) (ty := .int) (C := RX3) (T := TX3) (N := 13) hx hb hts (fun w h => List.mem_cons_of_mem _ (inG3 w h)) tyX3 tyX3_ok nmX3 hown hK hP hD hS 0 rfl rfl 6 (by decide) (hts _ (List.mem_cons_of_mem _ gw_18)) (fun _ h9 => h9) rfl (by decide +kernel) rfl rfl (Nat.le_of_ble_eq_true rfl) dX3_init_11 (fun H locs hP hD hS => ?_)
  have hP : va_P D vwCl [(h0, .inr (3, [.int 0, .int 0, .int 0, .int 0, .int 0, .int 0, .int 0, .int 0, .int 0, .int 0, .int 0, .int 0, .int 0]))] H := hP
  have hD : va_D A [(h0, .inr (3, [.int 0, .int 0, .int 0, .int 0, .int 0, .int 0, .int 0, .int 0, .int 0, .int 0, .int 0, .int 0, .int 0]))] := hD
  refine lv_aload_n hx hb dX3_init_14 rfl (lv_at hl 0 rfl) ?_
  refine lv_iconst (v := 0) hx hb dX3_init_15 (by decide) ?_
  refine va_put (D := D) (ci := 3) (v := .int 0) (ty := .int) (C := RX3) (T := TX3) (N := 13) hx hb hts (fun w h => List.mem_cons_of_mem _ (inG3 w h)) tyX3 tyX3_ok nmX3 hown hK hP hD hS 0 rfl rfl 7 (by decide) (hts _ (List.mem_cons_of_mem _ gw_19)) (fun _ h9 => h9) rfl (by decide +kernel) rfl rfl (Nat.le_of_ble_eq_true rfl) dX3_init_16 (fun H locs hP hD hS => ?_)
  have hP : va_P D vwCl [(h0, .inr (3, [.int 0, .int 0, .int 0, .int 0, .int 0, .int 0, .int 0, .int 0, .int 0, .int 0, .int 0, .int 0, .int 0]))] H := hP
  have hD : va_D A [(h0, .inr (3, [.int 0, .int 0, .int 0, .int 0, .int 0, .int 0, .int 0, .int 0, .int 0, .int 0, .int 0, .int 0, .int 0]))] := hD
  refine lv_aload_n hx hb dX3_init_19 rfl (lv_at hl 0 rfl) ?_
  refine lv_iconst (v := 0) hx hb dX3_init_20 (by decide) ?_
  refine va_put (D := D) (ci := 3) (v := .int 0) (ty := .int) (C := RX3) (T := TX3) (N := 13) hx hb hts (fun w h => List.mem_cons_of_mem _ (inG3 w h)) tyX3 tyX3_ok nmX3 hown hK hP hD hS 0 rfl rfl 8 (by decide) (hts _ (List.mem_cons_of_mem _ gw_20)) (fun _ h9 => h9) rfl (by decide +kernel) rfl rfl (Nat.le_of_ble_eq_true rfl) dX3_init_21 (fun H locs hP hD hS => ?_)
  have hP : va_P D vwCl [(h0, .inr (3, [.int 0, .int 0, .int 0, .int 0, .int 0, .int 0, .int 0, .int 0, .int 0, .int 0, .int 0, .int 0, .int 0]))] H := hP
  have hD : va_D A [(h0, .inr (3, [.int 0, .int 0, .int 0, .int 0, .int 0, .int 0, .int 0, .int 0, .int 0, .int 0, .int 0, .int 0, .int 0]))] := hD
  refine lv_aload_n hx hb dX3_init_24 rfl (lv_at hl 0 rfl) ?_
  refine lv_iconst (v := 0) hx hb dX3_init_25 (by decide) ?_
  refine va_put (D := D) (ci := 3) (v := .int 0) (ty := .boolean) (C := RX3) (T := TX3) (N := 13) hx hb hts (fun w h => List.mem_cons_of_mem _ (inG3 w h)) tyX3 tyX3_ok nmX3 hown hK hP hD hS 0 rfl rfl 9 (by decide) (hts _ (List.mem_cons_of_mem _ gw_21)) (fun _ h9 => h9) rfl (by decide +kernel) rfl rfl (Nat.le_of_ble_eq_true rfl) dX3_init_26 (fun H locs hP hD hS => ?_)
  have hP : va_P D vwCl [(h0, .inr (3, [.int 0, .int 0, .int 0, .int 0, .int 0, .int 0, .int 0, .int 0, .int 0, .int 0, .int 0, .int 0, .int 0]))] H := hP
  have hD : va_D A [(h0, .inr (3, [.int 0, .int 0, .int 0, .int 0, .int 0, .int 0, .int 0, .int 0, .int 0, .int 0, .int 0, .int 0, .int 0]))] := hD
  refine lv_aload_n hx hb dX3_init_29 rfl (lv_at hl 0 rfl) ?_
  refine lv_iconst (v := 0) hx hb dX3_init_30 (by decide) ?_
  refine va_put (D := D) (ci := 3) (v := .int 0) (ty := .int) (C := RX3) (T := TX3) (N := 13) hx hb hts (fun w h => List.mem_cons_of_mem _ (inG3 w h)) tyX3 tyX3_ok nmX3 hown hK hP hD hS 0 rfl rfl 10 (by decide) (hts _ (List.mem_cons_of_mem _ gw_22)) (fun _ h9 => h9) rfl (by decide +kernel) rfl rfl (Nat.le_of_ble_eq_true rfl) dX3_init_31 (fun H locs hP hD hS => ?_)
  have hP : va_P D vwCl [(h0, .inr (3, [.int 0, .int 0, .int 0, .int 0, .int 0, .int 0, .int 0, .int 0, .int 0, .int 0, .int 0, .int 0, .int 0]))] H := hP
  have hD : va_D A [(h0, .inr (3, [.int 0, .int 0, .int 0, .int 0, .int 0, .int 0, .int 0, .int 0, .int 0, .int 0, .int 0, .int 0, .int 0]))] := hD
  refine lv_aload_n hx hb dX3_init_34 rfl (lv_at hl 0 rfl) ?_
  refine lv_iconst (v := 0) hx hb dX3_init_35 (by decide) ?_
  refine va_put (D := D) (ci := 3) (v := .int 0) (ty := .int) (C := RX3) (T := TX3) (N := 13) hx hb hts (fun w h => List.mem_cons_of_mem _ (inG3 w h)) tyX3 tyX3_ok nmX3 hown hK hP hD hS 0 rfl rfl 11 (by decide) (hts _ (List.mem_cons_of_mem _ gw_23)) (fun _ h9 => h9) rfl (by decide +kernel) rfl rfl (Nat.le_of_ble_eq_true rfl) dX3_init_36 (fun H locs hP hD hS => ?_)
  have hP : va_P D vwCl [(h0, .inr (3, [.int 0, .int 0, .int 0, .int 0, .int 0, .int 0, .int 0, .int 0, .int 0, .int 0, .int 0, .int 0, .int 0]))] H := hP
  have hD : va_D A [(h0, .inr (3, [.int 0, .int 0, .int 0, .int 0, .int 0, .int 0, .int 0, .int 0, .int 0, .int 0, .int 0, .int 0, .int 0]))] := hD
  refine lv_aload_n hx hb dX3_init_39 rfl (lv_at hl 0 rfl) ?_
  refine lv_iconst (v := 0) hx hb dX3_init_40 (by decide) ?_
  refine va_put (D := D) (ci := 3) (v := .int 0) (ty := .int) (C := RX3) (T := TX3) (N := 13) hx hb hts (fun w h => List.mem_cons_of_mem _ (inG3 w h)) tyX3 tyX3_ok nmX3 hown hK hP hD hS 0 rfl rfl 12 (by decide) (hts _ (List.mem_cons_of_mem _ gw_24)) (fun _ h9 => h9) rfl (by decide +kernel) rfl rfl (Nat.le_of_ble_eq_true rfl) dX3_init_41 (fun H locs hP hD hS => ?_)
  have hP : va_P D vwCl [(h0, .inr (3, [.int 0, .int 0, .int 0, .int 0, .int 0, .int 0, .int 0, .int 0, .int 0, .int 0, .int 0, .int 0, .int 0]))] H := hP
  have hD : va_D A [(h0, .inr (3, [.int 0, .int 0, .int 0, .int 0, .int 0, .int 0, .int 0, .int 0, .int 0, .int 0, .int 0, .int 0, .int 0]))] := hD
  refine lv_aload_n hx hb dX3_init_44 rfl (lv_at hl 0 rfl) ?_
  refine lv_iload_n hx hb dX3_init_45 rfl (lv_at hl 1 rfl) ?_
  refine va_putF (D := D) (ci := 3) (v := .int x0) (ty := .int) (C := RX3) (T := TX3) (N := 13) hx hb hts (fun w h => List.mem_cons_of_mem _ (inG3 w h)) tyX3 tyX3_ok nmX3 hown hK hP hD hS 0 rfl rfl 0 (by decide) (hts _ (List.mem_cons_of_mem _ gw_25)) (fun _ h9 => h9) rfl hin rfl (by decide +kernel) rfl rfl (Nat.le_of_ble_eq_true rfl) dX3_init_46 (fun H locs hP hD hS => ?_)
  have hP : va_P D vwCl [(h0, .inr (3, [.int x0, .int 0, .int 0, .int 0, .int 0, .int 0, .int 0, .int 0, .int 0, .int 0, .int 0, .int 0, .int 0]))] H := hP
  have hD : va_D A [(h0, .inr (3, [.int x0, .int 0, .int 0, .int 0, .int 0, .int 0, .int 0, .int 0, .int 0, .int 0, .int 0, .int 0, .int 0]))] := hD
  refine lv_aload_n hx hb dX3_init_49 rfl (lv_at hl 0 rfl) ?_
  refine lv_iload_n hx hb dX3_init_50 rfl (lv_at hl 2 rfl) ?_
  refine va_put (D := D) (ci := 3) (v := .int x1) (ty := .int) (C := RX3) (T := TX3) (N := 13) hx hb hts (fun w h => List.mem_cons_of_mem _ (inG3 w h)) tyX3 tyX3_ok nmX3 hown hK hP hD hS 0 rfl rfl 4 (by decide) (hts _ (List.mem_cons_of_mem _ gw_26)) (fun _ h9 => h9) rfl (by decide +kernel) rfl rfl (Nat.le_of_ble_eq_true rfl) dX3_init_51 (fun H locs hP hD hS => ?_)
  have hP : va_P D vwCl [(h0, .inr (3, [.int x0, .int 0, .int 0, .int 0, .int x1, .int 0, .int 0, .int 0, .int 0, .int 0, .int 0, .int 0, .int 0]))] H := hP
  have hD : va_D A [(h0, .inr (3, [.int x0, .int 0, .int 0, .int 0, .int x1, .int 0, .int 0, .int 0, .int 0, .int 0, .int 0, .int 0, .int 0]))] := hD
  refine lv_aload_n hx hb dX3_init_54 rfl (lv_at hl 0 rfl) ?_
  refine lv_iload_n hx hb dX3_init_55 rfl (lv_at hl 3 rfl) ?_
  refine va_putF (D := D) (ci := 3) (v := .int x2) (ty := .int) (C := RX3) (T := TX3) (N := 13) hx hb hts (fun w h => List.mem_cons_of_mem _ (inG3 w h)) tyX3 tyX3_ok nmX3 hown hK hP hD hS 0 rfl rfl 1 (by decide) (hts _ (List.mem_cons_of_mem _ gw_27)) (fun _ h9 => h9) rfl hin rfl (by decide +kernel) rfl rfl (Nat.le_of_ble_eq_true rfl) dX3_init_56 (fun H locs hP hD hS => ?_)
  have hP : va_P D vwCl [(h0, .inr (3, [.int x0, .int x2, .int 0, .int 0, .int x1, .int 0, .int 0, .int 0, .int 0, .int 0, .int 0, .int 0, .int 0]))] H := hP
  have hD : va_D A [(h0, .inr (3, [.int x0, .int x2, .int 0, .int 0, .int x1, .int 0, .int 0, .int 0, .int 0, .int 0, .int 0, .int 0, .int 0]))] := hD
  refine lv_aload_n hx hb dX3_init_59 rfl (lv_at hl 0 rfl) ?_
  refine lv_iload hx hb dX3_init_60 (lv_at hl 4 rfl) ?_
  refine va_putF (D := D) (ci := 3) (v := .int x3) (ty := .int) (C := RX3) (T := TX3) (N := 13) hx hb hts (fun w h => List.mem_cons_of_mem _ (inG3 w h)) tyX3 tyX3_ok nmX3 hown hK hP hD hS 0 rfl rfl 2 (by decide) (hts _ (List.mem_cons_of_mem _ gw_28)) (fun _ h9 => h9) rfl hin rfl (by decide +kernel) rfl rfl (Nat.le_of_ble_eq_true rfl) dX3_init_62 (fun H locs hP hD hS => ?_)
  have hP : va_P D vwCl [(h0, .inr (3, [.int x0, .int x2, .int x3, .int 0, .int x1, .int 0, .int 0, .int 0, .int 0, .int 0, .int 0, .int 0, .int 0]))] H := hP
  have hD : va_D A [(h0, .inr (3, [.int x0, .int x2, .int x3, .int 0, .int x1, .int 0, .int 0, .int 0, .int 0, .int 0, .int 0, .int 0, .int 0]))] := hD
  refine lv_aload_n hx hb dX3_init_65 rfl (lv_at hl 0 rfl) ?_
  refine lv_iload hx hb dX3_init_66 (lv_at hl 5 rfl) ?_
  refine va_putF (D := D) (ci := 3) (v := .int x4) (ty := .int) (C := RX3) (T := TX3) (N := 13) hx hb hts (fun w h => List.mem_cons_of_mem _ (inG3 w h)) tyX3 tyX3_ok nmX3 hown hK hP hD hS 0 rfl rfl 3 (by decide) (hts _ (List.mem_cons_of_mem _ gw_29)) (fun _ h9 => h9) rfl hin rfl (by decide +kernel) rfl rfl (Nat.le_of_ble_eq_true rfl) dX3_init_68 (fun H locs hP hD hS => ?_)
  have hP : va_P D vwCl [(h0, .inr (3, [.int x0, .int x2, .int x3, .int x4, .int x1, .int 0, .int 0, .int 0, .int 0, .int 0, .int 0, .int 0, .int 0]))] H := hP
  have hD : va_D A [(h0, .inr (3, [.int x0, .int x2, .int x3, .int x4, .int x1, .int 0, .int 0, .int 0, .int 0, .int 0, .int 0, .int 0, .int 0]))] := hD
  have hP9 := hP.sub (ws' := [(h0, .inr (3, [.int x0, .int x2, .int x3, .int x4, .int x1, .int 0, .int 0, .int 0, .int 0, .int 0, .int 0, .int 0, .int 0]))]) [0] rfl
  have hD9 := hD.sub (ws' := [(h0, .inr (3, [.int x0, .int x2, .int x3, .int x4, .int x1, .int 0, .int 0, .int 0, .int 0, .int 0, .int 0, .int 0, .int 0]))]) [0] (by decide) rfl
  have hK9 := hK.sub (tys' := []) [] rfl
  refine W.widen (k := 0) (n := 0) (Nat.le_of_ble_eq_true rfl) (Nat.le_of_ble_eq_true rfl) ?_
  exact W.vret hx hb hr (fun t ht hW => ⟨⟨(), rfl, (by first | trivial | rfl), by rw [ht]; exact hP9, va_K.moved hW.alike hK9, hD9⟩, hS.F ht⟩) hS.2.2 dX3_init_71
set_option maxHeartbeats 4000000 in
set_option maxRecDepth 100000 in
theorem c_X2_init (l : Launch) (D : va_G) (sz : Nat) (h0 : Nat) : Met l yX2_init (.code yX2_init cX2_init 1 none :: G) ({ frames := 2, cells := 3, slots := 96, locals := 40 }) (va_Pc [.ref h0] (pw D sz [(h0, .inr (2, [.null, .null, .null]))] [])) (va_Qv (fun (u : Unit) => True) (fun (u : Unit) => qw D (va_A [(h0, .inr (2, [.null, .null, .null]))] sz) [] []) (va_A [(h0, .inr (2, [.null, .null, .null]))] sz)) 3 96 (va_A [(h0, .inr (2, [.null, .null, .null]))] sz) := by
  refine Met.ofW (cc := cX2_init) (maxL := 1) (ret := none) (by decide) rfl ?_
  intro p e s m args below meth c s₁ B hml hv
  obtain ⟨rfl, hsz, hP, hK, hD0, hN⟩ := hv
  have hx := B.exec
  have hb := B.bytes
  have hr := B.returns
  have hts := atoms_spec (ws := (.code yX2_init cX2_init 1 none :: G)) B.pre
  have hown : s.vm.findClass RX2 = some m.cls := findClass_of_methodNamed B.named
  have hlocks := B.notSynchronized
  have hin : meth.name = "<init>" := (name_of_methodNamed B.named B.method).1
  subst hsz
  have hD := hD0.self (sz := s.heap.size)
  generalize hAe : va_A [(h0, .inr (2, [.null, .null, .null]))] s.heap.size = A at hD ⊢
  have hA : ∀ q : Nat, s.heap.size ≤ q → A q := fun q h => by rw [← hAe]; exact Or.inr h
  have hS : va_S A s.heap s.heap [] := va_S.rf
  have hP : va_P D vwCl [(h0, .inr (2, [.null, .null, .null]))] s.heap := hP
  have hl := lv_entry ([.ref h0]) (n := 1) (Nat.le_of_ble_eq_true rfl)
  rw [lg_entry_eq]
  generalize (lg_sl ([.ref h0]) ++ List.replicate (1 - (lg_sl ([.ref h0])).length) Slot.unset).toArray = ls at hl ⊢
  have hl : lv_has ls 1 [(0, .ref h0)] := hl
  refine lv_aload_n hx hb dX2_init_0 rfl (lv_at hl 0 rfl) ?_
  refine W.objInit hx hb hown (hts _ (List.mem_cons_of_mem _ gw_30)) (hts _ (List.mem_cons_of_mem _ gw_12)) (hts _ (List.mem_cons_of_mem _ gw_13)) rfl (by rw [hml]; exact hl.1) rfl dX2_init_1 (Nat.le_of_ble_eq_true rfl) (Nat.le_of_ble_eq_true rfl) ?_
  refine W.eq (g2 := F0 m 4 ls []) rfl ?_
  refine lv_aload_n hx hb dX2_init_4 rfl (lv_at hl 0 rfl) ?_
  refine lv_bipush (v := 32) hx hb dX2_init_5 (by decide) ?_
  refine va_newa (atype := .int) (ty := .int) (N' := 32) (a0 := (32, .inl (fun _ => 0))) hx hb (hts _ (List.mem_cons_of_mem _ gw_14)) rfl hK hP hD hS hA (fun _ => rfl) (by decide) (by decide +kernel) (by decide) (Nat.le_of_ble_eq_true rfl) (Nat.le_of_ble_eq_true rfl) dX2_init_7 (fun q_1 cA_2 H hK hP hD hS => ?_)
  have hP : va_P D vwCl [(h0, .inr (2, [.null, .null, .null])), (q_1, .inl (cA_2, 32, .inl (fun _ => 0)))] H := hP
  have hD : va_D A [(h0, .inr (2, [.null, .null, .null])), (q_1, .inl (cA_2, 32, .inl (fun _ => 0)))] := hD
  have hK : va_K D vwCl [(cA_2, .int)] s := hK
  refine W.widen (k := 1) (n := 32) (Nat.le_of_ble_eq_true rfl) (Nat.le_of_ble_eq_true rfl) ?_
  refine va_putF (D := D) (ci := 2) (v := .ref q_1) (ty := .array .int) (C := RX2) (T := TX2) (N := 3) hx hb hts (fun w h => List.mem_cons_of_mem _ (inG2 w h)) tyX2 tyX2_ok nmX2 hown hK hP hD hS 0 rfl rfl 0 (by decide) (hts _ (List.mem_cons_of_mem _ gw_31)) (fun _ h9 => h9) rfl hin rfl (by decide +kernel) rfl rfl (Nat.le_of_ble_eq_true rfl) dX2_init_9 (fun H locs hP hD hS => ?_)
  have hP : va_P D vwCl [(h0, .inr (2, [.ref q_1, .null, .null])), (q_1, .inl (cA_2, 32, .inl (fun _ => 0)))] H := hP
  have hD : va_D A [(h0, .inr (2, [.ref q_1, .null, .null])), (q_1, .inl (cA_2, 32, .inl (fun _ => 0)))] := hD
  refine lv_aload_n hx hb dX2_init_12 rfl (lv_at hl 0 rfl) ?_
  refine lv_bipush (v := 32) hx hb dX2_init_13 (by decide) ?_
  refine va_newa (atype := .int) (ty := .int) (N' := 32) (a0 := (32, .inl (fun _ => 0))) hx hb (hts _ (List.mem_cons_of_mem _ gw_14)) rfl hK hP hD hS hA (fun _ => rfl) (by decide) (by decide +kernel) (by decide) (Nat.le_of_ble_eq_true rfl) (Nat.le_of_ble_eq_true rfl) dX2_init_15 (fun q_3 cA_4 H hK hP hD hS => ?_)
  have hP : va_P D vwCl [(h0, .inr (2, [.ref q_1, .null, .null])), (q_1, .inl (cA_2, 32, .inl (fun _ => 0))), (q_3, .inl (cA_4, 32, .inl (fun _ => 0)))] H := hP
  have hD : va_D A [(h0, .inr (2, [.ref q_1, .null, .null])), (q_1, .inl (cA_2, 32, .inl (fun _ => 0))), (q_3, .inl (cA_4, 32, .inl (fun _ => 0)))] := hD
  have hK : va_K D vwCl [(cA_2, .int), (cA_4, .int)] s := hK
  refine W.widen (k := 2) (n := 64) (Nat.le_of_ble_eq_true rfl) (Nat.le_of_ble_eq_true rfl) ?_
  refine va_putF (D := D) (ci := 2) (v := .ref q_3) (ty := .array .int) (C := RX2) (T := TX2) (N := 3) hx hb hts (fun w h => List.mem_cons_of_mem _ (inG2 w h)) tyX2 tyX2_ok nmX2 hown hK hP hD hS 0 rfl rfl 1 (by decide) (hts _ (List.mem_cons_of_mem _ gw_32)) (fun _ h9 => h9) rfl hin rfl (by decide +kernel) rfl rfl (Nat.le_of_ble_eq_true rfl) dX2_init_17 (fun H locs hP hD hS => ?_)
  have hP : va_P D vwCl [(h0, .inr (2, [.ref q_1, .ref q_3, .null])), (q_1, .inl (cA_2, 32, .inl (fun _ => 0))), (q_3, .inl (cA_4, 32, .inl (fun _ => 0)))] H := hP
  have hD : va_D A [(h0, .inr (2, [.ref q_1, .ref q_3, .null])), (q_1, .inl (cA_2, 32, .inl (fun _ => 0))), (q_3, .inl (cA_4, 32, .inl (fun _ => 0)))] := hD
  refine lv_aload_n hx hb dX2_init_20 rfl (lv_at hl 0 rfl) ?_
  refine lv_bipush (v := 32) hx hb dX2_init_21 (by decide) ?_
  refine va_newa (atype := .int) (ty := .int) (N' := 32) (a0 := (32, .inl (fun _ => 0))) hx hb (hts _ (List.mem_cons_of_mem _ gw_14)) rfl hK hP hD hS hA (fun _ => rfl) (by decide) (by decide +kernel) (by decide) (Nat.le_of_ble_eq_true rfl) (Nat.le_of_ble_eq_true rfl) dX2_init_23 (fun q_5 cA_6 H hK hP hD hS => ?_)
  have hP : va_P D vwCl [(h0, .inr (2, [.ref q_1, .ref q_3, .null])), (q_1, .inl (cA_2, 32, .inl (fun _ => 0))), (q_3, .inl (cA_4, 32, .inl (fun _ => 0))), (q_5, .inl (cA_6, 32, .inl (fun _ => 0)))] H := hP
  have hD : va_D A [(h0, .inr (2, [.ref q_1, .ref q_3, .null])), (q_1, .inl (cA_2, 32, .inl (fun _ => 0))), (q_3, .inl (cA_4, 32, .inl (fun _ => 0))), (q_5, .inl (cA_6, 32, .inl (fun _ => 0)))] := hD
  have hK : va_K D vwCl [(cA_2, .int), (cA_4, .int), (cA_6, .int)] s := hK
  refine W.widen (k := 3) (n := 96) (Nat.le_of_ble_eq_true rfl) (Nat.le_of_ble_eq_true rfl) ?_
  refine va_putF (D := D) (ci := 2) (v := .ref q_5) (ty := .array .int) (C := RX2) (T := TX2) (N := 3) hx hb hts (fun w h => List.mem_cons_of_mem _ (inG2 w h)) tyX2 tyX2_ok nmX2 hown hK hP hD hS 0 rfl rfl 2 (by decide) (hts _ (List.mem_cons_of_mem _ gw_33)) (fun _ h9 => h9) rfl hin rfl (by decide +kernel) rfl rfl (Nat.le_of_ble_eq_true rfl) dX2_init_25 (fun H locs hP hD hS => ?_)
  have hP : va_P D vwCl [(h0, .inr (2, [.ref q_1, .ref q_3, .ref q_5])), (q_1, .inl (cA_2, 32, .inl (fun _ => 0))), (q_3, .inl (cA_4, 32, .inl (fun _ => 0))), (q_5, .inl (cA_6, 32, .inl (fun _ => 0)))] H := hP
  have hD : va_D A [(h0, .inr (2, [.ref q_1, .ref q_3, .ref q_5])), (q_1, .inl (cA_2, 32, .inl (fun _ => 0))), (q_3, .inl (cA_4, 32, .inl (fun _ => 0))), (q_5, .inl (cA_6, 32, .inl (fun _ => 0)))] := hD
  have hP9 := hP.sub (ws' := []) [] rfl
  have hD9 := hD.sub (ws' := []) [] (by decide) rfl
  have hK9 := hK.sub (tys' := []) [] rfl
  refine W.widen (k := 3) (n := 96) (Nat.le_of_ble_eq_true rfl) (Nat.le_of_ble_eq_true rfl) ?_
  exact W.vret hx hb hr (fun t ht hW => ⟨⟨(), rfl, (by first | trivial | rfl), by rw [ht]; exact hP9, va_K.moved hW.alike hK9, hD9⟩, hS.F ht⟩) hS.2.2 dX2_init_28
set_option maxHeartbeats 4000000 in
set_option maxRecDepth 100000 in
theorem c_X6_init (l : Launch) (D : va_G) (sz : Nat) (h0 : Nat) : Met l yX6_init (.code yX6_init cX6_init 1 none :: G) ({ frames := 2, cells := 6, slots := 72, locals := 40 }) (va_Pc [.ref h0] (pw D sz [(h0, .inr (6, [.null, .null, .null, .null, .null, .null, .int 0, .int 0]))] [])) (va_Qv (fun (u : (Nat) × (Nat) × (Nat) × (Nat) × (Nat) × (Nat) × (ClassId) × (ClassId)) => True) (fun (u : (Nat) × (Nat) × (Nat) × (Nat) × (Nat) × (Nat) × (ClassId) × (ClassId)) => qw D (va_A [(h0, .inr (6, [.null, .null, .null, .null, .null, .null, .int 0, .int 0]))] sz) [(h0, .inr (6, [.ref u.1, .ref u.2.1, .ref u.2.2.1, .ref u.2.2.2.1, .ref u.2.2.2.2.1, .ref u.2.2.2.2.2.1, .int 0, .int 0])), (u.1, .inl (u.2.2.2.2.2.2.1, 12, .inl (fun _ => 0))), (u.2.1, .inl (u.2.2.2.2.2.2.2, 12, .inl (fun _ => 0)))] [(u.2.2.2.2.2.2.1, .int), (u.2.2.2.2.2.2.2, .int)]) (va_A [(h0, .inr (6, [.null, .null, .null, .null, .null, .null, .int 0, .int 0]))] sz)) 6 72 (va_A [(h0, .inr (6, [.null, .null, .null, .null, .null, .null, .int 0, .int 0]))] sz) := by
  refine Met.ofW (cc := cX6_init) (maxL := 1) (ret := none) (by decide) rfl ?_
  intro p e s m args below meth c s₁ B hml hv
  obtain ⟨rfl, hsz, hP, hK, hD0, hN⟩ := hv
  have hx := B.exec
  have hb := B.bytes
  have hr := B.returns
  have hts := atoms_spec (ws := (.code yX6_init cX6_init 1 none :: G)) B.pre
  have hown : s.vm.findClass RX6 = some m.cls := findClass_of_methodNamed B.named
  have hlocks := B.notSynchronized
  have hin : meth.name = "<init>" := (name_of_methodNamed B.named B.method).1
  subst hsz
  have hD := hD0.self (sz := s.heap.size)
  generalize hAe : va_A [(h0, .inr (6, [.null, .null, .null, .null, .null, .null, .int 0, .int 0]))] s.heap.size = A at hD ⊢
  have hA : ∀ q : Nat, s.heap.size ≤ q → A q := fun q h => by rw [← hAe]; exact Or.inr h
  have hS : va_S A s.heap s.heap [] := va_S.rf
  have hP : va_P D vwCl [(h0, .inr (6, [.null, .null, .null, .null, .null, .null, .int 0, .int 0]))] s.heap := hP
  have hl := lv_entry ([.ref h0]) (n := 1) (Nat.le_of_ble_eq_true rfl)
  rw [lg_entry_eq]
  generalize (lg_sl ([.ref h0]) ++ List.replicate (1 - (lg_sl ([.ref h0])).length) Slot.unset).toArray = ls at hl ⊢
  have hl : lv_has ls 1 [(0, .ref h0)] := hl
  refine lv_aload_n hx hb dX6_init_0 rfl (lv_at hl 0 rfl) ?_
  refine W.objInit hx hb hown (hts _ (List.mem_cons_of_mem _ gw_34)) (hts _ (List.mem_cons_of_mem _ gw_12)) (hts _ (List.mem_cons_of_mem _ gw_13)) rfl (by rw [hml]; exact hl.1) rfl dX6_init_1 (Nat.le_of_ble_eq_true rfl) (Nat.le_of_ble_eq_true rfl) ?_
  refine W.eq (g2 := F0 m 4 ls []) rfl ?_
  refine lv_aload_n hx hb dX6_init_4 rfl (lv_at hl 0 rfl) ?_
  refine lv_bipush (v := 12) hx hb dX6_init_5 (by decide) ?_
  refine va_newa (atype := .int) (ty := .int) (N' := 12) (a0 := (12, .inl (fun _ => 0))) hx hb (hts _ (List.mem_cons_of_mem _ gw_14)) rfl hK hP hD hS hA (fun _ => rfl) (by decide) (by decide +kernel) (by decide) (Nat.le_of_ble_eq_true rfl) (Nat.le_of_ble_eq_true rfl) dX6_init_7 (fun q_1 cA_2 H hK hP hD hS => ?_)
  have hP : va_P D vwCl [(h0, .inr (6, [.null, .null, .null, .null, .null, .null, .int 0, .int 0])), (q_1, .inl (cA_2, 12, .inl (fun _ => 0)))] H := hP
  have hD : va_D A [(h0, .inr (6, [.null, .null, .null, .null, .null, .null, .int 0, .int 0])), (q_1, .inl (cA_2, 12, .inl (fun _ => 0)))] := hD
  have hK : va_K D vwCl [(cA_2, .int)] s := hK
  refine W.widen (k := 1) (n := 12) (Nat.le_of_ble_eq_true rfl) (Nat.le_of_ble_eq_true rfl) ?_
  refine va_putF (D := D) (ci := 6) (v := .ref q_1) (ty := .array .int) (C := RX6) (T := TX6) (N := 8) hx hb hts (fun w h => List.mem_cons_of_mem _ (inG6 w h)) tyX6 tyX6_ok nmX6 hown hK hP hD hS 0 rfl rfl 0 (by decide) (hts _ (List.mem_cons_of_mem _ gw_35)) (fun _ h9 => h9) rfl hin rfl (by decide +kernel) rfl rfl (Nat.le_of_ble_eq_true rfl) dX6_init_9 (fun H locs hP hD hS => ?_)
  have hP : va_P D vwCl [(h0, .inr (6, [.ref q_1, .null, .null, .null, .null, .null, .int 0, .int 0])), (q_1, .inl (cA_2, 12, .inl (fun _ => 0)))] H := hP
  have hD : va_D A [(h0, .inr (6, [.ref q_1, .null, .null, .null, .null, .null, .int 0, .int 0])), (q_1, .inl (cA_2, 12, .inl (fun _ => 0)))] := hD
  refine lv_aload_n hx hb dX6_init_12 rfl (lv_at hl 0 rfl) ?_
  refine lv_bipush (v := 12) hx hb dX6_init_13 (by decide) ?_
  refine va_newa (atype := .int) (ty := .int) (N' := 12) (a0 := (12, .inl (fun _ => 0))) hx hb (hts _ (List.mem_cons_of_mem _ gw_14)) rfl hK hP hD hS hA (fun _ => rfl) (by decide) (by decide +kernel) (by decide) (Nat.le_of_ble_eq_true rfl) (Nat.le_of_ble_eq_true rfl) dX6_init_15 (fun q_3 cA_4 H hK hP hD hS => ?_)
  have hP : va_P D vwCl [(h0, .inr (6, [.ref q_1, .null, .null, .null, .null, .null, .int 0, .int 0])), (q_1, .inl (cA_2, 12, .inl (fun _ => 0))), (q_3, .inl (cA_4, 12, .inl (fun _ => 0)))] H := hP
  have hD : va_D A [(h0, .inr (6, [.ref q_1, .null, .null, .null, .null, .null, .int 0, .int 0])), (q_1, .inl (cA_2, 12, .inl (fun _ => 0))), (q_3, .inl (cA_4, 12, .inl (fun _ => 0)))] := hD
  have hK : va_K D vwCl [(cA_2, .int), (cA_4, .int)] s := hK
  refine W.widen (k := 2) (n := 24) (Nat.le_of_ble_eq_true rfl) (Nat.le_of_ble_eq_true rfl) ?_
  refine va_putF (D := D) (ci := 6) (v := .ref q_3) (ty := .array .int) (C := RX6) (T := TX6) (N := 8) hx hb hts (fun w h => List.mem_cons_of_mem _ (inG6 w h)) tyX6 tyX6_ok nmX6 hown hK hP hD hS 0 rfl rfl 1 (by decide) (hts _ (List.mem_cons_of_mem _ gw_36)) (fun _ h9 => h9) rfl hin rfl (by decide +kernel) rfl rfl (Nat.le_of_ble_eq_true rfl) dX6_init_17 (fun H locs hP hD hS => ?_)
  have hP : va_P D vwCl [(h0, .inr (6, [.ref q_1, .ref q_3, .null, .null, .null, .null, .int 0, .int 0])), (q_1, .inl (cA_2, 12, .inl (fun _ => 0))), (q_3, .inl (cA_4, 12, .inl (fun _ => 0)))] H := hP
  have hD : va_D A [(h0, .inr (6, [.ref q_1, .ref q_3, .null, .null, .null, .null, .int 0, .int 0])), (q_1, .inl (cA_2, 12, .inl (fun _ => 0))), (q_3, .inl (cA_4, 12, .inl (fun _ => 0)))] := hD
  refine lv_aload_n hx hb dX6_init_20 rfl (lv_at hl 0 rfl) ?_
  refine lv_bipush (v := 12) hx hb dX6_init_21 (by decide) ?_
  refine va_newa (atype := .int) (ty := .int) (N' := 12) (a0 := (12, .inl (fun _ => 0))) hx hb (hts _ (List.mem_cons_of_mem _ gw_14)) rfl hK hP hD hS hA (fun _ => rfl) (by decide) (by decide +kernel) (by decide) (Nat.le_of_ble_eq_true rfl) (Nat.le_of_ble_eq_true rfl) dX6_init_23 (fun q_5 cA_6 H hK hP hD hS => ?_)
  have hP : va_P D vwCl [(h0, .inr (6, [.ref q_1, .ref q_3, .null, .null, .null, .null, .int 0, .int 0])), (q_1, .inl (cA_2, 12, .inl (fun _ => 0))), (q_3, .inl (cA_4, 12, .inl (fun _ => 0))), (q_5, .inl (cA_6, 12, .inl (fun _ => 0)))] H := hP
  have hD : va_D A [(h0, .inr (6, [.ref q_1, .ref q_3, .null, .null, .null, .null, .int 0, .int 0])), (q_1, .inl (cA_2, 12, .inl (fun _ => 0))), (q_3, .inl (cA_4, 12, .inl (fun _ => 0))), (q_5, .inl (cA_6, 12, .inl (fun _ => 0)))] := hD
  have hK : va_K D vwCl [(cA_2, .int), (cA_4, .int), (cA_6, .int)] s := hK
  refine W.widen (k := 3) (n := 36) (Nat.le_of_ble_eq_true rfl) (Nat.le_of_ble_eq_true rfl) ?_
  refine va_putF (D := D) (ci := 6) (v := .ref q_5) (ty := .array .int) (C := RX6) (T := TX6) (N := 8) hx hb hts (fun w h => List.mem_cons_of_mem _ (inG6 w h)) tyX6 tyX6_ok nmX6 hown hK hP hD hS 0 rfl rfl 2 (by decide) (hts _ (List.mem_cons_of_mem _ gw_37)) (fun _ h9 => h9) rfl hin rfl (by decide +kernel) rfl rfl (Nat.le_of_ble_eq_true rfl) dX6_init_25 (fun H locs hP hD hS => ?_)
  have hP : va_P D vwCl [(h0, .inr (6, [.ref q_1, .ref q_3, .ref q_5, .null, .null, .null, .int 0, .int 0])), (q_1, .inl (cA_2, 12, .inl (fun _ => 0))), (q_3, .inl (cA_4, 12, .inl (fun _ => 0))), (q_5, .inl (cA_6, 12, .inl (fun _ => 0)))] H := hP
  have hD : va_D A [(h0, .inr (6, [.ref q_1, .ref q_3, .ref q_5, .null, .null, .null, .int 0, .int 0])), (q_1, .inl (cA_2, 12, .inl (fun _ => 0))), (q_3, .inl (cA_4, 12, .inl (fun _ => 0))), (q_5, .inl (cA_6, 12, .inl (fun _ => 0)))] := hD
  refine lv_aload_n hx hb dX6_init_28 rfl (lv_at hl 0 rfl) ?_
  refine lv_bipush (v := 12) hx hb dX6_init_29 (by decide) ?_
  refine va_newa (atype := .int) (ty := .int) (N' := 12) (a0 := (12, .inl (fun _ => 0))) hx hb (hts _ (List.mem_cons_of_mem _ gw_14)) rfl hK hP hD hS hA (fun _ => rfl) (by decide) (by decide +kernel) (by decide) (Nat.le_of_ble_eq_true rfl) (Nat.le_of_ble_eq_true rfl) dX6_init_31 (fun q_7 cA_8 H hK hP hD hS => ?_)
  have hP : va_P D vwCl [(h0, .inr (6, [.ref q_1, .ref q_3, .ref q_5, .null, .null, .null, .int 0, .int 0])), (q_1, .inl (cA_2, 12, .inl (fun _ => 0))), (q_3, .inl (cA_4, 12, .inl (fun _ => 0))), (q_5, .inl (cA_6, 12, .inl (fun _ => 0))), (q_7, .inl (cA_8, 12, .inl (fun _ => 0)))] H := hP
  have hD : va_D A [(h0, .inr (6, [.ref q_1, .ref q_3, .ref q_5, .null, .null, .null, .int 0, .int 0])), (q_1, .inl (cA_2, 12, .inl (fun _ => 0))), (q_3, .inl (cA_4, 12, .inl (fun _ => 0))), (q_5, .inl (cA_6, 12, .inl (fun _ => 0))), (q_7, .inl (cA_8, 12, .inl (fun _ => 0)))] := hD
  have hK : va_K D vwCl [(cA_2, .int), (cA_4, .int), (cA_6, .int), (cA_8, .int)] s := hK
  refine W.widen (k := 4) (n := 48) (Nat.le_of_ble_eq_true rfl) (Nat.le_of_ble_eq_true rfl) ?_
  refine va_putF (D := D) (ci := 6) (v := .ref q_7) (ty := .array .int) (C := RX6) (T := TX6) (N := 8) hx hb hts (fun w h => List.mem_cons_of_mem _ (inG6 w h)) tyX6 tyX6_ok nmX6 hown hK hP hD hS 0 rfl rfl 3 (by decide) (hts _ (List.mem_cons_of_mem _ gw_38)) (fun _ h9 => h9) rfl hin rfl (by decide +kernel) rfl rfl (Nat.le_of_ble_eq_true rfl) dX6_init_33 (fun H locs hP hD hS => ?_)
  have hP : va_P D vwCl [(h0, .inr (6, [.ref q_1, .ref q_3, .ref q_5, .ref q_7, .null, .null, .int 0, .int 0])), (q_1, .inl (cA_2, 12, .inl (fun _ => 0))), (q_3, .inl (cA_4, 12, .inl (fun _ => 0))), (q_5, .inl (cA_6, 12, .inl (fun _ => 0))), (q_7, .inl (cA_8, 12, .inl (fun _ => 0)))] H := hP
  have hD : va_D A [(h0, .inr (6, [.ref q_1, .ref q_3, .ref q_5, .ref q_7, .null, .null, .int 0, .int 0])), (q_1, .inl (cA_2, 12, .inl (fun _ => 0))), (q_3, .inl (cA_4, 12, .inl (fun _ => 0))), (q_5, .inl (cA_6, 12, .inl (fun _ => 0))), (q_7, .inl (cA_8, 12, .inl (fun _ => 0)))] := hD
  refine lv_aload_n hx hb dX6_init_36 rfl (lv_at hl 0 rfl) ?_
  refine lv_bipush (v := 12) hx hb dX6_init_37 (by decide) ?_
  refine va_newa (atype := .int) (ty := .int) (N' := 12) (a0 := (12, .inl (fun _ => 0))) hx hb (hts _ (List.mem_cons_of_mem _ gw_14)) rfl hK hP hD hS hA (fun _ => rfl) (by decide) (by decide +kernel) (by decide) (Nat.le_of_ble_eq_true rfl) (Nat.le_of_ble_eq_true rfl) dX6_init_39 (fun q_9 cA_10 H hK hP hD hS => ?_)
  have hP : va_P D vwCl [(h0, .inr (6, [.ref q_1, .ref q_3, .ref q_5, .ref q_7, .null, .null, .int 0, .int 0])), (q_1, .inl (cA_2, 12, .inl (fun _ => 0))), (q_3, .inl (cA_4, 12, .inl (fun _ => 0))), (q_5, .inl (cA_6, 12, .inl (fun _ => 0))), (q_7, .inl (cA_8, 12, .inl (fun _ => 0))), (q_9, .inl (cA_10, 12, .inl (fun _ => 0)))] H := hP
  have hD : va_D A [(h0, .inr (6, [.ref q_1, .ref q_3, .ref q_5, .ref q_7, .null, .null, .int 0, .int 0])), (q_1, .inl (cA_2, 12, .inl (fun _ => 0))), (q_3, .inl (cA_4, 12, .inl (fun _ => 0))), (q_5, .inl (cA_6, 12, .inl (fun _ => 0))), (q_7, .inl (cA_8, 12, .inl (fun _ => 0))), (q_9, .inl (cA_10, 12, .inl (fun _ => 0)))] := hD
  have hK : va_K D vwCl [(cA_2, .int), (cA_4, .int), (cA_6, .int), (cA_8, .int), (cA_10, .int)] s := hK
  refine W.widen (k := 5) (n := 60) (Nat.le_of_ble_eq_true rfl) (Nat.le_of_ble_eq_true rfl) ?_
  refine va_putF (D := D) (ci := 6) (v := .ref q_9) (ty := .array .int) (C := RX6) (T := TX6) (N := 8) hx hb hts (fun w h => List.mem_cons_of_mem _ (inG6 w h)) tyX6 tyX6_ok nmX6 hown hK hP hD hS 0 rfl rfl 4 (by decide) (hts _ (List.mem_cons_of_mem _ gw_39)) (fun _ h9 => h9) rfl hin rfl (by decide +kernel) rfl rfl (Nat.le_of_ble_eq_true rfl) dX6_init_41 (fun H locs hP hD hS => ?_)
  have hP : va_P D vwCl [(h0, .inr (6, [.ref q_1, .ref q_3, .ref q_5, .ref q_7, .ref q_9, .null, .int 0, .int 0])), (q_1, .inl (cA_2, 12, .inl (fun _ => 0))), (q_3, .inl (cA_4, 12, .inl (fun _ => 0))), (q_5, .inl (cA_6, 12, .inl (fun _ => 0))), (q_7, .inl (cA_8, 12, .inl (fun _ => 0))), (q_9, .inl (cA_10, 12, .inl (fun _ => 0)))] H := hP
  have hD : va_D A [(h0, .inr (6, [.ref q_1, .ref q_3, .ref q_5, .ref q_7, .ref q_9, .null, .int 0, .int 0])), (q_1, .inl (cA_2, 12, .inl (fun _ => 0))), (q_3, .inl (cA_4, 12, .inl (fun _ => 0))), (q_5, .inl (cA_6, 12, .inl (fun _ => 0))), (q_7, .inl (cA_8, 12, .inl (fun _ => 0))), (q_9, .inl (cA_10, 12, .inl (fun _ => 0)))] := hD
  refine lv_aload_n hx hb dX6_init_44 rfl (lv_at hl 0 rfl) ?_
  refine lv_bipush (v := 12) hx hb dX6_init_45 (by decide) ?_
  refine va_newa (atype := .int) (ty := .int) (N' := 12) (a0 := (12, .inl (fun _ => 0))) hx hb (hts _ (List.mem_cons_of_mem _ gw_14)) rfl hK hP hD hS hA (fun _ => rfl) (by decide) (by decide +kernel) (by decide) (Nat.le_of_ble_eq_true rfl) (Nat.le_of_ble_eq_true rfl) dX6_init_47 (fun q_11 cA_12 H hK hP hD hS => ?_)
  have hP : va_P D vwCl [(h0, .inr (6, [.ref q_1, .ref q_3, .ref q_5, .ref q_7, .ref q_9, .null, .int 0, .int 0])), (q_1, .inl (cA_2, 12, .inl (fun _ => 0))), (q_3, .inl (cA_4, 12, .inl (fun _ => 0))), (q_5, .inl (cA_6, 12, .inl (fun _ => 0))), (q_7, .inl (cA_8, 12, .inl (fun _ => 0))), (q_9, .inl (cA_10, 12, .inl (fun _ => 0))), (q_11, .inl (cA_12, 12, .inl (fun _ => 0)))] H := hP
  have hD : va_D A [(h0, .inr (6, [.ref q_1, .ref q_3, .ref q_5, .ref q_7, .ref q_9, .null, .int 0, .int 0])), (q_1, .inl (cA_2, 12, .inl (fun _ => 0))), (q_3, .inl (cA_4, 12, .inl (fun _ => 0))), (q_5, .inl (cA_6, 12, .inl (fun _ => 0))), (q_7, .inl (cA_8, 12, .inl (fun _ => 0))), (q_9, .inl (cA_10, 12, .inl (fun _ => 0))), (q_11, .inl (cA_12, 12, .inl (fun _ => 0)))] := hD
  have hK : va_K D vwCl [(cA_2, .int), (cA_4, .int), (cA_6, .int), (cA_8, .int), (cA_10, .int), (cA_12, .int)] s := hK
  refine W.widen (k := 6) (n := 72) (Nat.le_of_ble_eq_true rfl) (Nat.le_of_ble_eq_true rfl) ?_
  refine va_putF (D := D) (ci := 6) (v := .ref q_11) (ty := .array .int) (C := RX6) (T := TX6) (N := 8) hx hb hts (fun w h => List.mem_cons_of_mem _ (inG6 w h)) tyX6 tyX6_ok nmX6 hown hK hP hD hS 0 rfl rfl 5 (by decide) (hts _ (List.mem_cons_of_mem _ gw_40)) (fun _ h9 => h9) rfl hin rfl (by decide +kernel) rfl rfl (Nat.le_of_ble_eq_true rfl) dX6_init_49 (fun H locs hP hD hS => ?_)
  have hP : va_P D vwCl [(h0, .inr (6, [.ref q_1, .ref q_3, .ref q_5, .ref q_7, .ref q_9, .ref q_11, .int 0, .int 0])), (q_1, .inl (cA_2, 12, .inl (fun _ => 0))), (q_3, .inl (cA_4, 12, .inl (fun _ => 0))), (q_5, .inl (cA_6, 12, .inl (fun _ => 0))), (q_7, .inl (cA_8, 12, .inl (fun _ => 0))), (q_9, .inl (cA_10, 12, .inl (fun _ => 0))), (q_11, .inl (cA_12, 12, .inl (fun _ => 0)))] H := hP
  have hD : va_D A [(h0, .inr (6, [.ref q_1, .ref q_3, .ref q_5, .ref q_7, .ref q_9, .ref q_11, .int 0, .int 0])), (q_1, .inl (cA_2, 12, .inl (fun _ => 0))), (q_3, .inl (cA_4, 12, .inl (fun _ => 0))), (q_5, .inl (cA_6, 12, .inl (fun _ => 0))), (q_7, .inl (cA_8, 12, .inl (fun _ => 0))), (q_9, .inl (cA_10, 12, .inl (fun _ => 0))), (q_11, .inl (cA_12, 12, .inl (fun _ => 0)))] := hD
  refine lv_aload_n hx hb dX6_init_52 rfl (lv_at hl 0 rfl) ?_
  refine lv_iconst (v := 0) hx hb dX6_init_53 (by decide) ?_
  refine va_put (D := D) (ci := 6) (v := .int 0) (ty := .int) (C := RX6) (T := TX6) (N := 8) hx hb hts (fun w h => List.mem_cons_of_mem _ (inG6 w h)) tyX6 tyX6_ok nmX6 hown hK hP hD hS 0 rfl rfl 6 (by decide) (hts _ (List.mem_cons_of_mem _ gw_41)) (fun _ h9 => h9) rfl (by decide +kernel) rfl rfl (Nat.le_of_ble_eq_true rfl) dX6_init_54 (fun H locs hP hD hS => ?_)
  have hP : va_P D vwCl [(h0, .inr (6, [.ref q_1, .ref q_3, .ref q_5, .ref q_7, .ref q_9, .ref q_11, .int 0, .int 0])), (q_1, .inl (cA_2, 12, .inl (fun _ => 0))), (q_3, .inl (cA_4, 12, .inl (fun _ => 0))), (q_5, .inl (cA_6, 12, .inl (fun _ => 0))), (q_7, .inl (cA_8, 12, .inl (fun _ => 0))), (q_9, .inl (cA_10, 12, .inl (fun _ => 0))), (q_11, .inl (cA_12, 12, .inl (fun _ => 0)))] H := hP
  have hD : va_D A [(h0, .inr (6, [.ref q_1, .ref q_3, .ref q_5, .ref q_7, .ref q_9, .ref q_11, .int 0, .int 0])), (q_1, .inl (cA_2, 12, .inl (fun _ => 0))), (q_3, .inl (cA_4, 12, .inl (fun _ => 0))), (q_5, .inl (cA_6, 12, .inl (fun _ => 0))), (q_7, .inl (cA_8, 12, .inl (fun _ => 0))), (q_9, .inl (cA_10, 12, .inl (fun _ => 0))), (q_11, .inl (cA_12, 12, .inl (fun _ => 0)))] := hD
  refine lv_aload_n hx hb dX6_init_57 rfl (lv_at hl 0 rfl) ?_
  refine lv_iconst (v := 0) hx hb dX6_init_58 (by decide) ?_
  refine va_put (D := D) (ci := 6) (v := .int 0) (ty := .int) (C := RX6) (T := TX6) (N := 8) hx hb hts (fun w h => List.mem_cons_of_mem _ (inG6 w h)) tyX6 tyX6_ok nmX6 hown hK hP hD hS 0 rfl rfl 7 (by decide) (hts _ (List.mem_cons_of_mem _ gw_42)) (fun _ h9 => h9) rfl (by decide +kernel) rfl rfl (Nat.le_of_ble_eq_true rfl) dX6_init_59 (fun H locs hP hD hS => ?_)
  have hP : va_P D vwCl [(h0, .inr (6, [.ref q_1, .ref q_3, .ref q_5, .ref q_7, .ref q_9, .ref q_11, .int 0, .int 0])), (q_1, .inl (cA_2, 12, .inl (fun _ => 0))), (q_3, .inl (cA_4, 12, .inl (fun _ => 0))), (q_5, .inl (cA_6, 12, .inl (fun _ => 0))), (q_7, .inl (cA_8, 12, .inl (fun _ => 0))), (q_9, .inl (cA_10, 12, .inl (fun _ => 0))), (q_11, .inl (cA_12, 12, .inl (fun _ => 0)))] H := hP
  have hD : va_D A [(h0, .inr (6, [.ref q_1, .ref q_3, .ref q_5, .ref q_7, .ref q_9, .ref q_11, .int 0, .int 0])), (q_1, .inl (cA_2, 12, .inl (fun _ => 0))), (q_3, .inl (cA_4, 12, .inl (fun _ => 0))), (q_5, .inl (cA_6, 12, .inl (fun _ => 0))), (q_7, .inl (cA_8, 12, .inl (fun _ => 0))), (q_9, .inl (cA_10, 12, .inl (fun _ => 0))), (q_11, .inl (cA_12, 12, .inl (fun _ => 0)))] := hD
  have hP9 := hP.sub (ws' := [(h0, .inr (6, [.ref q_1, .ref q_3, .ref q_5, .ref q_7, .ref q_9, .ref q_11, .int 0, .int 0])), (q_1, .inl (cA_2, 12, .inl (fun _ => 0))), (q_3, .inl (cA_4, 12, .inl (fun _ => 0)))]) [0, 1, 2] rfl
  have hD9 := hD.sub (ws' := [(h0, .inr (6, [.ref q_1, .ref q_3, .ref q_5, .ref q_7, .ref q_9, .ref q_11, .int 0, .int 0])), (q_1, .inl (cA_2, 12, .inl (fun _ => 0))), (q_3, .inl (cA_4, 12, .inl (fun _ => 0)))]) [0, 1, 2] (by decide) rfl
  have hK9 := hK.sub (tys' := [(cA_2, .int), (cA_4, .int)]) [0, 1] rfl
  refine W.widen (k := 6) (n := 72) (Nat.le_of_ble_eq_true rfl) (Nat.le_of_ble_eq_true rfl) ?_
  exact W.vret hx hb hr (fun t ht hW => ⟨⟨(q_1, q_3, q_5, q_7, q_9, q_11, cA_2, cA_4), rfl, (by first | trivial | rfl), by rw [ht]; exact hP9, va_K.moved hW.alike hK9, hD9⟩, hS.F ht⟩) hS.2.2 dX6_init_62
set_option maxHeartbeats 4000000 in
set_option maxRecDepth 100000 in
theorem c_X4_init (l : Launch) (D : va_G) (sz : Nat) (h0 : Nat) : Met l yX4_init (.code yX4_init cX4_init 1 none :: G) ({ frames := 2, cells := 5, slots := 156, locals := 40 }) (va_Pc [.ref h0] (pw D sz [(h0, .inr (4, [.null, .null, .null, .null, .null, .int 0, .int 0, .int 0, .int 0, .int 0]))] [])) (va_Qv (fun (u : (Nat) × (Nat) × (Nat) × (Nat) × (Nat)) => True) (fun (u : (Nat) × (Nat) × (Nat) × (Nat) × (Nat)) => qw D (va_A [(h0, .inr (4, [.null, .null, .null, .null, .null, .int 0, .int 0, .int 0, .int 0, .int 0]))] sz) [(h0, .inr (4, [.ref u.1, .ref u.2.1, .ref u.2.2.1, .ref u.2.2.2.1, .ref u.2.2.2.2, .int 0, .int 0, .int 0, .int 0, .int 0]))] []) (va_A [(h0, .inr (4, [.null, .null, .null, .null, .null, .int 0, .int 0, .int 0, .int 0, .int 0]))] sz)) 5 156 (va_A [(h0, .inr (4, [.null, .null, .null, .null, .null, .int 0, .int 0, .int 0, .int 0, .int 0]))] sz) := by
  refine Met.ofW (cc := cX4_init) (maxL := 1) (ret := none) (by decide) rfl ?_
  intro p e s m args below meth c s₁ B hml hv
  obtain ⟨rfl, hsz, hP, hK, hD0, hN⟩ := hv
  have hx := B.exec
  have hb := B.bytes
  have hr := B.returns
  have hts := atoms_spec (ws := (.code yX4_init cX4_init 1 none :: G)) B.pre
  have hown : s.vm.findClass RX4 = some m.cls := findClass_of_methodNamed B.named
  have hlocks := B.notSynchronized
  have hin : meth.name = "<init>" := (name_of_methodNamed B.named B.method).1
  subst hsz
  have hD := hD0.self (sz := s.heap.size)
  generalize hAe : va_A [(h0, .inr (4, [.null, .null, .null, .null, .null, .int 0, .int 0, .int 0, .int 0, .int 0]))] s.heap.size = A at hD ⊢
  have hA : ∀ q : Nat, s.heap.size ≤ q → A q := fun q h => by rw [← hAe]; exact Or.inr h
  have hS : va_S A s.heap s.heap [] := va_S.rf
  have hP : va_P D vwCl [(h0, .inr (4, [.null, .null, .null, .null, .null, .int 0, .int 0, .int 0, .int 0, .int 0]))] s.heap := hP
  have hl := lv_entry ([.ref h0]) (n := 1) (Nat.le_of_ble_eq_true rfl)
  rw [lg_entry_eq]
  generalize (lg_sl ([.ref h0]) ++ List.replicate (1 - (lg_sl ([.ref h0])).length) Slot.unset).toArray = ls at hl ⊢
  have hl : lv_has ls 1 [(0, .ref h0)] := hl
  refine lv_aload_n hx hb dX4_init_0 rfl (lv_at hl 0 rfl) ?_
  refine W.objInit hx hb hown (hts _ (List.mem_cons_of_mem _ gw_43)) (hts _ (List.mem_cons_of_mem _ gw_12)) (hts _ (List.mem_cons_of_mem _ gw_13)) rfl (by rw [hml]; exact hl.1) rfl dX4_init_1 (Nat.le_of_ble_eq_true rfl) (Nat.le_of_ble_eq_true rfl) ?_
  refine W.eq (g2 := F0 m 4 ls []) rfl ?_
  refine lv_aload_n hx hb dX4_init_4 rfl (lv_at hl 0 rfl) ?_
  refine lv_bipush (v := 12) hx hb dX4_init_5 (by decide) ?_
  refine va_newa (atype := .int) (ty := .int) (N' := 12) (a0 := (12, .inl (fun _ => 0))) hx hb (hts _ (List.mem_cons_of_mem _ gw_14)) rfl hK hP hD hS hA (fun _ => rfl) (by decide) (by decide +kernel) (by decide) (Nat.le_of_ble_eq_true rfl) (Nat.le_of_ble_eq_true rfl) dX4_init_7 (fun q_1 cA_2 H hK hP hD hS => ?_)
  have hP : va_P D vwCl [(h0, .inr (4, [.null, .null, .null, .null, .null, .int 0, .int 0, .int 0, .int 0, .int 0])), (q_1, .inl (cA_2, 12, .inl (fun _ => 0)))] H := hP
  have hD : va_D A [(h0, .inr (4, [.null, .null, .null, .null, .null, .int 0, .int 0, .int 0, .int 0, .int 0])), (q_1, .inl (cA_2, 12, .inl (fun _ => 0)))] := hD
  have hK : va_K D vwCl [(cA_2, .int)] s := hK
  refine W.widen (k := 1) (n := 12) (Nat.le_of_ble_eq_true rfl) (Nat.le_of_ble_eq_true rfl) ?_
  refine va_putF (D := D) (ci := 4) (v := .ref q_1) (ty := .array .int) (C := RX4) (T := TX4) (N := 10) hx hb hts (fun w h => List.mem_cons_of_mem _ (inG4 w h)) tyX4 tyX4_ok nmX4 hown hK hP hD hS 0 rfl rfl 0 (by decide) (hts _ (List.mem_cons_of_mem _ gw_44)) (fun _ h9 => h9) rfl hin rfl (by decide +kernel) rfl rfl (Nat.le_of_ble_eq_true rfl) dX4_init_9 (fun H locs hP hD hS => ?_)
  have hP : va_P D vwCl [(h0, .inr (4, [.ref q_1, .null, .null, .null, .null, .int 0, .int 0, .int 0, .int 0, .int 0])), (q_1, .inl (cA_2, 12, .inl (fun _ => 0)))] H := hP
  have hD : va_D A [(h0, .inr (4, [.ref q_1, .null, .null, .null, .null, .int 0, .int 0, .int 0, .int 0, .int 0])), (q_1, .inl (cA_2, 12, .inl (fun _ => 0)))] := hD
  refine lv_aload_n hx hb dX4_init_12 rfl (lv_at hl 0 rfl) ?_
  refine lv_bipush (v := 12) hx hb dX4_init_13 (by decide) ?_
  refine va_newa (atype := .int) (ty := .int) (N' := 12) (a0 := (12, .inl (fun _ => 0))) hx hb (hts _ (List.mem_cons_of_mem _ gw_14)) rfl hK hP hD hS hA (fun _ => rfl) (by decide) (by decide +kernel) (by decide) (Nat.le_of_ble_eq_true rfl) (Nat.le_of_ble_eq_true rfl) dX4_init_15 (fun q_3 cA_4 H hK hP hD hS => ?_)
  have hP : va_P D vwCl [(h0, .inr (4, [.ref q_1, .null, .null, .null, .null, .int 0, .int 0, .int 0, .int 0, .int 0])), (q_1, .inl (cA_2, 12, .inl (fun _ => 0))), (q_3, .inl (cA_4, 12, .inl (fun _ => 0)))] H := hP
  have hD : va_D A [(h0, .inr (4, [.ref q_1, .null, .null, .null, .null, .int 0, .int 0, .int 0, .int 0, .int 0])), (q_1, .inl (cA_2, 12, .inl (fun _ => 0))), (q_3, .inl (cA_4, 12, .inl (fun _ => 0)))] := hD
  have hK : va_K D vwCl [(cA_2, .int), (cA_4, .int)] s := hK
  refine W.widen (k := 2) (n := 24) (Nat.le_of_ble_eq_true rfl) (Nat.le_of_ble_eq_true rfl) ?_
  refine va_putF (D := D) (ci := 4) (v := .ref q_3) (ty := .array .int) (C := RX4) (T := TX4) (N := 10) hx hb hts (fun w h => List.mem_cons_of_mem _ (inG4 w h)) tyX4 tyX4_ok nmX4 hown hK hP hD hS 0 rfl rfl 1 (by decide) (hts _ (List.mem_cons_of_mem _ gw_45)) (fun _ h9 => h9) rfl hin rfl (by decide +kernel) rfl rfl (Nat.le_of_ble_eq_true rfl) dX4_init_17 (fun H locs hP hD hS => ?_)
  have hP : va_P D vwCl [(h0, .inr (4, [.ref q_1, .ref q_3, .null, .null, .null, .int 0, .int 0, .int 0, .int 0, .int 0])), (q_1, .inl (cA_2, 12, .inl (fun _ => 0))), (q_3, .inl (cA_4, 12, .inl (fun _ => 0)))] H := hP
  have hD : va_D A [(h0, .inr (4, [.ref q_1, .ref q_3, .null, .null, .null, .int 0, .int 0, .int 0, .int 0, .int 0])), (q_1, .inl (cA_2, 12, .inl (fun _ => 0))), (q_3, .inl (cA_4, 12, .inl (fun _ => 0)))] := hD
  refine lv_aload_n hx hb dX4_init_20 rfl (lv_at hl 0 rfl) ?_
  refine lv_bipush (v := 12) hx hb dX4_init_21 (by decide) ?_
  refine va_newa (atype := .int) (ty := .int) (N' := 12) (a0 := (12, .inl (fun _ => 0))) hx hb (hts _ (List.mem_cons_of_mem _ gw_14)) rfl hK hP hD hS hA (fun _ => rfl) (by decide) (by decide +kernel) (by decide) (Nat.le_of_ble_eq_true rfl) (Nat.le_of_ble_eq_true rfl) dX4_init_23 (fun q_5 cA_6 H hK hP hD hS => ?_)
  have hP : va_P D vwCl [(h0, .inr (4, [.ref q_1, .ref q_3, .null, .null, .null, .int 0, .int 0, .int 0, .int 0, .int 0])), (q_1, .inl (cA_2, 12, .inl (fun _ => 0))), (q_3, .inl (cA_4, 12, .inl (fun _ => 0))), (q_5, .inl (cA_6, 12, .inl (fun _ => 0)))] H := hP
  have hD : va_D A [(h0, .inr (4, [.ref q_1, .ref q_3, .null, .null, .null, .int 0, .int 0, .int 0, .int 0, .int 0])), (q_1, .inl (cA_2, 12, .inl (fun _ => 0))), (q_3, .inl (cA_4, 12, .inl (fun _ => 0))), (q_5, .inl (cA_6, 12, .inl (fun _ => 0)))] := hD
  have hK : va_K D vwCl [(cA_2, .int), (cA_4, .int), (cA_6, .int)] s := hK
  refine W.widen (k := 3) (n := 36) (Nat.le_of_ble_eq_true rfl) (Nat.le_of_ble_eq_true rfl) ?_
  refine va_putF (D := D) (ci := 4) (v := .ref q_5) (ty := .array .int) (C := RX4) (T := TX4) (N := 10) hx hb hts (fun w h => List.mem_cons_of_mem _ (inG4 w h)) tyX4 tyX4_ok nmX4 hown hK hP hD hS 0 rfl rfl 2 (by decide) (hts _ (List.mem_cons_of_mem _ gw_46)) (fun _ h9 => h9) rfl hin rfl (by decide +kernel) rfl rfl (Nat.le_of_ble_eq_true rfl) dX4_init_25 (fun H locs hP hD hS => ?_)
  have hP : va_P D vwCl [(h0, .inr (4, [.ref q_1, .ref q_3, .ref q_5, .null, .null, .int 0, .int 0, .int 0, .int 0, .int 0])), (q_1, .inl (cA_2, 12, .inl (fun _ => 0))), (q_3, .inl (cA_4, 12, .inl (fun _ => 0))), (q_5, .inl (cA_6, 12, .inl (fun _ => 0)))] H := hP
  have hD : va_D A [(h0, .inr (4, [.ref q_1, .ref q_3, .ref q_5, .null, .null, .int 0, .int 0, .int 0, .int 0, .int 0])), (q_1, .inl (cA_2, 12, .inl (fun _ => 0))), (q_3, .inl (cA_4, 12, .inl (fun _ => 0))), (q_5, .inl (cA_6, 12, .inl (fun _ => 0)))] := hD
  refine lv_aload_n hx hb dX4_init_28 rfl (lv_at hl 0 rfl) ?_
  refine lv_bipush (v := 60) hx hb dX4_init_29 (by decide) ?_
  refine va_newa (atype := .int) (ty := .int) (N' := 60) (a0 := (60, .inl (fun _ => 0))) hx hb (hts _ (List.mem_cons_of_mem _ gw_14)) rfl hK hP hD hS hA (fun _ => rfl) (by decide) (by decide +kernel) (by decide) (Nat.le_of_ble_eq_true rfl) (Nat.le_of_ble_eq_true rfl) dX4_init_31 (fun q_7 cA_8 H hK hP hD hS => ?_)
  have hP : va_P D vwCl [(h0, .inr (4, [.ref q_1, .ref q_3, .ref q_5, .null, .null, .int 0, .int 0, .int 0, .int 0, .int 0])), (q_1, .inl (cA_2, 12, .inl (fun _ => 0))), (q_3, .inl (cA_4, 12, .inl (fun _ => 0))), (q_5, .inl (cA_6, 12, .inl (fun _ => 0))), (q_7, .inl (cA_8, 60, .inl (fun _ => 0)))] H := hP
  have hD : va_D A [(h0, .inr (4, [.ref q_1, .ref q_3, .ref q_5, .null, .null, .int 0, .int 0, .int 0, .int 0, .int 0])), (q_1, .inl (cA_2, 12, .inl (fun _ => 0))), (q_3, .inl (cA_4, 12, .inl (fun _ => 0))), (q_5, .inl (cA_6, 12, .inl (fun _ => 0))), (q_7, .inl (cA_8, 60, .inl (fun _ => 0)))] := hD
  have hK : va_K D vwCl [(cA_2, .int), (cA_4, .int), (cA_6, .int), (cA_8, .int)] s := hK
  refine W.widen (k := 4) (n := 96) (Nat.le_of_ble_eq_true rfl) (Nat.le_of_ble_eq_true rfl) ?_
  refine va_putF (D := D) (ci := 4) (v := .ref q_7) (ty := .array .int) (C := RX4) (T := TX4) (N := 10) hx hb hts (fun w h => List.mem_cons_of_mem _ (inG4 w h)) tyX4 tyX4_ok nmX4 hown hK hP hD hS 0 rfl rfl 3 (by decide) (hts _ (List.mem_cons_of_mem _ gw_47)) (fun _ h9 => h9) rfl hin rfl (by decide +kernel) rfl rfl (Nat.le_of_ble_eq_true rfl) dX4_init_33 (fun H locs hP hD hS => ?_)
  have hP : va_P D vwCl [(h0, .inr (4, [.ref q_1, .ref q_3, .ref q_5, .ref q_7, .null, .int 0, .int 0, .int 0, .int 0, .int 0])), (q_1, .inl (cA_2, 12, .inl (fun _ => 0))), (q_3, .inl (cA_4, 12, .inl (fun _ => 0))), (q_5, .inl (cA_6, 12, .inl (fun _ => 0))), (q_7, .inl (cA_8, 60, .inl (fun _ => 0)))] H := hP
  have hD : va_D A [(h0, .inr (4, [.ref q_1, .ref q_3, .ref q_5, .ref q_7, .null, .int 0, .int 0, .int 0, .int 0, .int 0])), (q_1, .inl (cA_2, 12, .inl (fun _ => 0))), (q_3, .inl (cA_4, 12, .inl (fun _ => 0))), (q_5, .inl (cA_6, 12, .inl (fun _ => 0))), (q_7, .inl (cA_8, 60, .inl (fun _ => 0)))] := hD
  refine lv_aload_n hx hb dX4_init_36 rfl (lv_at hl 0 rfl) ?_
  refine lv_bipush (v := 60) hx hb dX4_init_37 (by decide) ?_
  refine va_newa (atype := .int) (ty := .int) (N' := 60) (a0 := (60, .inl (fun _ => 0))) hx hb (hts _ (List.mem_cons_of_mem _ gw_14)) rfl hK hP hD hS hA (fun _ => rfl) (by decide) (by decide +kernel) (by decide) (Nat.le_of_ble_eq_true rfl) (Nat.le_of_ble_eq_true rfl) dX4_init_39 (fun q_9 cA_10 H hK hP hD hS => ?_)
  have hP : va_P D vwCl [(h0, .inr (4, [.ref q_1, .ref q_3, .ref q_5, .ref q_7, .null, .int 0, .int 0, .int 0, .int 0, .int 0])), (q_1, .inl (cA_2, 12, .inl (fun _ => 0))), (q_3, .inl (cA_4, 12, .inl (fun _ => 0))), (q_5, .inl (cA_6, 12, .inl (fun _ => 0))), (q_7, .inl (cA_8, 60, .inl (fun _ => 0))), (q_9, .inl (cA_10, 60, .inl (fun _ => 0)))] H := hP
  have hD : va_D A [(h0, .inr (4, [.ref q_1, .ref q_3, .ref q_5, .ref q_7, .null, .int 0, .int 0, .int 0, .int 0, .int 0])), (q_1, .inl (cA_2, 12, .inl (fun _ => 0))), (q_3, .inl (cA_4, 12, .inl (fun _ => 0))), (q_5, .inl (cA_6, 12, .inl (fun _ => 0))), (q_7, .inl (cA_8, 60, .inl (fun _ => 0))), (q_9, .inl (cA_10, 60, .inl (fun _ => 0)))] := hD
  have hK : va_K D vwCl [(cA_2, .int), (cA_4, .int), (cA_6, .int), (cA_8, .int), (cA_10, .int)] s := hK
  refine W.widen (k := 5) (n := 156) (Nat.le_of_ble_eq_true rfl) (Nat.le_of_ble_eq_true rfl) ?_
  refine va_putF (D := D) (ci := 4) (v := .ref q_9) (ty := .array .int) (C := RX4) (T := TX4) (N := 10) hx hb hts (fun w h => List.mem_cons_of_mem _ (inG4 w h)) tyX4 tyX4_ok nmX4 hown hK hP hD hS 0 rfl rfl 4 (by decide) (hts _ (List.mem_cons_of_mem _ gw_48)) (fun _ h9 => h9) rfl hin rfl (by decide +kernel) rfl rfl (Nat.le_of_ble_eq_true rfl) dX4_init_41 (fun H locs hP hD hS => ?_)
  have hP : va_P D vwCl [(h0, .inr (4, [.ref q_1, .ref q_3, .ref q_5, .ref q_7, .ref q_9, .int 0, .int 0, .int 0, .int 0, .int 0])), (q_1, .inl (cA_2, 12, .inl (fun _ => 0))), (q_3, .inl (cA_4, 12, .inl (fun _ => 0))), (q_5, .inl (cA_6, 12, .inl (fun _ => 0))), (q_7, .inl (cA_8, 60, .inl (fun _ => 0))), (q_9, .inl (cA_10, 60, .inl (fun _ => 0)))] H := hP
  have hD : va_D A [(h0, .inr (4, [.ref q_1, .ref q_3, .ref q_5, .ref q_7, .ref q_9, .int 0, .int 0, .int 0, .int 0, .int 0])), (q_1, .inl (cA_2, 12, .inl (fun _ => 0))), (q_3, .inl (cA_4, 12, .inl (fun _ => 0))), (q_5, .inl (cA_6, 12, .inl (fun _ => 0))), (q_7, .inl (cA_8, 60, .inl (fun _ => 0))), (q_9, .inl (cA_10, 60, .inl (fun _ => 0)))] := hD
  refine lv_aload_n hx hb dX4_init_44 rfl (lv_at hl 0 rfl) ?_
  refine lv_iconst (v := 0) hx hb dX4_init_45 (by decide) ?_
  refine va_put (D := D) (ci := 4) (v := .int 0) (ty := .int) (C := RX4) (T := TX4) (N := 10) hx hb hts (fun w h => List.mem_cons_of_mem _ (inG4 w h)) tyX4 tyX4_ok nmX4 hown hK hP hD hS 0 rfl rfl 5 (by decide) (hts _ (List.mem_cons_of_mem _ gw_49)) (fun _ h9 => h9) rfl (by decide +kernel) rfl rfl (Nat.le_of_ble_eq_true rfl) dX4_init_46 (fun H locs hP hD hS => ?_)
  have hP : va_P D vwCl [(h0, .inr (4, [.ref q_1, .ref q_3, .ref q_5, .ref q_7, .ref q_9, .int 0, .int 0, .int 0, .int 0, .int 0])), (q_1, .inl (cA_2, 12, .inl (fun _ => 0))), (q_3, .inl (cA_4, 12, .inl (fun _ => 0))), (q_5, .inl (cA_6, 12, .inl (fun _ => 0))), (q_7, .inl (cA_8, 60, .inl (fun _ => 0))), (q_9, .inl (cA_10, 60, .inl (fun _ => 0)))] H := hP
  have hD : va_D A [(h0, .inr (4, [.ref q_1, .ref q_3, .ref q_5, .ref q_7, .ref q_9, .int 0, .int 0, .int 0, .int 0, .int 0])), (q_1, .inl (cA_2, 12, .inl (fun _ => 0))), (q_3, .inl (cA_4, 12, .inl (fun _ => 0))), (q_5, .inl (cA_6, 12, .inl (fun _ => 0))), (q_7, .inl (cA_8, 60, .inl (fun _ => 0))), (q_9, .inl (cA_10, 60, .inl (fun _ => 0)))] := hD
  refine lv_aload_n hx hb dX4_init_49 rfl (lv_at hl 0 rfl) ?_
  refine lv_iconst (v := 0) hx hb dX4_init_50 (by decide) ?_
  refine va_put (D := D) (ci := 4) (v := .int 0) (ty := .int) (C := RX4) (T := TX4) (N := 10) hx hb hts (fun w h => List.mem_cons_of_mem _ (inG4 w h)) tyX4 tyX4_ok nmX4 hown hK hP hD hS 0 rfl rfl 6 (by decide) (hts _ (List.mem_cons_of_mem _ gw_50)) (fun _ h9 => h9) rfl (by decide +kernel) rfl rfl (Nat.le_of_ble_eq_true rfl) dX4_init_51 (fun H locs hP hD hS => ?_)
  have hP : va_P D vwCl [(h0, .inr (4, [.ref q_1, .ref q_3, .ref q_5, .ref q_7, .ref q_9, .int 0, .int 0, .int 0, .int 0, .int 0])), (q_1, .inl (cA_2, 12, .inl (fun _ => 0))), (q_3, .inl (cA_4, 12, .inl (fun _ => 0))), (q_5, .inl (cA_6, 12, .inl (fun _ => 0))), (q_7, .inl (cA_8, 60, .inl (fun _ => 0))), (q_9, .inl (cA_10, 60, .inl (fun _ => 0)))] H := hP
  have hD : va_D A [(h0, .inr (4, [.ref q_1, .ref q_3, .ref q_5, .ref q_7, .ref q_9, .int 0, .int 0, .int 0, .int 0, .int 0])), (q_1, .inl (cA_2, 12, .inl (fun _ => 0))), (q_3, .inl (cA_4, 12, .inl (fun _ => 0))), (q_5, .inl (cA_6, 12, .inl (fun _ => 0))), (q_7, .inl (cA_8, 60, .inl (fun _ => 0))), (q_9, .inl (cA_10, 60, .inl (fun _ => 0)))] := hD
  refine lv_aload_n hx hb dX4_init_54 rfl (lv_at hl 0 rfl) ?_
  refine lv_iconst (v := 0) hx hb dX4_init_55 (by decide) ?_
  refine va_put (D := D) (ci := 4) (v := .int 0) (ty := .int) (C := RX4) (T := TX4) (N := 10) hx hb hts (fun w h => List.mem_cons_of_mem _ (inG4 w h)) tyX4 tyX4_ok nmX4 hown hK hP hD hS 0 rfl rfl 7 (by decide) (hts _ (List.mem_cons_of_mem _ gw_51)) (fun _ h9 => h9) rfl (by decide +kernel) rfl rfl (Nat.le_of_ble_eq_true rfl) dX4_init_56 (fun H locs hP hD hS => ?_)
  have hP : va_P D vwCl [(h0, .inr (4, [.ref q_1, .ref q_3, .ref q_5, .ref q_7, .ref q_9, .int 0, .int 0, .int 0, .int 0, .int 0])), (q_1, .inl (cA_2, 12, .inl (fun _ => 0))), (q_3, .inl (cA_4, 12, .inl (fun _ => 0))), (q_5, .inl (cA_6, 12, .inl (fun _ => 0))), (q_7, .inl (cA_8, 60, .inl (fun _ => 0))), (q_9, .inl (cA_10, 60, .inl (fun _ => 0)))] H := hP
  have hD : va_D A [(h0, .inr (4, [.ref q_1, .ref q_3, .ref q_5, .ref q_7, .ref q_9, .int 0, .int 0, .int 0, .int 0, .int 0])), (q_1, .inl (cA_2, 12, .inl (fun _ => 0))), (q_3, .inl (cA_4, 12, .inl (fun _ => 0))), (q_5, .inl (cA_6, 12, .inl (fun _ => 0))), (q_7, .inl (cA_8, 60, .inl (fun _ => 0))), (q_9, .inl (cA_10, 60, .inl (fun _ => 0)))] := hD
  refine lv_aload_n hx hb dX4_init_59 rfl (lv_at hl 0 rfl) ?_
  refine lv_iconst (v := 0) hx hb dX4_init_60 (by decide) ?_
  refine va_put (D := D) (ci := 4) (v := .int 0) (ty := .int) (C := RX4) (T := TX4) (N := 10) hx hb hts (fun w h => List.mem_cons_of_mem _ (inG4 w h)) tyX4 tyX4_ok nmX4 hown hK hP hD hS 0 rfl rfl 8 (by decide) (hts _ (List.mem_cons_of_mem _ gw_52)) (fun _ h9 => h9) rfl (by decide +kernel) rfl rfl (Nat.le_of_ble_eq_true rfl) dX4_init_61 (fun H locs hP hD hS => ?_)
  have hP : va_P D vwCl [(h0, .inr (4, [.ref q_1, .ref q_3, .ref q_5, .ref q_7, .ref q_9, .int 0, .int 0, .int 0, .int 0, .int 0])), (q_1, .inl (cA_2, 12, .inl (fun _ => 0))), (q_3, .inl (cA_4, 12, .inl (fun _ => 0))), (q_5, .inl (cA_6, 12, .inl (fun _ => 0))), (q_7, .inl (cA_8, 60, .inl (fun _ => 0))), (q_9, .inl (cA_10, 60, .inl (fun _ => 0)))] H := hP
  have hD : va_D A [(h0, .inr (4, [.ref q_1, .ref q_3, .ref q_5, .ref q_7, .ref q_9, .int 0, .int 0, .int 0, .int 0, .int 0])), (q_1, .inl (cA_2, 12, .inl (fun _ => 0))), (q_3, .inl (cA_4, 12, .inl (fun _ => 0))), (q_5, .inl (cA_6, 12, .inl (fun _ => 0))), (q_7, .inl (cA_8, 60, .inl (fun _ => 0))), (q_9, .inl (cA_10, 60, .inl (fun _ => 0)))] := hD
  refine lv_aload_n hx hb dX4_init_64 rfl (lv_at hl 0 rfl) ?_
  refine lv_iconst (v := 0) hx hb dX4_init_65 (by decide) ?_
  refine va_put (D := D) (ci := 4) (v := .int 0) (ty := .int) (C := RX4) (T := TX4) (N := 10) hx hb hts (fun w h => List.mem_cons_of_mem _ (inG4 w h)) tyX4 tyX4_ok nmX4 hown hK hP hD hS 0 rfl rfl 9 (by decide) (hts _ (List.mem_cons_of_mem _ gw_53)) (fun _ h9 => h9) rfl (by decide +kernel) rfl rfl (Nat.le_of_ble_eq_true rfl) dX4_init_66 (fun H locs hP hD hS => ?_)
  have hP : va_P D vwCl [(h0, .inr (4, [.ref q_1, .ref q_3, .ref q_5, .ref q_7, .ref q_9, .int 0, .int 0, .int 0, .int 0, .int 0])), (q_1, .inl (cA_2, 12, .inl (fun _ => 0))), (q_3, .inl (cA_4, 12, .inl (fun _ => 0))), (q_5, .inl (cA_6, 12, .inl (fun _ => 0))), (q_7, .inl (cA_8, 60, .inl (fun _ => 0))), (q_9, .inl (cA_10, 60, .inl (fun _ => 0)))] H := hP
  have hD : va_D A [(h0, .inr (4, [.ref q_1, .ref q_3, .ref q_5, .ref q_7, .ref q_9, .int 0, .int 0, .int 0, .int 0, .int 0])), (q_1, .inl (cA_2, 12, .inl (fun _ => 0))), (q_3, .inl (cA_4, 12, .inl (fun _ => 0))), (q_5, .inl (cA_6, 12, .inl (fun _ => 0))), (q_7, .inl (cA_8, 60, .inl (fun _ => 0))), (q_9, .inl (cA_10, 60, .inl (fun _ => 0)))] := hD
  have hP9 := hP.sub (ws' := [(h0, .inr (4, [.ref q_1, .ref q_3, .ref q_5, .ref q_7, .ref q_9, .int 0, .int 0, .int 0, .int 0, .int 0]))]) [0] rfl
  have hD9 := hD.sub (ws' := [(h0, .inr (4, [.ref q_1, .ref q_3, .ref q_5, .ref q_7, .ref q_9, .int 0, .int 0, .int 0, .int 0, .int 0]))]) [0] (by decide) rfl
  have hK9 := hK.sub (tys' := []) [] rfl
  refine W.widen (k := 5) (n := 156) (Nat.le_of_ble_eq_true rfl) (Nat.le_of_ble_eq_true rfl) ?_
  exact W.vret hx hb hr (fun t ht hW => ⟨⟨(q_1, q_3, q_5, q_7, q_9), rfl, (by first | trivial | rfl), by rw [ht]; exact hP9, va_K.moved hW.alike hK9, hD9⟩, hS.F ht⟩) hS.2.2 dX4_init_69
set_option maxHeartbeats 4000000 in
set_option maxRecDepth 100000 in
theorem c_X4_clear (l : Launch) (D : va_G) (sz : Nat) (h0 : Nat) (v0 : Value) (v1 : Value) (v2 : Value) (v3 : Value) (v4 : Value) (x5 : Int32) (x6 : Int32) (x7 : Int32) (x8 : Int32) (x9 : Int32) : Met l yX4_clear (.code yX4_clear cX4_clear 1 none :: G) ({ frames := 2, cells := 0, slots := 0, locals := 40 }) (va_Pc [.ref h0] (pw D sz [(h0, .inr (4, [v0, v1, v2, v3, v4, .int x5, .int x6, .int x7, .int x8, .int x9]))] [])) (va_Qv (fun (u : Unit) => True) (fun (u : Unit) => qw D (va_A [(h0, .inr (4, [v0, v1, v2, v3, v4, .int x5, .int x6, .int x7, .int x8, .int x9]))] sz) [(h0, .inr (4, [v0, v1, v2, v3, v4, .int 0, .int 0, .int 0, .int 0, .int 0]))] []) (va_A [(h0, .inr (4, [v0, v1, v2, v3, v4, .int x5, .int x6, .int x7, .int x8, .int x9]))] sz)) 0 0 (va_A [(h0, .inr (4, [v0, v1, v2, v3, v4, .int x5, .int x6, .int x7, .int x8, .int x9]))] sz) := by
  refine Met.ofW (cc := cX4_clear) (maxL := 1) (ret := none) (by decide) rfl ?_
  intro p e s m args below meth c s₁ B hml hv
  obtain ⟨rfl, hsz, hP, hK, hD0, hN⟩ := hv
  have hx := B.exec
  have hb := B.bytes
  have hr := B.returns
  have hts := atoms_spec (ws := (.code yX4_clear cX4_clear 1 none :: G)) B.pre
  have hown : s.vm.findClass RX4 = some m.cls := findClass_of_methodNamed B.named
  have hlocks := B.notSynchronized
  subst hsz
  have hD := hD0.self (sz := s.heap.size)
  generalize hAe : va_A [(h0, .inr (4, [v0, v1, v2, v3, v4, .int x5, .int x6, .int x7, .int x8, .int x9]))] s.heap.size = A at hD ⊢
  have hA : ∀ q : Nat, s.heap.size ≤ q → A q := fun q h => by rw [← hAe]; exact Or.inr h
  have hS : va_S A s.heap s.heap [] := va_S.rf
  have hP : va_P D vwCl [(h0, .inr (4, [v0, v1, v2, v3, v4, .int x5, .int x6, .int x7, .int x8, .int x9]))] s.heap := hP
  have hl := lv_entry ([.ref h0]) (n := 1) (Nat.le_of_ble_eq_true rfl)
  rw [lg_entry_eq]
  generalize (lg_sl ([.ref h0]) ++ List.replicate (1 - (lg_sl ([.ref h0])).length) Slot.unset).toArray = ls at hl ⊢
  have hl : lv_has ls 1 [(0, .ref h0)] := hl
  refine lv_aload_n hx hb dX4_clear_0 rfl (lv_at hl 0 rfl) ?_
  refine lv_iconst (v := 0) hx hb dX4_clear_1 (by decide) ?_
  refine va_put (D := D) (ci := 4) (v := .int 0) (ty := .int) (C := RX4) (T := TX4) (N := 10) hx hb hts (fun w h => List.mem_cons_of_mem _ (inG4 w h)) tyX4 tyX4_ok nmX4 hown hK hP hD hS 0 rfl rfl 5 (by decide) (hts _ (List.mem_cons_of_mem _ gw_49)) (fun _ h9 => h9) rfl (by decide +kernel) rfl rfl (Nat.le_of_ble_eq_true rfl) dX4_clear_2 (fun H locs hP hD hS => ?_)
  have hP : va_P D vwCl [(h0, .inr (4, [v0, v1, v2, v3, v4, .int 0, .int x6, .int x7, .int x8, .int x9]))] H := hP
  have hD : va_D A [(h0, .inr (4, [v0, v1, v2, v3, v4, .int 0, .int x6, .int x7, .int x8, .int x9]))] := hD
  refine lv_aload_n hx hb dX4_clear_5 rfl (lv_at hl 0 rfl) ?_
  refine lv_iconst (v := 0) hx hb dX4_clear_6 (by decide) ?_
  refine va_put (D := D) (ci := 4) (v := .int 0) (ty := .int) (C := RX4) (T := TX4) (N := 10) hx hb hts (fun w h => List.mem_cons_of_mem _ (inG4 w h)) tyX4 tyX4_ok nmX4 hown hK hP hD hS 0 rfl rfl 6 (by decide) (hts _ (List.mem_cons_of_mem _ gw_50)) (fun _ h9 => h9) rfl (by decide +kernel) rfl rfl (Nat.le_of_ble_eq_true rfl) dX4_clear_7 (fun H locs hP hD hS => ?_)
  have hP : va_P D vwCl [(h0, .inr (4, [v0, v1, v2, v3, v4, .int 0, .int 0, .int x7, .int x8, .int x9]))] H := hP
  have hD : va_D A [(h0, .inr (4, [v0, v1, v2, v3, v4, .int 0, .int 0, .int x7, .int x8, .int x9]))] := hD
  refine lv_aload_n hx hb dX4_clear_10 rfl (lv_at hl 0 rfl) ?_
  refine lv_iconst (v := 0) hx hb dX4_clear_11 (by decide) ?_
  refine va_put (D := D) (ci := 4) (v := .int 0) (ty := .int) (C := RX4) (T := TX4) (N := 10) hx hb hts (fun w h => List.mem_cons_of_mem _ (inG4 w h)) tyX4 tyX4_ok nmX4 hown hK hP hD hS 0 rfl rfl 7 (by decide) (hts _ (List.mem_cons_of_mem _ gw_51)) (fun _ h9 => h9) rfl (by decide +kernel) rfl rfl (Nat.le_of_ble_eq_true rfl) dX4_clear_12 (fun H locs hP hD hS => ?_)
  have hP : va_P D vwCl [(h0, .inr (4, [v0, v1, v2, v3, v4, .int 0, .int 0, .int 0, .int x8, .int x9]))] H := hP
  have hD : va_D A [(h0, .inr (4, [v0, v1, v2, v3, v4, .int 0, .int 0, .int 0, .int x8, .int x9]))] := hD
  refine lv_aload_n hx hb dX4_clear_15 rfl (lv_at hl 0 rfl) ?_
  refine lv_iconst (v := 0) hx hb dX4_clear_16 (by decide) ?_
  refine va_put (D := D) (ci := 4) (v := .int 0) (ty := .int) (C := RX4) (T := TX4) (N := 10) hx hb hts (fun w h => List.mem_cons_of_mem _ (inG4 w h)) tyX4 tyX4_ok nmX4 hown hK hP hD hS 0 rfl rfl 8 (by decide) (hts _ (List.mem_cons_of_mem _ gw_52)) (fun _ h9 => h9) rfl (by decide +kernel) rfl rfl (Nat.le_of_ble_eq_true rfl) dX4_clear_17 (fun H locs hP hD hS => ?_)
  have hP : va_P D vwCl [(h0, .inr (4, [v0, v1, v2, v3, v4, .int 0, .int 0, .int 0, .int 0, .int x9]))] H := hP
  have hD : va_D A [(h0, .inr (4, [v0, v1, v2, v3, v4, .int 0, .int 0, .int 0, .int 0, .int x9]))] := hD
  refine lv_aload_n hx hb dX4_clear_20 rfl (lv_at hl 0 rfl) ?_
  refine lv_iconst (v := 0) hx hb dX4_clear_21 (by decide) ?_
  refine va_put (D := D) (ci := 4) (v := .int 0) (ty := .int) (C := RX4) (T := TX4) (N := 10) hx hb hts (fun w h => List.mem_cons_of_mem _ (inG4 w h)) tyX4 tyX4_ok nmX4 hown hK hP hD hS 0 rfl rfl 9 (by decide) (hts _ (List.mem_cons_of_mem _ gw_53)) (fun _ h9 => h9) rfl (by decide +kernel) rfl rfl (Nat.le_of_ble_eq_true rfl) dX4_clear_22 (fun H locs hP hD hS => ?_)
  have hP : va_P D vwCl [(h0, .inr (4, [v0, v1, v2, v3, v4, .int 0, .int 0, .int 0, .int 0, .int 0]))] H := hP
  have hD : va_D A [(h0, .inr (4, [v0, v1, v2, v3, v4, .int 0, .int 0, .int 0, .int 0, .int 0]))] := hD
  have hP9 := hP.sub (ws' := [(h0, .inr (4, [v0, v1, v2, v3, v4, .int 0, .int 0, .int 0, .int 0, .int 0]))]) [0] rfl
  have hD9 := hD.sub (ws' := [(h0, .inr (4, [v0, v1, v2, v3, v4, .int 0, .int 0, .int 0, .int 0, .int 0]))]) [0] (by decide) rfl
  have hK9 := hK.sub (tys' := []) [] rfl
  refine W.widen (k := 0) (n := 0) (Nat.le_of_ble_eq_true rfl) (Nat.le_of_ble_eq_true rfl) ?_
  exact W.vret hx hb hr (fun t ht hW => ⟨⟨(), rfl, (by first | trivial | rfl), by rw [ht]; exact hP9, va_K.moved hW.alike hK9, hD9⟩, hS.F ht⟩) hS.2.2 dX4_clear_25
end
section
theorem dX1_setFirstBounds_0 : decode cX1_setFirstBounds 0 = .ok (.iconst 0, 1) := by decide +kernel
theorem dX1_setFirstBounds_1 : decode cX1_setFirstBounds 1 = .ok (.istore_n 1, 1) := by decide +kernel
theorem dX1_setFirstBounds_2 : decode cX1_setFirstBounds 2 = .ok (.iload_n 1, 1) := by decide +kernel
theorem dX1_setFirstBounds_3 : decode cX1_setFirstBounds 3 = .ok (.bipush 24, 2) := by decide +kernel
theorem dX1_setFirstBounds_5 : decode cX1_setFirstBounds 5 = .ok (.if_icmp .ge 60, 3) := by decide +kernel
theorem dX1_setFirstBounds_65 : decode cX1_setFirstBounds 65 = .ok (.return_, 1) := by decide +kernel
theorem dX1_setFirstBounds_8 : decode cX1_setFirstBounds 8 = .ok (.iconst 0, 1) := by decide +kernel
theorem dX1_setFirstBounds_9 : decode cX1_setFirstBounds 9 = .ok (.istore_n 2, 1) := by decide +kernel
theorem dX1_setFirstBounds_10 : decode cX1_setFirstBounds 10 = .ok (.iload_n 2, 1) := by decide +kernel
theorem dX1_setFirstBounds_11 : decode cX1_setFirstBounds 11 = .ok (.iconst 4, 1) := by decide +kernel
theorem dX1_setFirstBounds_12 : decode cX1_setFirstBounds 12 = .ok (.if_icmp .ge 47, 3) := by decide +kernel
theorem dX1_setFirstBounds_59 : decode cX1_setFirstBounds 59 = .ok (.iinc 1 1, 3) := by decide +kernel
theorem dX1_setFirstBounds_62 : decode cX1_setFirstBounds 62 = .ok (.goto (-60), 3) := by decide +kernel
theorem dX1_setFirstBounds_15 : decode cX1_setFirstBounds 15 = .ok (.iload_n 1, 1) := by decide +kernel
theorem dX1_setFirstBounds_16 : decode cX1_setFirstBounds 16 = .ok (.iconst 4, 1) := by decide +kernel
theorem dX1_setFirstBounds_17 : decode cX1_setFirstBounds 17 = .ok (.imul, 1) := by decide +kernel
theorem dX1_setFirstBounds_18 : decode cX1_setFirstBounds 18 = .ok (.iload_n 2, 1) := by decide +kernel
theorem dX1_setFirstBounds_19 : decode cX1_setFirstBounds 19 = .ok (.iadd, 1) := by decide +kernel
theorem dX1_setFirstBounds_20 : decode cX1_setFirstBounds 20 = .ok (.istore_n 3, 1) := by decide +kernel
theorem dX1_setFirstBounds_21 : decode cX1_setFirstBounds 21 = .ok (.iload_n 2, 1) := by decide +kernel
theorem dX1_setFirstBounds_22 : decode cX1_setFirstBounds 22 = .ok (.ifCond .ne 7, 3) := by decide +kernel
theorem dX1_setFirstBounds_29 : decode cX1_setFirstBounds 29 = .ok (.iconst 3, 1) := by decide +kernel
theorem dX1_setFirstBounds_30 : decode cX1_setFirstBounds 30 = .ok (.istore 4, 2) := by decide +kernel
theorem dX1_setFirstBounds_32 : decode cX1_setFirstBounds 32 = .ok (.aload_n 0, 1) := by decide +kernel
theorem dX1_setFirstBounds_33 : decode cX1_setFirstBounds 33 = .ok (.getfield 21, 3) := by decide +kernel
theorem dX1_setFirstBounds_36 : decode cX1_setFirstBounds 36 = .ok (.iload_n 3, 1) := by decide +kernel
theorem dX1_setFirstBounds_37 : decode cX1_setFirstBounds 37 = .ok (.iconst 1, 1) := by decide +kernel
theorem dX1_setFirstBounds_38 : decode cX1_setFirstBounds 38 = .ok (.iload 4, 2) := by decide +kernel
theorem dX1_setFirstBounds_40 : decode cX1_setFirstBounds 40 = .ok (.isub, 1) := by decide +kernel
theorem dX1_setFirstBounds_41 : decode cX1_setFirstBounds 41 = .ok (.iastore, 1) := by decide +kernel
theorem dX1_setFirstBounds_42 : decode cX1_setFirstBounds 42 = .ok (.aload_n 0, 1) := by decide +kernel
theorem dX1_setFirstBounds_43 : decode cX1_setFirstBounds 43 = .ok (.getfield 25, 3) := by decide +kernel
theorem dX1_setFirstBounds_46 : decode cX1_setFirstBounds 46 = .ok (.iload_n 3, 1) := by decide +kernel
theorem dX1_setFirstBounds_47 : decode cX1_setFirstBounds 47 = .ok (.bipush 30, 2) := by decide +kernel
theorem dX1_setFirstBounds_49 : decode cX1_setFirstBounds 49 = .ok (.iload 4, 2) := by decide +kernel
theorem dX1_setFirstBounds_51 : decode cX1_setFirstBounds 51 = .ok (.iadd, 1) := by decide +kernel
theorem dX1_setFirstBounds_52 : decode cX1_setFirstBounds 52 = .ok (.iastore, 1) := by decide +kernel
theorem dX1_setFirstBounds_53 : decode cX1_setFirstBounds 53 = .ok (.iinc 2 1, 3) := by decide +kernel
theorem dX1_setFirstBounds_56 : decode cX1_setFirstBounds 56 = .ok (.goto (-46), 3) := by decide +kernel
theorem dX1_setFirstBounds_25 : decode cX1_setFirstBounds 25 = .ok (.iconst 0, 1) := by decide +kernel
theorem dX1_setFirstBounds_26 : decode cX1_setFirstBounds 26 = .ok (.goto 4, 3) := by decide +kernel
theorem dX1_directGap_0 : decode cX1_directGap 0 = .ok (.iload_n 1, 1) := by decide +kernel
theorem dX1_directGap_1 : decode cX1_directGap 1 = .ok (.iload_n 2, 1) := by decide +kernel
theorem dX1_directGap_2 : decode cX1_directGap 2 = .ok (.if_icmp .ne 7, 3) := by decide +kernel
theorem dX1_directGap_9 : decode cX1_directGap 9 = .ok (.iload_n 1, 1) := by decide +kernel
theorem dX1_directGap_10 : decode cX1_directGap 10 = .ok (.ifCond .eq 7, 3) := by decide +kernel
theorem dX1_directGap_17 : decode cX1_directGap 17 = .ok (.iconst 3, 1) := by decide +kernel
theorem dX1_directGap_18 : decode cX1_directGap 18 = .ok (.goto 5, 3) := by decide +kernel
theorem dX1_directGap_23 : decode cX1_directGap 23 = .ok (.istore_n 3, 1) := by decide +kernel
theorem dX1_directGap_24 : decode cX1_directGap 24 = .ok (.iconst 0, 1) := by decide +kernel
theorem dX1_directGap_25 : decode cX1_directGap 25 = .ok (.istore 4, 2) := by decide +kernel
theorem dX1_directGap_27 : decode cX1_directGap 27 = .ok (.iload 4, 2) := by decide +kernel
theorem dX1_directGap_29 : decode cX1_directGap 29 = .ok (.bipush 24, 2) := by decide +kernel
theorem dX1_directGap_31 : decode cX1_directGap 31 = .ok (.if_icmp .ge 37, 3) := by decide +kernel
theorem dX1_directGap_68 : decode cX1_directGap 68 = .ok (.iload_n 3, 1) := by decide +kernel
theorem dX1_directGap_69 : decode cX1_directGap 69 = .ok (.ireturn, 1) := by decide +kernel
theorem dX1_directGap_34 : decode cX1_directGap 34 = .ok (.iload_n 3, 1) := by decide +kernel
theorem dX1_directGap_35 : decode cX1_directGap 35 = .ok (.aload_n 0, 1) := by decide +kernel
theorem dX1_directGap_36 : decode cX1_directGap 36 = .ok (.getfield 25, 3) := by decide +kernel
theorem dX1_directGap_39 : decode cX1_directGap 39 = .ok (.iload 4, 2) := by decide +kernel
theorem dX1_directGap_41 : decode cX1_directGap 41 = .ok (.iconst 4, 1) := by decide +kernel
theorem dX1_directGap_42 : decode cX1_directGap 42 = .ok (.imul, 1) := by decide +kernel
theorem dX1_directGap_43 : decode cX1_directGap 43 = .ok (.iload_n 2, 1) := by decide +kernel
theorem dX1_directGap_44 : decode cX1_directGap 44 = .ok (.iadd, 1) := by decide +kernel
theorem dX1_directGap_45 : decode cX1_directGap 45 = .ok (.iaload, 1) := by decide +kernel
theorem dX1_directGap_46 : decode cX1_directGap 46 = .ok (.aload_n 0, 1) := by decide +kernel
theorem dX1_directGap_47 : decode cX1_directGap 47 = .ok (.getfield 21, 3) := by decide +kernel
theorem dX1_directGap_50 : decode cX1_directGap 50 = .ok (.iload 4, 2) := by decide +kernel
theorem dX1_directGap_52 : decode cX1_directGap 52 = .ok (.iconst 4, 1) := by decide +kernel
theorem dX1_directGap_53 : decode cX1_directGap 53 = .ok (.imul, 1) := by decide +kernel
theorem dX1_directGap_54 : decode cX1_directGap 54 = .ok (.iload_n 1, 1) := by decide +kernel
theorem dX1_directGap_55 : decode cX1_directGap 55 = .ok (.iadd, 1) := by decide +kernel
theorem dX1_directGap_56 : decode cX1_directGap 56 = .ok (.iaload, 1) := by decide +kernel
theorem dX1_directGap_57 : decode cX1_directGap 57 = .ok (.isub, 1) := by decide +kernel
theorem dX1_directGap_58 : decode cX1_directGap 58 = .ok (.invokestatic 55, 3) := by decide +kernel
theorem dX1_directGap_61 : decode cX1_directGap 61 = .ok (.istore_n 3, 1) := by decide +kernel
theorem dX1_directGap_62 : decode cX1_directGap 62 = .ok (.iinc 4 1, 3) := by decide +kernel
theorem dX1_directGap_65 : decode cX1_directGap 65 = .ok (.goto (-38), 3) := by decide +kernel
theorem dX1_directGap_13 : decode cX1_directGap 13 = .ok (.iload_n 2, 1) := by decide +kernel
theorem dX1_directGap_14 : decode cX1_directGap 14 = .ok (.ifCond .ne 7, 3) := by decide +kernel
theorem dX1_directGap_21 : decode cX1_directGap 21 = .ok (.bipush 6, 2) := by decide +kernel
theorem dX1_directGap_5 : decode cX1_directGap 5 = .ok (.iconst 0, 1) := by decide +kernel
theorem dX1_directGap_6 : decode cX1_directGap 6 = .ok (.goto 17, 3) := by decide +kernel
theorem dX1_closeGaps_0 : decode cX1_closeGaps 0 = .ok (.iconst 0, 1) := by decide +kernel
theorem dX1_closeGaps_1 : decode cX1_closeGaps 1 = .ok (.istore_n 1, 1) := by decide +kernel
theorem dX1_closeGaps_2 : decode cX1_closeGaps 2 = .ok (.iload_n 1, 1) := by decide +kernel
theorem dX1_closeGaps_3 : decode cX1_closeGaps 3 = .ok (.iconst 4, 1) := by decide +kernel
theorem dX1_closeGaps_4 : decode cX1_closeGaps 4 = .ok (.if_icmp .ge 38, 3) := by decide +kernel
theorem dX1_closeGaps_42 : decode cX1_closeGaps 42 = .ok (.iconst 0, 1) := by decide +kernel
theorem dX1_closeGaps_43 : decode cX1_closeGaps 43 = .ok (.istore_n 1, 1) := by decide +kernel
theorem dX1_closeGaps_44 : decode cX1_closeGaps 44 = .ok (.iload_n 1, 1) := by decide +kernel
theorem dX1_closeGaps_45 : decode cX1_closeGaps 45 = .ok (.iconst 4, 1) := by decide +kernel
theorem dX1_closeGaps_46 : decode cX1_closeGaps 46 = .ok (.if_icmp .ge 80, 3) := by decide +kernel
theorem dX1_closeGaps_126 : decode cX1_closeGaps 126 = .ok (.return_, 1) := by decide +kernel
theorem dX1_closeGaps_49 : decode cX1_closeGaps 49 = .ok (.iconst 0, 1) := by decide +kernel
theorem dX1_closeGaps_50 : decode cX1_closeGaps 50 = .ok (.istore_n 2, 1) := by decide +kernel
theorem dX1_closeGaps_51 : decode cX1_closeGaps 51 = .ok (.iload_n 2, 1) := by decide +kernel
theorem dX1_closeGaps_52 : decode cX1_closeGaps 52 = .ok (.iconst 4, 1) := by decide +kernel
theorem dX1_closeGaps_53 : decode cX1_closeGaps 53 = .ok (.if_icmp .ge 67, 3) := by decide +kernel
theorem dX1_closeGaps_120 : decode cX1_closeGaps 120 = .ok (.iinc 1 1, 3) := by decide +kernel
theorem dX1_closeGaps_123 : decode cX1_closeGaps 123 = .ok (.goto (-79), 3) := by decide +kernel
theorem dX1_closeGaps_56 : decode cX1_closeGaps 56 = .ok (.iconst 0, 1) := by decide +kernel
theorem dX1_closeGaps_57 : decode cX1_closeGaps 57 = .ok (.istore_n 3, 1) := by decide +kernel
theorem dX1_closeGaps_58 : decode cX1_closeGaps 58 = .ok (.iload_n 3, 1) := by decide +kernel
theorem dX1_closeGaps_59 : decode cX1_closeGaps 59 = .ok (.iconst 4, 1) := by decide +kernel
theorem dX1_closeGaps_60 : decode cX1_closeGaps 60 = .ok (.if_icmp .ge 54, 3) := by decide +kernel
theorem dX1_closeGaps_114 : decode cX1_closeGaps 114 = .ok (.iinc 2 1, 3) := by decide +kernel
theorem dX1_closeGaps_117 : decode cX1_closeGaps 117 = .ok (.goto (-66), 3) := by decide +kernel
theorem dX1_closeGaps_63 : decode cX1_closeGaps 63 = .ok (.iload_n 2, 1) := by decide +kernel
theorem dX1_closeGaps_64 : decode cX1_closeGaps 64 = .ok (.iconst 4, 1) := by decide +kernel
theorem dX1_closeGaps_65 : decode cX1_closeGaps 65 = .ok (.imul, 1) := by decide +kernel
theorem dX1_closeGaps_66 : decode cX1_closeGaps 66 = .ok (.iload_n 3, 1) := by decide +kernel
theorem dX1_closeGaps_67 : decode cX1_closeGaps 67 = .ok (.iadd, 1) := by decide +kernel
theorem dX1_closeGaps_68 : decode cX1_closeGaps 68 = .ok (.istore 4, 2) := by decide +kernel
theorem dX1_closeGaps_70 : decode cX1_closeGaps 70 = .ok (.aload_n 0, 1) := by decide +kernel
theorem dX1_closeGaps_71 : decode cX1_closeGaps 71 = .ok (.getfield 34, 3) := by decide +kernel
theorem dX1_closeGaps_74 : decode cX1_closeGaps 74 = .ok (.iload 4, 2) := by decide +kernel
theorem dX1_closeGaps_76 : decode cX1_closeGaps 76 = .ok (.aload_n 0, 1) := by decide +kernel
theorem dX1_closeGaps_77 : decode cX1_closeGaps 77 = .ok (.getfield 34, 3) := by decide +kernel
theorem dX1_closeGaps_80 : decode cX1_closeGaps 80 = .ok (.iload 4, 2) := by decide +kernel
theorem dX1_closeGaps_82 : decode cX1_closeGaps 82 = .ok (.iaload, 1) := by decide +kernel
theorem dX1_closeGaps_83 : decode cX1_closeGaps 83 = .ok (.aload_n 0, 1) := by decide +kernel
theorem dX1_closeGaps_84 : decode cX1_closeGaps 84 = .ok (.getfield 34, 3) := by decide +kernel
theorem dX1_closeGaps_87 : decode cX1_closeGaps 87 = .ok (.iload_n 2, 1) := by decide +kernel
theorem dX1_closeGaps_88 : decode cX1_closeGaps 88 = .ok (.iconst 4, 1) := by decide +kernel
theorem dX1_closeGaps_89 : decode cX1_closeGaps 89 = .ok (.imul, 1) := by decide +kernel
theorem dX1_closeGaps_90 : decode cX1_closeGaps 90 = .ok (.iload_n 1, 1) := by decide +kernel
theorem dX1_closeGaps_91 : decode cX1_closeGaps 91 = .ok (.iadd, 1) := by decide +kernel
theorem dX1_closeGaps_92 : decode cX1_closeGaps 92 = .ok (.iaload, 1) := by decide +kernel
theorem dX1_closeGaps_93 : decode cX1_closeGaps 93 = .ok (.aload_n 0, 1) := by decide +kernel
theorem dX1_closeGaps_94 : decode cX1_closeGaps 94 = .ok (.getfield 34, 3) := by decide +kernel
theorem dX1_closeGaps_97 : decode cX1_closeGaps 97 = .ok (.iload_n 1, 1) := by decide +kernel
theorem dX1_closeGaps_98 : decode cX1_closeGaps 98 = .ok (.iconst 4, 1) := by decide +kernel
theorem dX1_closeGaps_99 : decode cX1_closeGaps 99 = .ok (.imul, 1) := by decide +kernel
theorem dX1_closeGaps_100 : decode cX1_closeGaps 100 = .ok (.iload_n 3, 1) := by decide +kernel
theorem dX1_closeGaps_101 : decode cX1_closeGaps 101 = .ok (.iadd, 1) := by decide +kernel
theorem dX1_closeGaps_102 : decode cX1_closeGaps 102 = .ok (.iaload, 1) := by decide +kernel
theorem dX1_closeGaps_103 : decode cX1_closeGaps 103 = .ok (.iadd, 1) := by decide +kernel
theorem dX1_closeGaps_104 : decode cX1_closeGaps 104 = .ok (.invokestatic 55, 3) := by decide +kernel
theorem dX1_closeGaps_107 : decode cX1_closeGaps 107 = .ok (.iastore, 1) := by decide +kernel
theorem dX1_closeGaps_108 : decode cX1_closeGaps 108 = .ok (.iinc 3 1, 3) := by decide +kernel
theorem dX1_closeGaps_111 : decode cX1_closeGaps 111 = .ok (.goto (-53), 3) := by decide +kernel
theorem dX1_closeGaps_7 : decode cX1_closeGaps 7 = .ok (.iconst 0, 1) := by decide +kernel
theorem dX1_closeGaps_8 : decode cX1_closeGaps 8 = .ok (.istore_n 2, 1) := by decide +kernel
theorem dX1_closeGaps_9 : decode cX1_closeGaps 9 = .ok (.iload_n 2, 1) := by decide +kernel
theorem dX1_closeGaps_10 : decode cX1_closeGaps 10 = .ok (.iconst 4, 1) := by decide +kernel
theorem dX1_closeGaps_11 : decode cX1_closeGaps 11 = .ok (.if_icmp .ge 25, 3) := by decide +kernel
theorem dX1_closeGaps_36 : decode cX1_closeGaps 36 = .ok (.iinc 1 1, 3) := by decide +kernel
theorem dX1_closeGaps_39 : decode cX1_closeGaps 39 = .ok (.goto (-37), 3) := by decide +kernel
theorem dX1_closeGaps_14 : decode cX1_closeGaps 14 = .ok (.aload_n 0, 1) := by decide +kernel
theorem dX1_closeGaps_15 : decode cX1_closeGaps 15 = .ok (.getfield 34, 3) := by decide +kernel
theorem dX1_closeGaps_18 : decode cX1_closeGaps 18 = .ok (.iload_n 1, 1) := by decide +kernel
theorem dX1_closeGaps_19 : decode cX1_closeGaps 19 = .ok (.iconst 4, 1) := by decide +kernel
theorem dX1_closeGaps_20 : decode cX1_closeGaps 20 = .ok (.imul, 1) := by decide +kernel
theorem dX1_closeGaps_21 : decode cX1_closeGaps 21 = .ok (.iload_n 2, 1) := by decide +kernel
theorem dX1_closeGaps_22 : decode cX1_closeGaps 22 = .ok (.iadd, 1) := by decide +kernel
theorem dX1_closeGaps_23 : decode cX1_closeGaps 23 = .ok (.aload_n 0, 1) := by decide +kernel
theorem dX1_closeGaps_24 : decode cX1_closeGaps 24 = .ok (.iload_n 1, 1) := by decide +kernel
theorem dX1_closeGaps_25 : decode cX1_closeGaps 25 = .ok (.iload_n 2, 1) := by decide +kernel
theorem dX1_closeGaps_26 : decode cX1_closeGaps 26 = .ok (.invokevirtual 97, 3) := by decide +kernel
theorem dX1_closeGaps_29 : decode cX1_closeGaps 29 = .ok (.iastore, 1) := by decide +kernel
theorem dX1_closeGaps_30 : decode cX1_closeGaps 30 = .ok (.iinc 2 1, 3) := by decide +kernel
theorem dX1_closeGaps_33 : decode cX1_closeGaps 33 = .ok (.goto (-24), 3) := by decide +kernel
set_option maxHeartbeats 4000000 in
set_option maxRecDepth 100000 in
theorem c_X1_setFirstBounds (l : Launch) (D : va_G) (sz : Nat) (h0 : Nat) (fs : List Value) (ql : Nat) (qh : Nat) (kl : ClassId) (kh : ClassId) (fl : Nat → Int32) (fh : Nat → Int32) (hf2 : fs[2]? = some (.ref ql)) (hf3 : fs[3]? = some (.ref qh)) : Met l yX1_setFirstBounds (.code yX1_setFirstBounds cX1_setFirstBounds 5 none :: G) ({ frames := 2, cells := 0, slots := 0, locals := 40 }) (va_Pc [.ref h0] (pw D sz [(h0, .inr (1, fs)), (ql, .inl (kl, 96, .inl fl)), (qh, .inl (kh, 96, .inl fh))] [(kl, .int), (kh, .int)])) (va_Qv (fun (u : (Nat → Int32) × (Nat → Int32)) => True) (fun (u : (Nat → Int32) × (Nat → Int32)) => qw D (va_A [(h0, .inr (1, fs)), (ql, .inl (kl, 96, .inl fl)), (qh, .inl (kh, 96, .inl fh))] sz) [(h0, .inr (1, fs)), (ql, .inl (kl, 96, .inl u.1)), (qh, .inl (kh, 96, .inl u.2))] []) (va_A [(h0, .inr (1, fs)), (ql, .inl (kl, 96, .inl fl)), (qh, .inl (kh, 96, .inl fh))] sz)) 0 0 (va_A [(h0, .inr (1, fs)), (ql, .inl (kl, 96, .inl fl)), (qh, .inl (kh, 96, .inl fh))] sz) := by
  refine Met.ofW (cc := cX1_setFirstBounds) (maxL := 5) (ret := none) (by decide) rfl ?_
  intro p e s m args below meth c s₁ B hml hv
  obtain ⟨rfl, hsz, hP, hK, hD0, hN⟩ := hv
  have hx := B.exec
  have hb := B.bytes
  have hr := B.returns
  have hts := atoms_spec (ws := (.code yX1_setFirstBounds cX1_setFirstBounds 5 none :: G)) B.pre
  have hown : s.vm.findClass RX1 = some m.cls := findClass_of_methodNamed B.named
  have hlocks := B.notSynchronized
  subst hsz
  have hD := hD0.self (sz := s.heap.size)
  generalize hAe : va_A [(h0, .inr (1, fs)), (ql, .inl (kl, 96, .inl fl)), (qh, .inl (kh, 96, .inl fh))] s.heap.size = A at hD ⊢
  have hA : ∀ q : Nat, s.heap.size ≤ q → A q := fun q h => by rw [← hAe]; exact Or.inr h
  have hS : va_S A s.heap s.heap [] := va_S.rf
  have hP : va_P D vwCl [(h0, .inr (1, fs)), (ql, .inl (kl, 96, .inl fl)), (qh, .inl (kh, 96, .inl fh))] s.heap := hP
  have hl := lv_entry ([.ref h0]) (n := 5) (Nat.le_of_ble_eq_true rfl)
  rw [lg_entry_eq]
  generalize (lg_sl ([.ref h0]) ++ List.replicate (5 - (lg_sl ([.ref h0])).length) Slot.unset).toArray = ls at hl ⊢
  have hl : lv_has ls 5 [(0, .ref h0)] := hl
  refine lv_iconst (v := 0) hx hb dX1_setFirstBounds_0 (by decide) ?_
  refine lv_istore_n (lv' := [(1, .int 0), (0, .ref h0)]) hx hb dX1_setFirstBounds_1 rfl hl (by decide) rfl (fun ls hl => ?_)
  have lp2 : ∀ (n i1 : Nat) (f_1 : Nat → Int32) (f_2 : Nat → Int32) (H : Heap) (locs : List Loc) (ls : Array Slot), i1 ≤ 24 → 24 < i1 + n → va_P D vwCl [(h0, .inr (1, fs)), (ql, .inl (kl, 96, .inl f_1)), (qh, .inl (kh, 96, .inl f_2))] H → va_D A [(h0, .inr (1, fs)), (ql, .inl (kl, 96, .inl f_1)), (qh, .inl (kh, 96, .inl f_2))] → va_S A s.heap H locs → lv_has ls 5 [(1, .int (nI i1)), (0, .ref h0)] → W p l e ({ frames := 2, cells := 0, slots := 0, locals := 40 } : Room) s m (([.ref h0] : List Value).toArray) below meth c H locs 0 0 (MQ below (va_Qv (fun (u : (Nat → Int32) × (Nat → Int32)) => True) (fun (u : (Nat → Int32) × (Nat → Int32)) => qw D A [(h0, .inr (1, fs)), (ql, .inl (kl, 96, .inl u.1)), (qh, .inl (kh, 96, .inl u.2))] []) A) (([.ref h0] : List Value).toArray) s 0 0 A) (F0 m 2 ls []) := by
    intro n
    induction n with
    | zero => intro i1 f_1 f_2 H locs ls hi hn; exact absurd hn (by omega)
    | succ n ih2 =>
      intro i1 f_1 f_2 H locs ls hi_3 hn_4 hP hD hS hl
      refine lv_iload_n hx hb dX1_setFirstBounds_2 rfl (lv_at hl 0 rfl) ?_
      refine lv_bipush (v := 24) hx hb dX1_setFirstBounds_3 (by decide) ?_
      refine lv_icmp_ge (tgt := 65) hx hb dX1_setFirstBounds_5 (by decide) (fun c_6 => ?_) (fun c_6 => ?_)
      · skip
        have hc_6 := ge_of (i := i1) 24 c_6 rfl (by omega) (by omega)
        have hP9 := hP.sub (ws' := [(h0, .inr (1, fs)), (ql, .inl (kl, 96, .inl f_1)), (qh, .inl (kh, 96, .inl f_2))]) [0, 1, 2] rfl
        have hD9 := hD.sub (ws' := [(h0, .inr (1, fs)), (ql, .inl (kl, 96, .inl f_1)), (qh, .inl (kh, 96, .inl f_2))]) [0, 1, 2] (by decide) rfl
        have hK9 := hK.sub (tys' := []) [] rfl
        refine W.widen (k := 0) (n := 0) (Nat.le_of_ble_eq_true rfl) (Nat.le_of_ble_eq_true rfl) ?_
        exact W.vret hx hb hr (fun t ht hW => ⟨⟨(f_1, f_2), rfl, (by first | trivial | rfl), by rw [ht]; exact hP9, va_K.moved hW.alike hK9, hD9⟩, hS.F ht⟩) hS.2.2 dX1_setFirstBounds_65
      · skip
        have hc_6 := lt_of (i := i1) 24 c_6 rfl (by omega)
        refine lv_iconst (v := 0) hx hb dX1_setFirstBounds_8 (by decide) ?_
        refine lv_istore_n (lv' := [(2, .int 0), (1, .int (nI i1)), (0, .ref h0)]) hx hb dX1_setFirstBounds_9 rfl hl (by decide) rfl (fun ls hl => ?_)
        have lp10 : ∀ (n i2 : Nat) (f_7 : Nat → Int32) (f_8 : Nat → Int32) (H : Heap) (locs : List Loc) (ls : Array Slot), i2 ≤ 4 → 4 < i2 + n → va_P D vwCl [(h0, .inr (1, fs)), (ql, .inl (kl, 96, .inl f_7)), (qh, .inl (kh, 96, .inl f_8))] H → va_D A [(h0, .inr (1, fs)), (ql, .inl (kl, 96, .inl f_7)), (qh, .inl (kh, 96, .inl f_8))] → va_S A s.heap H locs → lv_has ls 5 [(2, .int (nI i2)), (1, .int (nI i1)), (0, .ref h0)] → W p l e ({ frames := 2, cells := 0, slots := 0, locals := 40 } : Room) s m (([.ref h0] : List Value).toArray) below meth c H locs 0 0 (MQ below (va_Qv (fun (u : (Nat → Int32) × (Nat → Int32)) => True) (fun (u : (Nat → Int32) × (Nat → Int32)) => qw D A [(h0, .inr (1, fs)), (ql, .inl (kl, 96, .inl u.1)), (qh, .inl (kh, 96, .inl u.2))] []) A) (([.ref h0] : List Value).toArray) s 0 0 A) (F0 m 10 ls []) := by
          intro n
          induction n with
          | zero => intro i2 f_7 f_8 H locs ls hi hn; exact absurd hn (by omega)
          | succ n ih10 =>
            intro i2 f_7 f_8 H locs ls hi_9 hn_10 hP hD hS hl
            refine lv_iload_n hx hb dX1_setFirstBounds_10 rfl (lv_at hl 0 rfl) ?_
            refine lv_iconst (v := 4) hx hb dX1_setFirstBounds_11 (by decide) ?_
            refine lv_icmp_ge (tgt := 59) hx hb dX1_setFirstBounds_12 (by decide) (fun c_12 => ?_) (fun c_12 => ?_)
            · skip
              have hc_12 := ge_of (i := i2) 4 c_12 rfl (by omega) (by omega)
              refine lv_iinc (v := (nI (i1 + 1))) (lv' := [(1, .int (nI (i1 + 1))), (2, .int (nI i2)), (0, .ref h0)]) hx hb dX1_setFirstBounds_59 hl (k := 1) rfl (nI_1 _) (by decide) rfl (fun ls hl => ?_)
              refine lv_goto (tgt := 2) hx hb dX1_setFirstBounds_62 (by decide) ?_
              exact ih2 (i1 + 1) _ _ _ _ _ (by omega) (by omega) (hP.sub [0, 1, 2] rfl) (hD.sub [0, 1, 2] (by decide) rfl) hS (lv_sub hl [0, 2] rfl)
            · skip
              have hc_12 := lt_of (i := i2) 4 c_12 rfl (by omega)
              refine lv_iload_n hx hb dX1_setFirstBounds_15 rfl (lv_at hl 1 rfl) ?_
              refine lv_iconst (v := 4) hx hb dX1_setFirstBounds_16 (by decide) ?_
              refine lv_imul hx hb dX1_setFirstBounds_17 ?_
              refine tI (y := nI (i1 * 4)) (pk_mul i1 4) ?_
              refine lv_iload_n hx hb dX1_setFirstBounds_18 rfl (lv_at hl 0 rfl) ?_
              refine lv_iadd hx hb dX1_setFirstBounds_19 ?_
              refine tI (y := nI ((i1 * 4) + i2)) (nI_add (i1 * 4) i2) ?_
              refine lv_istore_n (lv' := [(3, .int (nI ((i1 * 4) + i2))), (2, .int (nI i2)), (1, .int (nI i1)), (0, .ref h0)]) hx hb dX1_setFirstBounds_20 rfl hl (by decide) rfl (fun ls hl => ?_)
              refine lv_iload_n hx hb dX1_setFirstBounds_21 rfl (lv_at hl 1 rfl) ?_
              refine lv_if_ne (tgt := 29) hx hb dX1_setFirstBounds_22 (by decide) (fun c_13 => ?_) (fun c_13 => ?_)
              · skip
                refine lv_iconst (v := 3) hx hb dX1_setFirstBounds_29 (by decide) ?_
                refine lv_istore (lv' := [(4, .int 3), (3, .int (nI ((i1 * 4) + i2))), (2, .int (nI i2)), (1, .int (nI i1)), (0, .ref h0)]) hx hb dX1_setFirstBounds_30 hl (by decide) rfl (fun ls hl => ?_)
                refine lv_aload_n hx hb dX1_setFirstBounds_32 rfl (lv_at hl 4 rfl) ?_
                refine va_get (D := D) (ci := 1) (v := .ref ql) (C := RX1) (T := TX1) (N := 7) hx hb hts (fun w h => List.mem_cons_of_mem _ (inG1 w h)) hown hK hP 0 rfl rfl 2 (by decide) (hts _ (List.mem_cons_of_mem _ gw_54)) (fun _ h9 => h9) hf2 dX1_setFirstBounds_33 ?_
                refine lv_iload_n hx hb dX1_setFirstBounds_36 rfl (lv_at hl 1 rfl) ?_
                refine lv_iconst (v := 1) hx hb dX1_setFirstBounds_37 (by decide) ?_
                refine lv_iload hx hb dX1_setFirstBounds_38 (lv_at hl 0 rfl) ?_
                refine lv_isub hx hb dX1_setFirstBounds_40 ?_
                refine tI (y := (-2)) (by decide) ?_
                refine va_iast hx hb hK hP hD hS 1 0 rfl rfl (vp_in_nI (n := (i1 * 4) + i2) (N := 96) (by omega) (by omega)) dX1_setFirstBounds_41 (fun H locs hP hD hS => ?_)
                obtain ⟨f_14, hP, hD⟩ : ∃ f : Nat → Int32, va_P D vwCl [(h0, .inr (1, fs)), (ql, .inl (kl, 96, .inl f)), (qh, .inl (kh, 96, .inl f_8))] H ∧ va_D A [(h0, .inr (1, fs)), (ql, .inl (kl, 96, .inl f)), (qh, .inl (kh, 96, .inl f_8))] := ⟨_, hP, hD⟩
                refine lv_aload_n hx hb dX1_setFirstBounds_42 rfl (lv_at hl 4 rfl) ?_
                refine va_get (D := D) (ci := 1) (v := .ref qh) (C := RX1) (T := TX1) (N := 7) hx hb hts (fun w h => List.mem_cons_of_mem _ (inG1 w h)) hown hK hP 0 rfl rfl 3 (by decide) (hts _ (List.mem_cons_of_mem _ gw_55)) (fun _ h9 => h9) hf3 dX1_setFirstBounds_43 ?_
                refine lv_iload_n hx hb dX1_setFirstBounds_46 rfl (lv_at hl 1 rfl) ?_
                refine lv_bipush (v := 30) hx hb dX1_setFirstBounds_47 (by decide) ?_
                refine lv_iload hx hb dX1_setFirstBounds_49 (lv_at hl 0 rfl) ?_
                refine lv_iadd hx hb dX1_setFirstBounds_51 ?_
                refine tI (y := 33) (by decide) ?_
                refine va_iast hx hb hK hP hD hS 2 1 rfl rfl (vp_in_nI (n := (i1 * 4) + i2) (N := 96) (by omega) (by omega)) dX1_setFirstBounds_52 (fun H locs hP hD hS => ?_)
                obtain ⟨f_15, hP, hD⟩ : ∃ f : Nat → Int32, va_P D vwCl [(h0, .inr (1, fs)), (ql, .inl (kl, 96, .inl f_14)), (qh, .inl (kh, 96, .inl f))] H ∧ va_D A [(h0, .inr (1, fs)), (ql, .inl (kl, 96, .inl f_14)), (qh, .inl (kh, 96, .inl f))] := ⟨_, hP, hD⟩
                refine lv_iinc (v := (nI (i2 + 1))) (lv' := [(2, .int (nI (i2 + 1))), (4, .int 3), (3, .int (nI ((i1 * 4) + i2))), (1, .int (nI i1)), (0, .ref h0)]) hx hb dX1_setFirstBounds_53 hl (k := 2) rfl (nI_1 _) (by decide) rfl (fun ls hl => ?_)
                refine lv_goto (tgt := 10) hx hb dX1_setFirstBounds_56 (by decide) ?_
                exact ih10 (i2 + 1) _ _ _ _ _ (by omega) (by omega) (hP.sub [0, 1, 2] rfl) (hD.sub [0, 1, 2] (by decide) rfl) hS (lv_sub hl [0, 3, 4] rfl)
              · skip
                refine lv_iconst (v := 0) hx hb dX1_setFirstBounds_25 (by decide) ?_
                refine lv_goto (tgt := 30) hx hb dX1_setFirstBounds_26 (by decide) ?_
                refine lv_istore (lv' := [(4, .int 0), (3, .int (nI ((i1 * 4) + i2))), (2, .int (nI i2)), (1, .int (nI i1)), (0, .ref h0)]) hx hb dX1_setFirstBounds_30 hl (by decide) rfl (fun ls hl => ?_)
                refine lv_aload_n hx hb dX1_setFirstBounds_32 rfl (lv_at hl 4 rfl) ?_
                refine va_get (D := D) (ci := 1) (v := .ref ql) (C := RX1) (T := TX1) (N := 7) hx hb hts (fun w h => List.mem_cons_of_mem _ (inG1 w h)) hown hK hP 0 rfl rfl 2 (by decide) (hts _ (List.mem_cons_of_mem _ gw_54)) (fun _ h9 => h9) hf2 dX1_setFirstBounds_33 ?_
                refine lv_iload_n hx hb dX1_setFirstBounds_36 rfl (lv_at hl 1 rfl) ?_
                refine lv_iconst (v := 1) hx hb dX1_setFirstBounds_37 (by decide) ?_
                refine lv_iload hx hb dX1_setFirstBounds_38 (lv_at hl 0 rfl) ?_
                refine lv_isub hx hb dX1_setFirstBounds_40 ?_
                refine tI (y := 1) (by decide) ?_
                refine va_iast hx hb hK hP hD hS 1 0 rfl rfl (vp_in_nI (n := (i1 * 4) + i2) (N := 96) (by omega) (by omega)) dX1_setFirstBounds_41 (fun H locs hP hD hS => ?_)
                obtain ⟨f_16, hP, hD⟩ : ∃ f : Nat → Int32, va_P D vwCl [(h0, .inr (1, fs)), (ql, .inl (kl, 96, .inl f)), (qh, .inl (kh, 96, .inl f_8))] H ∧ va_D A [(h0, .inr (1, fs)), (ql, .inl (kl, 96, .inl f)), (qh, .inl (kh, 96, .inl f_8))] := ⟨_, hP, hD⟩
                refine lv_aload_n hx hb dX1_setFirstBounds_42 rfl (lv_at hl 4 rfl) ?_
                refine va_get (D := D) (ci := 1) (v := .ref qh) (C := RX1) (T := TX1) (N := 7) hx hb hts (fun w h => List.mem_cons_of_mem _ (inG1 w h)) hown hK hP 0 rfl rfl 3 (by decide) (hts _ (List.mem_cons_of_mem _ gw_55)) (fun _ h9 => h9) hf3 dX1_setFirstBounds_43 ?_
                refine lv_iload_n hx hb dX1_setFirstBounds_46 rfl (lv_at hl 1 rfl) ?_
                refine lv_bipush (v := 30) hx hb dX1_setFirstBounds_47 (by decide) ?_
                refine lv_iload hx hb dX1_setFirstBounds_49 (lv_at hl 0 rfl) ?_
                refine lv_iadd hx hb dX1_setFirstBounds_51 ?_
                refine tI (y := 30) (by decide) ?_
                refine va_iast hx hb hK hP hD hS 2 1 rfl rfl (vp_in_nI (n := (i1 * 4) + i2) (N := 96) (by omega) (by omega)) dX1_setFirstBounds_52 (fun H locs hP hD hS => ?_)
                obtain ⟨f_17, hP, hD⟩ : ∃ f : Nat → Int32, va_P D vwCl [(h0, .inr (1, fs)), (ql, .inl (kl, 96, .inl f_16)), (qh, .inl (kh, 96, .inl f))] H ∧ va_D A [(h0, .inr (1, fs)), (ql, .inl (kl, 96, .inl f_16)), (qh, .inl (kh, 96, .inl f))] := ⟨_, hP, hD⟩
                refine lv_iinc (v := (nI (i2 + 1))) (lv' := [(2, .int (nI (i2 + 1))), (4, .int 0), (3, .int (nI ((i1 * 4) + i2))), (1, .int (nI i1)), (0, .ref h0)]) hx hb dX1_setFirstBounds_53 hl (k := 2) rfl (nI_1 _) (by decide) rfl (fun ls hl => ?_)
                refine lv_goto (tgt := 10) hx hb dX1_setFirstBounds_56 (by decide) ?_
                exact ih10 (i2 + 1) _ _ _ _ _ (by omega) (by omega) (hP.sub [0, 1, 2] rfl) (hD.sub [0, 1, 2] (by decide) rfl) hS (lv_sub hl [0, 3, 4] rfl)
        exact lp10 (4 + 1) 0 _ _ _ _ _ (by omega) (by omega) hP hD hS (lv_sub hl [0, 1, 2] rfl)
  exact lp2 (24 + 1) 0 _ _ _ _ _ (by omega) (by omega) hP hD hS (lv_sub hl [0, 1] rfl)
set_option maxHeartbeats 4000000 in
set_option maxRecDepth 100000 in
theorem c_X1_directGap (l : Launch) (D : va_G) (sz : Nat) (h0 : Nat) (i0 : Nat) (j0 : Nat) (fs : List Value) (ql : Nat) (qh : Nat) (kl : ClassId) (kh : ClassId) (fl : Nat → Int32) (fh : Nat → Int32) (hf2 : fs[2]? = some (.ref ql)) (hf3 : fs[3]? = some (.ref qh)) (hi0 : i0 < 4) (hj0 : j0 < 4) : Met l yX1_directGap (.code yX1_directGap cX1_directGap 5 (some .int) :: G) ({ frames := 2, cells := 0, slots := 0, locals := 60 }) (va_Pc [.ref h0, .int (nI i0), .int (nI j0)] (pw D sz [(h0, .inr (1, fs)), (ql, .inl (kl, 96, .inl fl)), (qh, .inl (kh, 96, .inl fh))] [(kl, .int), (kh, .int)])) (va_Qi (fun (r : Int32) (u : Unit) => True) (fun (u : Unit) => qw D (va_A [(h0, .inr (1, fs)), (ql, .inl (kl, 96, .inl fl)), (qh, .inl (kh, 96, .inl fh))] sz) [(h0, .inr (1, fs)), (ql, .inl (kl, 96, .inl fl)), (qh, .inl (kh, 96, .inl fh))] []) (va_A [(h0, .inr (1, fs)), (ql, .inl (kl, 96, .inl fl)), (qh, .inl (kh, 96, .inl fh))] sz)) 0 0 (va_A [(h0, .inr (1, fs)), (ql, .inl (kl, 96, .inl fl)), (qh, .inl (kh, 96, .inl fh))] sz) := by
  refine Met.ofW (cc := cX1_directGap) (maxL := 5) (ret := (some .int)) (by decide) rfl ?_
  intro p e s m args below meth c s₁ B hml hv
  obtain ⟨rfl, hsz, hP, hK, hD0, hN⟩ := hv
  have hx := B.exec
  have hb := B.bytes
  have hr := B.returns
  have hts := atoms_spec (ws := (.code yX1_directGap cX1_directGap 5 (some .int) :: G)) B.pre
  have hown : s.vm.findClass RX1 = some m.cls := findClass_of_methodNamed B.named
  have hlocks := B.notSynchronized
  subst hsz
  have hD := hD0.self (sz := s.heap.size)
  generalize hAe : va_A [(h0, .inr (1, fs)), (ql, .inl (kl, 96, .inl fl)), (qh, .inl (kh, 96, .inl fh))] s.heap.size = A at hD ⊢
  have hA : ∀ q : Nat, s.heap.size ≤ q → A q := fun q h => by rw [← hAe]; exact Or.inr h
  have hS : va_S A s.heap s.heap [] := va_S.rf
  have hP : va_P D vwCl [(h0, .inr (1, fs)), (ql, .inl (kl, 96, .inl fl)), (qh, .inl (kh, 96, .inl fh))] s.heap := hP
  have hl := lv_entry ([.ref h0, .int (nI i0), .int (nI j0)]) (n := 5) (Nat.le_of_ble_eq_true rfl)
  rw [lg_entry_eq]
  generalize (lg_sl ([.ref h0, .int (nI i0), .int (nI j0)]) ++ List.replicate (5 - (lg_sl ([.ref h0, .int (nI i0), .int (nI j0)])).length) Slot.unset).toArray = ls at hl ⊢
  have hl : lv_has ls 5 [(0, .ref h0), (1, .int (nI i0)), (2, .int (nI j0))] := hl
  refine lv_iload_n hx hb dX1_directGap_0 rfl (lv_at hl 1 rfl) ?_
  refine lv_iload_n hx hb dX1_directGap_1 rfl (lv_at hl 2 rfl) ?_
  refine lv_icmp_ne (tgt := 9) hx hb dX1_directGap_2 (by decide) (fun c_1 => ?_) (fun c_1 => ?_)
  · skip
    refine lv_iload_n hx hb dX1_directGap_9 rfl (lv_at hl 1 rfl) ?_
    refine lv_if_eq (tgt := 17) hx hb dX1_directGap_10 (by decide) (fun c_2 => ?_) (fun c_2 => ?_)
    · skip
      refine lv_iconst (v := 3) hx hb dX1_directGap_17 (by decide) ?_
      refine lv_goto (tgt := 23) hx hb dX1_directGap_18 (by decide) ?_
      refine lv_istore_n (lv' := [(3, .int 3), (0, .ref h0), (1, .int (nI i0)), (2, .int (nI j0))]) hx hb dX1_directGap_23 rfl hl (by decide) rfl (fun ls hl => ?_)
      refine lv_iconst (v := 0) hx hb dX1_directGap_24 (by decide) ?_
      refine lv_istore (lv' := [(4, .int 0), (3, .int 3), (0, .ref h0), (1, .int (nI i0)), (2, .int (nI j0))]) hx hb dX1_directGap_25 hl (by decide) rfl (fun ls hl => ?_)
      have lp27 : ∀ (n i4 : Nat) (y_3 : Int32) (H : Heap) (locs : List Loc) (ls : Array Slot), i4 ≤ 24 → 24 < i4 + n → va_P D vwCl [(h0, .inr (1, fs)), (ql, .inl (kl, 96, .inl fl)), (qh, .inl (kh, 96, .inl fh))] H → va_D A [(h0, .inr (1, fs)), (ql, .inl (kl, 96, .inl fl)), (qh, .inl (kh, 96, .inl fh))] → va_S A s.heap H locs → lv_has ls 5 [(4, .int (nI i4)), (3, .int y_3), (0, .ref h0), (1, .int (nI i0)), (2, .int (nI j0))] → W p l e ({ frames := 2, cells := 0, slots := 0, locals := 60 } : Room) s m (([.ref h0, .int (nI i0), .int (nI j0)] : List Value).toArray) below meth c H locs 0 0 (MQ below (va_Qi (fun (r : Int32) (u : Unit) => True) (fun (u : Unit) => qw D A [(h0, .inr (1, fs)), (ql, .inl (kl, 96, .inl fl)), (qh, .inl (kh, 96, .inl fh))] []) A) (([.ref h0, .int (nI i0), .int (nI j0)] : List Value).toArray) s 0 0 A) (F0 m 27 ls []) := by
        intro n
        induction n with
        | zero => intro i4 y_3 H locs ls hi hn; exact absurd hn (by omega)
        | succ n ih27 =>
          intro i4 y_3 H locs ls hi_4 hn_5 hP hD hS hl
          refine lv_iload hx hb dX1_directGap_27 (lv_at hl 0 rfl) ?_
          refine lv_bipush (v := 24) hx hb dX1_directGap_29 (by decide) ?_
          refine lv_icmp_ge (tgt := 68) hx hb dX1_directGap_31 (by decide) (fun c_7 => ?_) (fun c_7 => ?_)
          · skip
            have hc_7 := ge_of (i := i4) 24 c_7 rfl (by omega) (by omega)
            refine lv_iload_n hx hb dX1_directGap_68 rfl (lv_at hl 1 rfl) ?_
            have hP9 := hP.sub (ws' := [(h0, .inr (1, fs)), (ql, .inl (kl, 96, .inl fl)), (qh, .inl (kh, 96, .inl fh))]) [0, 1, 2] rfl
            have hD9 := hD.sub (ws' := [(h0, .inr (1, fs)), (ql, .inl (kl, 96, .inl fl)), (qh, .inl (kh, 96, .inl fh))]) [0, 1, 2] (by decide) rfl
            have hK9 := hK.sub (tys' := []) [] rfl
            refine W.widen (k := 0) (n := 0) (Nat.le_of_ble_eq_true rfl) (Nat.le_of_ble_eq_true rfl) ?_
            exact W.iret (v := y_3) hx hb hr (fun t ht hW => ⟨⟨y_3, (), rfl, (by first | trivial | rfl), by rw [ht]; exact hP9, va_K.moved hW.alike hK9, hD9⟩, hS.F ht⟩) hS.2.2 dX1_directGap_69
          · skip
            have hc_7 := lt_of (i := i4) 24 c_7 rfl (by omega)
            refine lv_iload_n hx hb dX1_directGap_34 rfl (lv_at hl 1 rfl) ?_
            refine lv_aload_n hx hb dX1_directGap_35 rfl (lv_at hl 2 rfl) ?_
            refine va_get (D := D) (ci := 1) (v := .ref qh) (C := RX1) (T := TX1) (N := 7) hx hb hts (fun w h => List.mem_cons_of_mem _ (inG1 w h)) hown hK hP 0 rfl rfl 3 (by decide) (hts _ (List.mem_cons_of_mem _ gw_55)) (fun _ h9 => h9) hf3 dX1_directGap_36 ?_
            refine lv_iload hx hb dX1_directGap_39 (lv_at hl 0 rfl) ?_
            refine lv_iconst (v := 4) hx hb dX1_directGap_41 (by decide) ?_
            refine lv_imul hx hb dX1_directGap_42 ?_
            refine tI (y := nI (i4 * 4)) (pk_mul i4 4) ?_
            refine lv_iload_n hx hb dX1_directGap_43 rfl (lv_at hl 4 rfl) ?_
            refine lv_iadd hx hb dX1_directGap_44 ?_
            refine tI (y := nI ((i4 * 4) + j0)) (nI_add (i4 * 4) j0) ?_
            refine va_iald hx hb hK hP 2 1 rfl rfl (vp_in_nI (n := (i4 * 4) + j0) (N := 96) (by omega) (by omega)) dX1_directGap_45 ?_
            refine tF (fun v_8 => ?_)
            refine lv_aload_n hx hb dX1_directGap_46 rfl (lv_at hl 2 rfl) ?_
            refine va_get (D := D) (ci := 1) (v := .ref ql) (C := RX1) (T := TX1) (N := 7) hx hb hts (fun w h => List.mem_cons_of_mem _ (inG1 w h)) hown hK hP 0 rfl rfl 2 (by decide) (hts _ (List.mem_cons_of_mem _ gw_54)) (fun _ h9 => h9) hf2 dX1_directGap_47 ?_
            refine lv_iload hx hb dX1_directGap_50 (lv_at hl 0 rfl) ?_
            refine lv_iconst (v := 4) hx hb dX1_directGap_52 (by decide) ?_
            refine lv_imul hx hb dX1_directGap_53 ?_
            refine tI (y := nI (i4 * 4)) (pk_mul i4 4) ?_
            refine lv_iload_n hx hb dX1_directGap_54 rfl (lv_at hl 3 rfl) ?_
            refine lv_iadd hx hb dX1_directGap_55 ?_
            refine tI (y := nI ((i4 * 4) + i0)) (nI_add (i4 * 4) i0) ?_
            refine va_iald hx hb hK hP 1 0 rfl rfl (vp_in_nI (n := (i4 * 4) + i0) (N := 96) (by omega) (by omega)) dX1_directGap_56 ?_
            refine tF (fun v_9 => ?_)
            refine lv_isub hx hb dX1_directGap_57 ?_
            refine tF (fun v_10 => ?_)
            refine va_mmin hx hb (by rw [hml]; exact hl.1.symm) hown (hts _ (List.mem_cons_of_mem _ gw_56)) (hts _ (List.mem_cons_of_mem _ gw_57)) (hts _ (List.mem_cons_of_mem _ gw_58)) (hts _ (List.mem_cons_of_mem _ gw_59)) (Nat.le_of_ble_eq_true rfl) (Nat.le_of_ble_eq_true rfl) (Nat.le_of_ble_eq_true rfl) (Nat.le_of_ble_eq_true rfl) dX1_directGap_58 ?_
            refine tF (fun v_11 => ?_)
            refine lv_istore_n (lv' := [(3, .int v_11), (4, .int (nI i4)), (0, .ref h0), (1, .int (nI i0)), (2, .int (nI j0))]) hx hb dX1_directGap_61 rfl hl (by decide) rfl (fun ls hl => ?_)
            refine lv_iinc (v := (nI (i4 + 1))) (lv' := [(4, .int (nI (i4 + 1))), (3, .int v_11), (0, .ref h0), (1, .int (nI i0)), (2, .int (nI j0))]) hx hb dX1_directGap_62 hl (k := 1) rfl (nI_1 _) (by decide) rfl (fun ls hl => ?_)
            refine lv_goto (tgt := 27) hx hb dX1_directGap_65 (by decide) ?_
            exact ih27 (i4 + 1) _ _ _ _ (by omega) (by omega) (hP.sub [0, 1, 2] rfl) (hD.sub [0, 1, 2] (by decide) rfl) hS (lv_sub hl [0, 1, 2, 3, 4] rfl)
      exact lp27 (24 + 1) 0 _ _ _ _ (by omega) (by omega) hP hD hS (lv_sub hl [0, 1, 2, 3, 4] rfl)
    · skip
      refine lv_iload_n hx hb dX1_directGap_13 rfl (lv_at hl 2 rfl) ?_
      refine lv_if_ne (tgt := 21) hx hb dX1_directGap_14 (by decide) (fun c_12 => ?_) (fun c_12 => ?_)
      · skip
        refine lv_bipush (v := 6) hx hb dX1_directGap_21 (by decide) ?_
        refine lv_istore_n (lv' := [(3, .int 6), (0, .ref h0), (1, .int (nI i0)), (2, .int (nI j0))]) hx hb dX1_directGap_23 rfl hl (by decide) rfl (fun ls hl => ?_)
        refine lv_iconst (v := 0) hx hb dX1_directGap_24 (by decide) ?_
        refine lv_istore (lv' := [(4, .int 0), (3, .int 6), (0, .ref h0), (1, .int (nI i0)), (2, .int (nI j0))]) hx hb dX1_directGap_25 hl (by decide) rfl (fun ls hl => ?_)
        have lp27 : ∀ (n i4 : Nat) (y_13 : Int32) (H : Heap) (locs : List Loc) (ls : Array Slot), i4 ≤ 24 → 24 < i4 + n → va_P D vwCl [(h0, .inr (1, fs)), (ql, .inl (kl, 96, .inl fl)), (qh, .inl (kh, 96, .inl fh))] H → va_D A [(h0, .inr (1, fs)), (ql, .inl (kl, 96, .inl fl)), (qh, .inl (kh, 96, .inl fh))] → va_S A s.heap H locs → lv_has ls 5 [(4, .int (nI i4)), (3, .int y_13), (0, .ref h0), (1, .int (nI i0)), (2, .int (nI j0))] → W p l e ({ frames := 2, cells := 0, slots := 0, locals := 60 } : Room) s m (([.ref h0, .int (nI i0), .int (nI j0)] : List Value).toArray) below meth c H locs 0 0 (MQ below (va_Qi (fun (r : Int32) (u : Unit) => True) (fun (u : Unit) => qw D A [(h0, .inr (1, fs)), (ql, .inl (kl, 96, .inl fl)), (qh, .inl (kh, 96, .inl fh))] []) A) (([.ref h0, .int (nI i0), .int (nI j0)] : List Value).toArray) s 0 0 A) (F0 m 27 ls []) := by
          intro n
          induction n with
          | zero => intro i4 y_13 H locs ls hi hn; exact absurd hn (by omega)
          | succ n ih27 =>
            intro i4 y_13 H locs ls hi_14 hn_15 hP hD hS hl
            refine lv_iload hx hb dX1_directGap_27 (lv_at hl 0 rfl) ?_
            refine lv_bipush (v := 24) hx hb dX1_directGap_29 (by decide) ?_
            refine lv_icmp_ge (tgt := 68) hx hb dX1_directGap_31 (by decide) (fun c_17 => ?_) (fun c_17 => ?_)
            · skip
              have hc_17 := ge_of (i := i4) 24 c_17 rfl (by omega) (by omega)
              refine lv_iload_n hx hb dX1_directGap_68 rfl (lv_at hl 1 rfl) ?_
              have hP9 := hP.sub (ws' := [(h0, .inr (1, fs)), (ql, .inl (kl, 96, .inl fl)), (qh, .inl (kh, 96, .inl fh))]) [0, 1, 2] rfl
              have hD9 := hD.sub (ws' := [(h0, .inr (1, fs)), (ql, .inl (kl, 96, .inl fl)), (qh, .inl (kh, 96, .inl fh))]) [0, 1, 2] (by decide) rfl
              have hK9 := hK.sub (tys' := []) [] rfl
              refine W.widen (k := 0) (n := 0) (Nat.le_of_ble_eq_true rfl) (Nat.le_of_ble_eq_true rfl) ?_
              exact W.iret (v := y_13) hx hb hr (fun t ht hW => ⟨⟨y_13, (), rfl, (by first | trivial | rfl), by rw [ht]; exact hP9, va_K.moved hW.alike hK9, hD9⟩, hS.F ht⟩) hS.2.2 dX1_directGap_69
            · skip
              have hc_17 := lt_of (i := i4) 24 c_17 rfl (by omega)
              refine lv_iload_n hx hb dX1_directGap_34 rfl (lv_at hl 1 rfl) ?_
              refine lv_aload_n hx hb dX1_directGap_35 rfl (lv_at hl 2 rfl) ?_
              refine va_get (D := D) (ci := 1) (v := .ref qh) (C := RX1) (T := TX1) (N := 7) hx hb hts (fun w h => List.mem_cons_of_mem _ (inG1 w h)) hown hK hP 0 rfl rfl 3 (by decide) (hts _ (List.mem_cons_of_mem _ gw_55)) (fun _ h9 => h9) hf3 dX1_directGap_36 ?_
              refine lv_iload hx hb dX1_directGap_39 (lv_at hl 0 rfl) ?_
              refine lv_iconst (v := 4) hx hb dX1_directGap_41 (by decide) ?_
              refine lv_imul hx hb dX1_directGap_42 ?_
              refine tI (y := nI (i4 * 4)) (pk_mul i4 4) ?_
              refine lv_iload_n hx hb dX1_directGap_43 rfl (lv_at hl 4 rfl) ?_
              refine lv_iadd hx hb dX1_directGap_44 ?_
              refine tI (y := nI ((i4 * 4) + j0)) (nI_add (i4 * 4) j0) ?_
              refine va_iald hx hb hK hP 2 1 rfl rfl (vp_in_nI (n := (i4 * 4) + j0) (N := 96) (by omega) (by omega)) dX1_directGap_45 ?_
              refine tF (fun v_18 => ?_)
              refine lv_aload_n hx hb dX1_directGap_46 rfl (lv_at hl 2 rfl) ?_
              refine va_get (D := D) (ci := 1) (v := .ref ql) (C := RX1) (T := TX1) (N := 7) hx hb hts (fun w h => List.mem_cons_of_mem _ (inG1 w h)) hown hK hP 0 rfl rfl 2 (by decide) (hts _ (List.mem_cons_of_mem _ gw_54)) (fun _ h9 => h9) hf2 dX1_directGap_47 ?_
              refine lv_iload hx hb dX1_directGap_50 (lv_at hl 0 rfl) ?_
              refine lv_iconst (v := 4) hx hb dX1_directGap_52 (by decide) ?_
              refine lv_imul hx hb dX1_directGap_53 ?_
              refine tI (y := nI (i4 * 4)) (pk_mul i4 4) ?_
              refine lv_iload_n hx hb dX1_directGap_54 rfl (lv_at hl 3 rfl) ?_
              refine lv_iadd hx hb dX1_directGap_55 ?_
              refine tI (y := nI ((i4 * 4) + i0)) (nI_add (i4 * 4) i0) ?_
              refine va_iald hx hb hK hP 1 0 rfl rfl (vp_in_nI (n := (i4 * 4) + i0) (N := 96) (by omega) (by omega)) dX1_directGap_56 ?_
              refine tF (fun v_19 => ?_)
              refine lv_isub hx hb dX1_directGap_57 ?_
              refine tF (fun v_20 => ?_)
              refine va_mmin hx hb (by rw [hml]; exact hl.1.symm) hown (hts _ (List.mem_cons_of_mem _ gw_56)) (hts _ (List.mem_cons_of_mem _ gw_57)) (hts _ (List.mem_cons_of_mem _ gw_58)) (hts _ (List.mem_cons_of_mem _ gw_59)) (Nat.le_of_ble_eq_true rfl) (Nat.le_of_ble_eq_true rfl) (Nat.le_of_ble_eq_true rfl) (Nat.le_of_ble_eq_true rfl) dX1_directGap_58 ?_
              refine tF (fun v_21 => ?_)
              refine lv_istore_n (lv' := [(3, .int v_21), (4, .int (nI i4)), (0, .ref h0), (1, .int (nI i0)), (2, .int (nI j0))]) hx hb dX1_directGap_61 rfl hl (by decide) rfl (fun ls hl => ?_)
              refine lv_iinc (v := (nI (i4 + 1))) (lv' := [(4, .int (nI (i4 + 1))), (3, .int v_21), (0, .ref h0), (1, .int (nI i0)), (2, .int (nI j0))]) hx hb dX1_directGap_62 hl (k := 1) rfl (nI_1 _) (by decide) rfl (fun ls hl => ?_)
              refine lv_goto (tgt := 27) hx hb dX1_directGap_65 (by decide) ?_
              exact ih27 (i4 + 1) _ _ _ _ (by omega) (by omega) (hP.sub [0, 1, 2] rfl) (hD.sub [0, 1, 2] (by decide) rfl) hS (lv_sub hl [0, 1, 2, 3, 4] rfl)
        exact lp27 (24 + 1) 0 _ _ _ _ (by omega) (by omega) hP hD hS (lv_sub hl [0, 1, 2, 3, 4] rfl)
      · skip
        refine lv_iconst (v := 3) hx hb dX1_directGap_17 (by decide) ?_
        refine lv_goto (tgt := 23) hx hb dX1_directGap_18 (by decide) ?_
        refine lv_istore_n (lv' := [(3, .int 3), (0, .ref h0), (1, .int (nI i0)), (2, .int (nI j0))]) hx hb dX1_directGap_23 rfl hl (by decide) rfl (fun ls hl => ?_)
        refine lv_iconst (v := 0) hx hb dX1_directGap_24 (by decide) ?_
        refine lv_istore (lv' := [(4, .int 0), (3, .int 3), (0, .ref h0), (1, .int (nI i0)), (2, .int (nI j0))]) hx hb dX1_directGap_25 hl (by decide) rfl (fun ls hl => ?_)
        have lp27 : ∀ (n i4 : Nat) (y_22 : Int32) (H : Heap) (locs : List Loc) (ls : Array Slot), i4 ≤ 24 → 24 < i4 + n → va_P D vwCl [(h0, .inr (1, fs)), (ql, .inl (kl, 96, .inl fl)), (qh, .inl (kh, 96, .inl fh))] H → va_D A [(h0, .inr (1, fs)), (ql, .inl (kl, 96, .inl fl)), (qh, .inl (kh, 96, .inl fh))] → va_S A s.heap H locs → lv_has ls 5 [(4, .int (nI i4)), (3, .int y_22), (0, .ref h0), (1, .int (nI i0)), (2, .int (nI j0))] → W p l e ({ frames := 2, cells := 0, slots := 0, locals := 60 } : Room) s m (([.ref h0, .int (nI i0), .int (nI j0)] : List Value).toArray) below meth c H locs 0 0 (MQ below (va_Qi (fun (r : Int32) (u : Unit) => True) (fun (u : Unit) => qw D A [(h0, .inr (1, fs)), (ql, .inl (kl, 96, .inl fl)), (qh, .inl (kh, 96, .inl fh))] []) A) (([.ref h0, .int (nI i0), .int (nI j0)] : List Value).toArray) s 0 0 A) (F0 m 27 ls []) := by
          intro n
          induction n with
          | zero => intro i4 y_22 H locs ls hi hn; exact absurd hn (by omega)
          | succ n ih27 =>
            intro i4 y_22 H locs ls hi_23 hn_24 hP hD hS hl
            refine lv_iload hx hb dX1_directGap_27 (lv_at hl 0 rfl) ?_
            refine lv_bipush (v := 24) hx hb dX1_directGap_29 (by decide) ?_
            refine lv_icmp_ge (tgt := 68) hx hb dX1_directGap_31 (by decide) (fun c_26 => ?_) (fun c_26 => ?_)
            · skip
              have hc_26 := ge_of (i := i4) 24 c_26 rfl (by omega) (by omega)
              refine lv_iload_n hx hb dX1_directGap_68 rfl (lv_at hl 1 rfl) ?_
              have hP9 := hP.sub (ws' := [(h0, .inr (1, fs)), (ql, .inl (kl, 96, .inl fl)), (qh, .inl (kh, 96, .inl fh))]) [0, 1, 2] rfl
              have hD9 := hD.sub (ws' := [(h0, .inr (1, fs)), (ql, .inl (kl, 96, .inl fl)), (qh, .inl (kh, 96, .inl fh))]) [0, 1, 2] (by decide) rfl
              have hK9 := hK.sub (tys' := []) [] rfl
              refine W.widen (k := 0) (n := 0) (Nat.le_of_ble_eq_true rfl) (Nat.le_of_ble_eq_true rfl) ?_
              exact W.iret (v := y_22) hx hb hr (fun t ht hW => ⟨⟨y_22, (), rfl, (by first | trivial | rfl), by rw [ht]; exact hP9, va_K.moved hW.alike hK9, hD9⟩, hS.F ht⟩) hS.2.2 dX1_directGap_69
            · skip
              have hc_26 := lt_of (i := i4) 24 c_26 rfl (by omega)
              refine lv_iload_n hx hb dX1_directGap_34 rfl (lv_at hl 1 rfl) ?_
              refine lv_aload_n hx hb dX1_directGap_35 rfl (lv_at hl 2 rfl) ?_
              refine va_get (D := D) (ci := 1) (v := .ref qh) (C := RX1) (T := TX1) (N := 7) hx hb hts (fun w h => List.mem_cons_of_mem _ (inG1 w h)) hown hK hP 0 rfl rfl 3 (by decide) (hts _ (List.mem_cons_of_mem _ gw_55)) (fun _ h9 => h9) hf3 dX1_directGap_36 ?_
              refine lv_iload hx hb dX1_directGap_39 (lv_at hl 0 rfl) ?_
              refine lv_iconst (v := 4) hx hb dX1_directGap_41 (by decide) ?_
              refine lv_imul hx hb dX1_directGap_42 ?_
              refine tI (y := nI (i4 * 4)) (pk_mul i4 4) ?_
              refine lv_iload_n hx hb dX1_directGap_43 rfl (lv_at hl 4 rfl) ?_
              refine lv_iadd hx hb dX1_directGap_44 ?_
              refine tI (y := nI ((i4 * 4) + j0)) (nI_add (i4 * 4) j0) ?_
              refine va_iald hx hb hK hP 2 1 rfl rfl (vp_in_nI (n := (i4 * 4) + j0) (N := 96) (by omega) (by omega)) dX1_directGap_45 ?_
              refine tF (fun v_27 => ?_)
              refine lv_aload_n hx hb dX1_directGap_46 rfl (lv_at hl 2 rfl) ?_
              refine va_get (D := D) (ci := 1) (v := .ref ql) (C := RX1) (T := TX1) (N := 7) hx hb hts (fun w h => List.mem_cons_of_mem _ (inG1 w h)) hown hK hP 0 rfl rfl 2 (by decide) (hts _ (List.mem_cons_of_mem _ gw_54)) (fun _ h9 => h9) hf2 dX1_directGap_47 ?_
              refine lv_iload hx hb dX1_directGap_50 (lv_at hl 0 rfl) ?_
              refine lv_iconst (v := 4) hx hb dX1_directGap_52 (by decide) ?_
              refine lv_imul hx hb dX1_directGap_53 ?_
              refine tI (y := nI (i4 * 4)) (pk_mul i4 4) ?_
              refine lv_iload_n hx hb dX1_directGap_54 rfl (lv_at hl 3 rfl) ?_
              refine lv_iadd hx hb dX1_directGap_55 ?_
              refine tI (y := nI ((i4 * 4) + i0)) (nI_add (i4 * 4) i0) ?_
              refine va_iald hx hb hK hP 1 0 rfl rfl (vp_in_nI (n := (i4 * 4) + i0) (N := 96) (by omega) (by omega)) dX1_directGap_56 ?_
              refine tF (fun v_28 => ?_)
              refine lv_isub hx hb dX1_directGap_57 ?_
              refine tF (fun v_29 => ?_)
              refine va_mmin hx hb (by rw [hml]; exact hl.1.symm) hown (hts _ (List.mem_cons_of_mem _ gw_56)) (hts _ (List.mem_cons_of_mem _ gw_57)) (hts _ (List.mem_cons_of_mem _ gw_58)) (hts _ (List.mem_cons_of_mem _ gw_59)) (Nat.le_of_ble_eq_true rfl) (Nat.le_of_ble_eq_true rfl) (Nat.le_of_ble_eq_true rfl) (Nat.le_of_ble_eq_true rfl) dX1_directGap_58 ?_
              refine tF (fun v_30 => ?_)
              refine lv_istore_n (lv' := [(3, .int v_30), (4, .int (nI i4)), (0, .ref h0), (1, .int (nI i0)), (2, .int (nI j0))]) hx hb dX1_directGap_61 rfl hl (by decide) rfl (fun ls hl => ?_)
              refine lv_iinc (v := (nI (i4 + 1))) (lv' := [(4, .int (nI (i4 + 1))), (3, .int v_30), (0, .ref h0), (1, .int (nI i0)), (2, .int (nI j0))]) hx hb dX1_directGap_62 hl (k := 1) rfl (nI_1 _) (by decide) rfl (fun ls hl => ?_)
              refine lv_goto (tgt := 27) hx hb dX1_directGap_65 (by decide) ?_
              exact ih27 (i4 + 1) _ _ _ _ (by omega) (by omega) (hP.sub [0, 1, 2] rfl) (hD.sub [0, 1, 2] (by decide) rfl) hS (lv_sub hl [0, 1, 2, 3, 4] rfl)
        exact lp27 (24 + 1) 0 _ _ _ _ (by omega) (by omega) hP hD hS (lv_sub hl [0, 1, 2, 3, 4] rfl)
  · skip
    refine lv_iconst (v := 0) hx hb dX1_directGap_5 (by decide) ?_
    refine lv_goto (tgt := 23) hx hb dX1_directGap_6 (by decide) ?_
    refine lv_istore_n (lv' := [(3, .int 0), (0, .ref h0), (1, .int (nI i0)), (2, .int (nI j0))]) hx hb dX1_directGap_23 rfl hl (by decide) rfl (fun ls hl => ?_)
    refine lv_iconst (v := 0) hx hb dX1_directGap_24 (by decide) ?_
    refine lv_istore (lv' := [(4, .int 0), (3, .int 0), (0, .ref h0), (1, .int (nI i0)), (2, .int (nI j0))]) hx hb dX1_directGap_25 hl (by decide) rfl (fun ls hl => ?_)
    have lp27 : ∀ (n i4 : Nat) (y_31 : Int32) (H : Heap) (locs : List Loc) (ls : Array Slot), i4 ≤ 24 → 24 < i4 + n → va_P D vwCl [(h0, .inr (1, fs)), (ql, .inl (kl, 96, .inl fl)), (qh, .inl (kh, 96, .inl fh))] H → va_D A [(h0, .inr (1, fs)), (ql, .inl (kl, 96, .inl fl)), (qh, .inl (kh, 96, .inl fh))] → va_S A s.heap H locs → lv_has ls 5 [(4, .int (nI i4)), (3, .int y_31), (0, .ref h0), (1, .int (nI i0)), (2, .int (nI j0))] → W p l e ({ frames := 2, cells := 0, slots := 0, locals := 60 } : Room) s m (([.ref h0, .int (nI i0), .int (nI j0)] : List Value).toArray) below meth c H locs 0 0 (MQ below (va_Qi (fun (r : Int32) (u : Unit) => True) (fun (u : Unit) => qw D A [(h0, .inr (1, fs)), (ql, .inl (kl, 96, .inl fl)), (qh, .inl (kh, 96, .inl fh))] []) A) (([.ref h0, .int (nI i0), .int (nI j0)] : List Value).toArray) s 0 0 A) (F0 m 27 ls []) := by
      intro n
      induction n with
      | zero => intro i4 y_31 H locs ls hi hn; exact absurd hn (by omega)
      | succ n ih27 =>
        intro i4 y_31 H locs ls hi_32 hn_33 hP hD hS hl
        refine lv_iload hx hb dX1_directGap_27 (lv_at hl 0 rfl) ?_
        refine lv_bipush (v := 24) hx hb dX1_directGap_29 (by decide) ?_
        refine lv_icmp_ge (tgt := 68) hx hb dX1_directGap_31 (by decide) (fun c_35 => ?_) (fun c_35 => ?_)
        · skip
          have hc_35 := ge_of (i := i4) 24 c_35 rfl (by omega) (by omega)
          refine lv_iload_n hx hb dX1_directGap_68 rfl (lv_at hl 1 rfl) ?_
          have hP9 := hP.sub (ws' := [(h0, .inr (1, fs)), (ql, .inl (kl, 96, .inl fl)), (qh, .inl (kh, 96, .inl fh))]) [0, 1, 2] rfl
          have hD9 := hD.sub (ws' := [(h0, .inr (1, fs)), (ql, .inl (kl, 96, .inl fl)), (qh, .inl (kh, 96, .inl fh))]) [0, 1, 2] (by decide) rfl
          have hK9 := hK.sub (tys' := []) [] rfl
          refine W.widen (k := 0) (n := 0) (Nat.le_of_ble_eq_true rfl) (Nat.le_of_ble_eq_true rfl) ?_
          exact W.iret (v := y_31) hx hb hr (fun t ht hW => ⟨⟨y_31, (), rfl, (by first | trivial | rfl), by rw [ht]; exact hP9, va_K.moved hW.alike hK9, hD9⟩, hS.F ht⟩) hS.2.2 dX1_directGap_69
        · skip
          have hc_35 := lt_of (i := i4) 24 c_35 rfl (by omega)
          refine lv_iload_n hx hb dX1_directGap_34 rfl (lv_at hl 1 rfl) ?_
          refine lv_aload_n hx hb dX1_directGap_35 rfl (lv_at hl 2 rfl) ?_
          refine va_get (D := D) (ci := 1) (v := .ref qh) (C := RX1) (T := TX1) (N := 7) hx hb hts (fun w h => List.mem_cons_of_mem _ (inG1 w h)) hown hK hP 0 rfl rfl 3 (by decide) (hts _ (List.mem_cons_of_mem _ gw_55)) (fun _ h9 => h9) hf3 dX1_directGap_36 ?_
          refine lv_iload hx hb dX1_directGap_39 (lv_at hl 0 rfl) ?_
          refine lv_iconst (v := 4) hx hb dX1_directGap_41 (by decide) ?_
          refine lv_imul hx hb dX1_directGap_42 ?_
          refine tI (y := nI (i4 * 4)) (pk_mul i4 4) ?_
          refine lv_iload_n hx hb dX1_directGap_43 rfl (lv_at hl 4 rfl) ?_
          refine lv_iadd hx hb dX1_directGap_44 ?_
          refine tI (y := nI ((i4 * 4) + j0)) (nI_add (i4 * 4) j0) ?_
          refine va_iald hx hb hK hP 2 1 rfl rfl (vp_in_nI (n := (i4 * 4) + j0) (N := 96) (by omega) (by omega)) dX1_directGap_45 ?_
          refine tF (fun v_36 => ?_)
          refine lv_aload_n hx hb dX1_directGap_46 rfl (lv_at hl 2 rfl) ?_
          refine va_get (D := D) (ci := 1) (v := .ref ql) (C := RX1) (T := TX1) (N := 7) hx hb hts (fun w h => List.mem_cons_of_mem _ (inG1 w h)) hown hK hP 0 rfl rfl 2 (by decide) (hts _ (List.mem_cons_of_mem _ gw_54)) (fun _ h9 => h9) hf2 dX1_directGap_47 ?_
          refine lv_iload hx hb dX1_directGap_50 (lv_at hl 0 rfl) ?_
          refine lv_iconst (v := 4) hx hb dX1_directGap_52 (by decide) ?_
          refine lv_imul hx hb dX1_directGap_53 ?_
          refine tI (y := nI (i4 * 4)) (pk_mul i4 4) ?_
          refine lv_iload_n hx hb dX1_directGap_54 rfl (lv_at hl 3 rfl) ?_
          refine lv_iadd hx hb dX1_directGap_55 ?_
          refine tI (y := nI ((i4 * 4) + i0)) (nI_add (i4 * 4) i0) ?_
          refine va_iald hx hb hK hP 1 0 rfl rfl (vp_in_nI (n := (i4 * 4) + i0) (N := 96) (by omega) (by omega)) dX1_directGap_56 ?_
          refine tF (fun v_37 => ?_)
          refine lv_isub hx hb dX1_directGap_57 ?_
          refine tF (fun v_38 => ?_)
          refine va_mmin hx hb (by rw [hml]; exact hl.1.symm) hown (hts _ (List.mem_cons_of_mem _ gw_56)) (hts _ (List.mem_cons_of_mem _ gw_57)) (hts _ (List.mem_cons_of_mem _ gw_58)) (hts _ (List.mem_cons_of_mem _ gw_59)) (Nat.le_of_ble_eq_true rfl) (Nat.le_of_ble_eq_true rfl) (Nat.le_of_ble_eq_true rfl) (Nat.le_of_ble_eq_true rfl) dX1_directGap_58 ?_
          refine tF (fun v_39 => ?_)
          refine lv_istore_n (lv' := [(3, .int v_39), (4, .int (nI i4)), (0, .ref h0), (1, .int (nI i0)), (2, .int (nI j0))]) hx hb dX1_directGap_61 rfl hl (by decide) rfl (fun ls hl => ?_)
          refine lv_iinc (v := (nI (i4 + 1))) (lv' := [(4, .int (nI (i4 + 1))), (3, .int v_39), (0, .ref h0), (1, .int (nI i0)), (2, .int (nI j0))]) hx hb dX1_directGap_62 hl (k := 1) rfl (nI_1 _) (by decide) rfl (fun ls hl => ?_)
          refine lv_goto (tgt := 27) hx hb dX1_directGap_65 (by decide) ?_
          exact ih27 (i4 + 1) _ _ _ _ (by omega) (by omega) (hP.sub [0, 1, 2] rfl) (hD.sub [0, 1, 2] (by decide) rfl) hS (lv_sub hl [0, 1, 2, 3, 4] rfl)
    exact lp27 (24 + 1) 0 _ _ _ _ (by omega) (by omega) hP hD hS (lv_sub hl [0, 1, 2, 3, 4] rfl)
set_option maxHeartbeats 4000000 in
set_option maxRecDepth 100000 in
theorem c_X1_closeGaps (l : Launch) (D : va_G) (sz : Nat) (h0 : Nat) (fs : List Value) (ql : Nat) (qh : Nat) (qp : Nat) (kl : ClassId) (kh : ClassId) (kp : ClassId) (fl : Nat → Int32) (fh : Nat → Int32) (fp : Nat → Int32) (hf2 : fs[2]? = some (.ref ql)) (hf3 : fs[3]? = some (.ref qh)) (hf6 : fs[6]? = some (.ref qp)) : Met l yX1_closeGaps (.code yX1_closeGaps cX1_closeGaps 5 none :: G) ({ frames := 4, cells := 0, slots := 0, locals := 90 }) (va_Pc [.ref h0] (pw D sz [(h0, .inr (1, fs)), (ql, .inl (kl, 96, .inl fl)), (qh, .inl (kh, 96, .inl fh)), (qp, .inl (kp, 16, .inl fp))] [(kl, .int), (kh, .int), (kp, .int)])) (va_Qv (fun (u : (Nat → Int32) × (Nat → Int32) × (Nat → Int32)) => True) (fun (u : (Nat → Int32) × (Nat → Int32) × (Nat → Int32)) => qw D (va_A [(h0, .inr (1, fs)), (ql, .inl (kl, 96, .inl fl)), (qh, .inl (kh, 96, .inl fh)), (qp, .inl (kp, 16, .inl fp))] sz) [(h0, .inr (1, fs)), (ql, .inl (kl, 96, .inl u.1)), (qh, .inl (kh, 96, .inl u.2.1)), (qp, .inl (kp, 16, .inl u.2.2))] []) (va_A [(h0, .inr (1, fs)), (ql, .inl (kl, 96, .inl fl)), (qh, .inl (kh, 96, .inl fh)), (qp, .inl (kp, 16, .inl fp))] sz)) 0 0 (va_A [(h0, .inr (1, fs)), (ql, .inl (kl, 96, .inl fl)), (qh, .inl (kh, 96, .inl fh)), (qp, .inl (kp, 16, .inl fp))] sz) := by
  refine Met.ofW (cc := cX1_closeGaps) (maxL := 5) (ret := none) (by decide) rfl ?_
  intro p e s m args below meth c s₁ B hml hv
  obtain ⟨rfl, hsz, hP, hK, hD0, hN⟩ := hv
  have hx := B.exec
  have hb := B.bytes
  have hr := B.returns
  have hts := atoms_spec (ws := (.code yX1_closeGaps cX1_closeGaps 5 none :: G)) B.pre
  have hown : s.vm.findClass RX1 = some m.cls := findClass_of_methodNamed B.named
  have hlocks := B.notSynchronized
  subst hsz
  have hD := hD0.self (sz := s.heap.size)
  generalize hAe : va_A [(h0, .inr (1, fs)), (ql, .inl (kl, 96, .inl fl)), (qh, .inl (kh, 96, .inl fh)), (qp, .inl (kp, 16, .inl fp))] s.heap.size = A at hD ⊢
  have hA : ∀ q : Nat, s.heap.size ≤ q → A q := fun q h => by rw [← hAe]; exact Or.inr h
  have hS : va_S A s.heap s.heap [] := va_S.rf
  have hP : va_P D vwCl [(h0, .inr (1, fs)), (ql, .inl (kl, 96, .inl fl)), (qh, .inl (kh, 96, .inl fh)), (qp, .inl (kp, 16, .inl fp))] s.heap := hP
  have hl := lv_entry ([.ref h0]) (n := 5) (Nat.le_of_ble_eq_true rfl)
  rw [lg_entry_eq]
  generalize (lg_sl ([.ref h0]) ++ List.replicate (5 - (lg_sl ([.ref h0])).length) Slot.unset).toArray = ls at hl ⊢
  have hl : lv_has ls 5 [(0, .ref h0)] := hl
  refine lv_iconst (v := 0) hx hb dX1_closeGaps_0 (by decide) ?_
  refine lv_istore_n (lv' := [(1, .int 0), (0, .ref h0)]) hx hb dX1_closeGaps_1 rfl hl (by decide) rfl (fun ls hl => ?_)
  have lp2 : ∀ (n i1 : Nat) (f_1 : Nat → Int32) (f_2 : Nat → Int32) (f_3 : Nat → Int32) (H : Heap) (locs : List Loc) (ls : Array Slot), i1 ≤ 4 → 4 < i1 + n → va_P D vwCl [(h0, .inr (1, fs)), (ql, .inl (kl, 96, .inl f_1)), (qh, .inl (kh, 96, .inl f_2)), (qp, .inl (kp, 16, .inl f_3))] H → va_D A [(h0, .inr (1, fs)), (ql, .inl (kl, 96, .inl f_1)), (qh, .inl (kh, 96, .inl f_2)), (qp, .inl (kp, 16, .inl f_3))] → va_S A s.heap H locs → lv_has ls 5 [(1, .int (nI i1)), (0, .ref h0)] → W p l e ({ frames := 4, cells := 0, slots := 0, locals := 90 } : Room) s m (([.ref h0] : List Value).toArray) below meth c H locs 0 0 (MQ below (va_Qv (fun (u : (Nat → Int32) × (Nat → Int32) × (Nat → Int32)) => True) (fun (u : (Nat → Int32) × (Nat → Int32) × (Nat → Int32)) => qw D A [(h0, .inr (1, fs)), (ql, .inl (kl, 96, .inl u.1)), (qh, .inl (kh, 96, .inl u.2.1)), (qp, .inl (kp, 16, .inl u.2.2))] []) A) (([.ref h0] : List Value).toArray) s 0 0 A) (F0 m 2 ls []) := by
    intro n
    induction n with
    | zero => intro i1 f_1 f_2 f_3 H locs ls hi hn; exact absurd hn (by omega)
    | succ n ih2 =>
      intro i1 f_1 f_2 f_3 H locs ls hi_4 hn_5 hP hD hS hl
      refine lv_iload_n hx hb dX1_closeGaps_2 rfl (lv_at hl 0 rfl) ?_
      refine lv_iconst (v := 4) hx hb dX1_closeGaps_3 (by decide) ?_
      refine lv_icmp_ge (tgt := 42) hx hb dX1_closeGaps_4 (by decide) (fun c_7 => ?_) (fun c_7 => ?_)
      · skip
        have hc_7 := ge_of (i := i1) 4 c_7 rfl (by omega) (by omega)
        refine lv_iconst (v := 0) hx hb dX1_closeGaps_42 (by decide) ?_
        refine lv_istore_n (lv' := [(1, .int 0), (0, .ref h0)]) hx hb dX1_closeGaps_43 rfl hl (by decide) rfl (fun ls hl => ?_)
        have lp44 : ∀ (n a1 : Nat) (f_8 : Nat → Int32) (f_9 : Nat → Int32) (f_10 : Nat → Int32) (H : Heap) (locs : List Loc) (ls : Array Slot), a1 ≤ 4 → 4 < a1 + n → va_P D vwCl [(h0, .inr (1, fs)), (ql, .inl (kl, 96, .inl f_8)), (qh, .inl (kh, 96, .inl f_9)), (qp, .inl (kp, 16, .inl f_10))] H → va_D A [(h0, .inr (1, fs)), (ql, .inl (kl, 96, .inl f_8)), (qh, .inl (kh, 96, .inl f_9)), (qp, .inl (kp, 16, .inl f_10))] → va_S A s.heap H locs → lv_has ls 5 [(1, .int (nI a1)), (0, .ref h0)] → W p l e ({ frames := 4, cells := 0, slots := 0, locals := 90 } : Room) s m (([.ref h0] : List Value).toArray) below meth c H locs 0 0 (MQ below (va_Qv (fun (u : (Nat → Int32) × (Nat → Int32) × (Nat → Int32)) => True) (fun (u : (Nat → Int32) × (Nat → Int32) × (Nat → Int32)) => qw D A [(h0, .inr (1, fs)), (ql, .inl (kl, 96, .inl u.1)), (qh, .inl (kh, 96, .inl u.2.1)), (qp, .inl (kp, 16, .inl u.2.2))] []) A) (([.ref h0] : List Value).toArray) s 0 0 A) (F0 m 44 ls []) := by
          intro n
          induction n with
          | zero => intro a1 f_8 f_9 f_10 H locs ls hi hn; exact absurd hn (by omega)
          | succ n ih44 =>
            intro a1 f_8 f_9 f_10 H locs ls hi_11 hn_12 hP hD hS hl
            refine lv_iload_n hx hb dX1_closeGaps_44 rfl (lv_at hl 0 rfl) ?_
            refine lv_iconst (v := 4) hx hb dX1_closeGaps_45 (by decide) ?_
            refine lv_icmp_ge (tgt := 126) hx hb dX1_closeGaps_46 (by decide) (fun c_14 => ?_) (fun c_14 => ?_)
            · skip
              have hc_14 := ge_of (i := a1) 4 c_14 rfl (by omega) (by omega)
              have hP9 := hP.sub (ws' := [(h0, .inr (1, fs)), (ql, .inl (kl, 96, .inl f_8)), (qh, .inl (kh, 96, .inl f_9)), (qp, .inl (kp, 16, .inl f_10))]) [0, 1, 2, 3] rfl
              have hD9 := hD.sub (ws' := [(h0, .inr (1, fs)), (ql, .inl (kl, 96, .inl f_8)), (qh, .inl (kh, 96, .inl f_9)), (qp, .inl (kp, 16, .inl f_10))]) [0, 1, 2, 3] (by decide) rfl
              have hK9 := hK.sub (tys' := []) [] rfl
              refine W.widen (k := 0) (n := 0) (Nat.le_of_ble_eq_true rfl) (Nat.le_of_ble_eq_true rfl) ?_
              exact W.vret hx hb hr (fun t ht hW => ⟨⟨(f_8, f_9, f_10), rfl, (by first | trivial | rfl), by rw [ht]; exact hP9, va_K.moved hW.alike hK9, hD9⟩, hS.F ht⟩) hS.2.2 dX1_closeGaps_126
            · skip
              have hc_14 := lt_of (i := a1) 4 c_14 rfl (by omega)
              refine lv_iconst (v := 0) hx hb dX1_closeGaps_49 (by decide) ?_
              refine lv_istore_n (lv' := [(2, .int 0), (1, .int (nI a1)), (0, .ref h0)]) hx hb dX1_closeGaps_50 rfl hl (by decide) rfl (fun ls hl => ?_)
              have lp51 : ∀ (n a2 : Nat) (f_15 : Nat → Int32) (f_16 : Nat → Int32) (f_17 : Nat → Int32) (H : Heap) (locs : List Loc) (ls : Array Slot), a2 ≤ 4 → 4 < a2 + n → va_P D vwCl [(h0, .inr (1, fs)), (ql, .inl (kl, 96, .inl f_15)), (qh, .inl (kh, 96, .inl f_16)), (qp, .inl (kp, 16, .inl f_17))] H → va_D A [(h0, .inr (1, fs)), (ql, .inl (kl, 96, .inl f_15)), (qh, .inl (kh, 96, .inl f_16)), (qp, .inl (kp, 16, .inl f_17))] → va_S A s.heap H locs → lv_has ls 5 [(2, .int (nI a2)), (1, .int (nI a1)), (0, .ref h0)] → W p l e ({ frames := 4, cells := 0, slots := 0, locals := 90 } : Room) s m (([.ref h0] : List Value).toArray) below meth c H locs 0 0 (MQ below (va_Qv (fun (u : (Nat → Int32) × (Nat → Int32) × (Nat → Int32)) => True) (fun (u : (Nat → Int32) × (Nat → Int32) × (Nat → Int32)) => qw D A [(h0, .inr (1, fs)), (ql, .inl (kl, 96, .inl u.1)), (qh, .inl (kh, 96, .inl u.2.1)), (qp, .inl (kp, 16, .inl u.2.2))] []) A) (([.ref h0] : List Value).toArray) s 0 0 A) (F0 m 51 ls []) := by
                intro n
                induction n with
                | zero => intro a2 f_15 f_16 f_17 H locs ls hi hn; exact absurd hn (by omega)
                | succ n ih51 =>
                  intro a2 f_15 f_16 f_17 H locs ls hi_18 hn_19 hP hD hS hl
                  refine lv_iload_n hx hb dX1_closeGaps_51 rfl (lv_at hl 0 rfl) ?_
                  refine lv_iconst (v := 4) hx hb dX1_closeGaps_52 (by decide) ?_
                  refine lv_icmp_ge (tgt := 120) hx hb dX1_closeGaps_53 (by decide) (fun c_21 => ?_) (fun c_21 => ?_)
                  · skip
                    have hc_21 := ge_of (i := a2) 4 c_21 rfl (by omega) (by omega)
                    refine lv_iinc (v := (nI (a1 + 1))) (lv' := [(1, .int (nI (a1 + 1))), (2, .int (nI a2)), (0, .ref h0)]) hx hb dX1_closeGaps_120 hl (k := 1) rfl (nI_1 _) (by decide) rfl (fun ls hl => ?_)
                    refine lv_goto (tgt := 44) hx hb dX1_closeGaps_123 (by decide) ?_
                    exact ih44 (a1 + 1) _ _ _ _ _ _ (by omega) (by omega) (hP.sub [0, 1, 2, 3] rfl) (hD.sub [0, 1, 2, 3] (by decide) rfl) hS (lv_sub hl [0, 2] rfl)
                  · skip
                    have hc_21 := lt_of (i := a2) 4 c_21 rfl (by omega)
                    refine lv_iconst (v := 0) hx hb dX1_closeGaps_56 (by decide) ?_
                    refine lv_istore_n (lv' := [(3, .int 0), (2, .int (nI a2)), (1, .int (nI a1)), (0, .ref h0)]) hx hb dX1_closeGaps_57 rfl hl (by decide) rfl (fun ls hl => ?_)
                    have lp58 : ∀ (n a3 : Nat) (f_22 : Nat → Int32) (f_23 : Nat → Int32) (f_24 : Nat → Int32) (H : Heap) (locs : List Loc) (ls : Array Slot), a3 ≤ 4 → 4 < a3 + n → va_P D vwCl [(h0, .inr (1, fs)), (ql, .inl (kl, 96, .inl f_22)), (qh, .inl (kh, 96, .inl f_23)), (qp, .inl (kp, 16, .inl f_24))] H → va_D A [(h0, .inr (1, fs)), (ql, .inl (kl, 96, .inl f_22)), (qh, .inl (kh, 96, .inl f_23)), (qp, .inl (kp, 16, .inl f_24))] → va_S A s.heap H locs → lv_has ls 5 [(3, .int (nI a3)), (2, .int (nI a2)), (1, .int (nI a1)), (0, .ref h0)] → W p l e ({ frames := 4, cells := 0, slots := 0, locals := 90 } : Room) s m (([.ref h0] : List Value).toArray) below meth c H locs 0 0 (MQ below (va_Qv (fun (u : (Nat → Int32) × (Nat → Int32) × (Nat → Int32)) => True) (fun (u : (Nat → Int32) × (Nat → Int32) × (Nat → Int32)) => qw D A [(h0, .inr (1, fs)), (ql, .inl (kl, 96, .inl u.1)), (qh, .inl (kh, 96, .inl u.2.1)), (qp, .inl (kp, 16, .inl u.2.2))] []) A) (([.ref h0] : List Value).toArray) s 0 0 A) (F0 m 58 ls []) := by
                      intro n
                      induction n with
                      | zero => intro a3 f_22 f_23 f_24 H locs ls hi hn; exact absurd hn (by omega)
                      | succ n ih58 =>
                        intro a3 f_22 f_23 f_24 H locs ls hi_25 hn_26 hP hD hS hl
                        refine lv_iload_n hx hb dX1_closeGaps_58 rfl (lv_at hl 0 rfl) ?_
                        refine lv_iconst (v := 4) hx hb dX1_closeGaps_59 (by decide) ?_
                        refine lv_icmp_ge (tgt := 114) hx hb dX1_closeGaps_60 (by decide) (fun c_28 => ?_) (fun c_28 => ?_)
                        · skip
                          have hc_28 := ge_of (i := a3) 4 c_28 rfl (by omega) (by omega)
                          refine lv_iinc (v := (nI (a2 + 1))) (lv' := [(2, .int (nI (a2 + 1))), (3, .int (nI a3)), (1, .int (nI a1)), (0, .ref h0)]) hx hb dX1_closeGaps_114 hl (k := 1) rfl (nI_1 _) (by decide) rfl (fun ls hl => ?_)
                          refine lv_goto (tgt := 51) hx hb dX1_closeGaps_117 (by decide) ?_
                          exact ih51 (a2 + 1) _ _ _ _ _ _ (by omega) (by omega) (hP.sub [0, 1, 2, 3] rfl) (hD.sub [0, 1, 2, 3] (by decide) rfl) hS (lv_sub hl [0, 2, 3] rfl)
                        · skip
                          have hc_28 := lt_of (i := a3) 4 c_28 rfl (by omega)
                          refine lv_iload_n hx hb dX1_closeGaps_63 rfl (lv_at hl 1 rfl) ?_
                          refine lv_iconst (v := 4) hx hb dX1_closeGaps_64 (by decide) ?_
                          refine lv_imul hx hb dX1_closeGaps_65 ?_
                          refine tI (y := nI (a2 * 4)) (pk_mul a2 4) ?_
                          refine lv_iload_n hx hb dX1_closeGaps_66 rfl (lv_at hl 0 rfl) ?_
                          refine lv_iadd hx hb dX1_closeGaps_67 ?_
                          refine tI (y := nI ((a2 * 4) + a3)) (nI_add (a2 * 4) a3) ?_
                          refine lv_istore (lv' := [(4, .int (nI ((a2 * 4) + a3))), (3, .int (nI a3)), (2, .int (nI a2)), (1, .int (nI a1)), (0, .ref h0)]) hx hb dX1_closeGaps_68 hl (by decide) rfl (fun ls hl => ?_)
                          refine lv_aload_n hx hb dX1_closeGaps_70 rfl (lv_at hl 4 rfl) ?_
                          refine va_get (D := D) (ci := 1) (v := .ref qp) (C := RX1) (T := TX1) (N := 7) hx hb hts (fun w h => List.mem_cons_of_mem _ (inG1 w h)) hown hK hP 0 rfl rfl 6 (by decide) (hts _ (List.mem_cons_of_mem _ gw_60)) (fun _ h9 => h9) hf6 dX1_closeGaps_71 ?_
                          refine lv_iload hx hb dX1_closeGaps_74 (lv_at hl 0 rfl) ?_
                          refine lv_aload_n hx hb dX1_closeGaps_76 rfl (lv_at hl 4 rfl) ?_
                          refine va_get (D := D) (ci := 1) (v := .ref qp) (C := RX1) (T := TX1) (N := 7) hx hb hts (fun w h => List.mem_cons_of_mem _ (inG1 w h)) hown hK hP 0 rfl rfl 6 (by decide) (hts _ (List.mem_cons_of_mem _ gw_60)) (fun _ h9 => h9) hf6 dX1_closeGaps_77 ?_
                          refine lv_iload hx hb dX1_closeGaps_80 (lv_at hl 0 rfl) ?_
                          refine va_iald hx hb hK hP 3 2 rfl rfl (vp_in_nI (n := (a2 * 4) + a3) (N := 16) (by omega) (by omega)) dX1_closeGaps_82 ?_
                          refine tF (fun v_29 => ?_)
                          refine lv_aload_n hx hb dX1_closeGaps_83 rfl (lv_at hl 4 rfl) ?_
                          refine va_get (D := D) (ci := 1) (v := .ref qp) (C := RX1) (T := TX1) (N := 7) hx hb hts (fun w h => List.mem_cons_of_mem _ (inG1 w h)) hown hK hP 0 rfl rfl 6 (by decide) (hts _ (List.mem_cons_of_mem _ gw_60)) (fun _ h9 => h9) hf6 dX1_closeGaps_84 ?_
                          refine lv_iload_n hx hb dX1_closeGaps_87 rfl (lv_at hl 2 rfl) ?_
                          refine lv_iconst (v := 4) hx hb dX1_closeGaps_88 (by decide) ?_
                          refine lv_imul hx hb dX1_closeGaps_89 ?_
                          refine tI (y := nI (a2 * 4)) (pk_mul a2 4) ?_
                          refine lv_iload_n hx hb dX1_closeGaps_90 rfl (lv_at hl 3 rfl) ?_
                          refine lv_iadd hx hb dX1_closeGaps_91 ?_
                          refine tI (y := nI ((a2 * 4) + a1)) (nI_add (a2 * 4) a1) ?_
                          refine va_iald hx hb hK hP 3 2 rfl rfl (vp_in_nI (n := (a2 * 4) + a1) (N := 16) (by omega) (by omega)) dX1_closeGaps_92 ?_
                          refine tF (fun v_30 => ?_)
                          refine lv_aload_n hx hb dX1_closeGaps_93 rfl (lv_at hl 4 rfl) ?_
                          refine va_get (D := D) (ci := 1) (v := .ref qp) (C := RX1) (T := TX1) (N := 7) hx hb hts (fun w h => List.mem_cons_of_mem _ (inG1 w h)) hown hK hP 0 rfl rfl 6 (by decide) (hts _ (List.mem_cons_of_mem _ gw_60)) (fun _ h9 => h9) hf6 dX1_closeGaps_94 ?_
                          refine lv_iload_n hx hb dX1_closeGaps_97 rfl (lv_at hl 3 rfl) ?_
                          refine lv_iconst (v := 4) hx hb dX1_closeGaps_98 (by decide) ?_
                          refine lv_imul hx hb dX1_closeGaps_99 ?_
                          refine tI (y := nI (a1 * 4)) (pk_mul a1 4) ?_
                          refine lv_iload_n hx hb dX1_closeGaps_100 rfl (lv_at hl 1 rfl) ?_
                          refine lv_iadd hx hb dX1_closeGaps_101 ?_
                          refine tI (y := nI ((a1 * 4) + a3)) (nI_add (a1 * 4) a3) ?_
                          refine va_iald hx hb hK hP 3 2 rfl rfl (vp_in_nI (n := (a1 * 4) + a3) (N := 16) (by omega) (by omega)) dX1_closeGaps_102 ?_
                          refine tF (fun v_31 => ?_)
                          refine lv_iadd hx hb dX1_closeGaps_103 ?_
                          refine tF (fun v_32 => ?_)
                          refine va_mmin hx hb (by rw [hml]; exact hl.1.symm) hown (hts _ (List.mem_cons_of_mem _ gw_56)) (hts _ (List.mem_cons_of_mem _ gw_57)) (hts _ (List.mem_cons_of_mem _ gw_58)) (hts _ (List.mem_cons_of_mem _ gw_59)) (Nat.le_of_ble_eq_true rfl) (Nat.le_of_ble_eq_true rfl) (Nat.le_of_ble_eq_true rfl) (Nat.le_of_ble_eq_true rfl) dX1_closeGaps_104 ?_
                          refine tF (fun v_33 => ?_)
                          refine va_iast hx hb hK hP hD hS 3 2 rfl rfl (vp_in_nI (n := (a2 * 4) + a3) (N := 16) (by omega) (by omega)) dX1_closeGaps_107 (fun H locs hP hD hS => ?_)
                          obtain ⟨f_34, hP, hD⟩ : ∃ f : Nat → Int32, va_P D vwCl [(h0, .inr (1, fs)), (ql, .inl (kl, 96, .inl f_22)), (qh, .inl (kh, 96, .inl f_23)), (qp, .inl (kp, 16, .inl f))] H ∧ va_D A [(h0, .inr (1, fs)), (ql, .inl (kl, 96, .inl f_22)), (qh, .inl (kh, 96, .inl f_23)), (qp, .inl (kp, 16, .inl f))] := ⟨_, hP, hD⟩
                          refine lv_iinc (v := (nI (a3 + 1))) (lv' := [(3, .int (nI (a3 + 1))), (4, .int (nI ((a2 * 4) + a3))), (2, .int (nI a2)), (1, .int (nI a1)), (0, .ref h0)]) hx hb dX1_closeGaps_108 hl (k := 1) rfl (nI_1 _) (by decide) rfl (fun ls hl => ?_)
                          refine lv_goto (tgt := 58) hx hb dX1_closeGaps_111 (by decide) ?_
                          exact ih58 (a3 + 1) _ _ _ _ _ _ (by omega) (by omega) (hP.sub [0, 1, 2, 3] rfl) (hD.sub [0, 1, 2, 3] (by decide) rfl) hS (lv_sub hl [0, 2, 3, 4] rfl)
                    exact lp58 (4 + 1) 0 _ _ _ _ _ _ (by omega) (by omega) hP hD hS (lv_sub hl [0, 1, 2, 3] rfl)
              exact lp51 (4 + 1) 0 _ _ _ _ _ _ (by omega) (by omega) hP hD hS (lv_sub hl [0, 1, 2] rfl)
        exact lp44 (4 + 1) 0 _ _ _ _ _ _ (by omega) (by omega) hP hD hS (lv_sub hl [0, 1] rfl)
      · skip
        have hc_7 := lt_of (i := i1) 4 c_7 rfl (by omega)
        refine lv_iconst (v := 0) hx hb dX1_closeGaps_7 (by decide) ?_
        refine lv_istore_n (lv' := [(2, .int 0), (1, .int (nI i1)), (0, .ref h0)]) hx hb dX1_closeGaps_8 rfl hl (by decide) rfl (fun ls hl => ?_)
        have lp9 : ∀ (n i2 : Nat) (f_35 : Nat → Int32) (f_36 : Nat → Int32) (f_37 : Nat → Int32) (H : Heap) (locs : List Loc) (ls : Array Slot), i2 ≤ 4 → 4 < i2 + n → va_P D vwCl [(h0, .inr (1, fs)), (ql, .inl (kl, 96, .inl f_35)), (qh, .inl (kh, 96, .inl f_36)), (qp, .inl (kp, 16, .inl f_37))] H → va_D A [(h0, .inr (1, fs)), (ql, .inl (kl, 96, .inl f_35)), (qh, .inl (kh, 96, .inl f_36)), (qp, .inl (kp, 16, .inl f_37))] → va_S A s.heap H locs → lv_has ls 5 [(2, .int (nI i2)), (1, .int (nI i1)), (0, .ref h0)] → W p l e ({ frames := 4, cells := 0, slots := 0, locals := 90 } : Room) s m (([.ref h0] : List Value).toArray) below meth c H locs 0 0 (MQ below (va_Qv (fun (u : (Nat → Int32) × (Nat → Int32) × (Nat → Int32)) => True) (fun (u : (Nat → Int32) × (Nat → Int32) × (Nat → Int32)) => qw D A [(h0, .inr (1, fs)), (ql, .inl (kl, 96, .inl u.1)), (qh, .inl (kh, 96, .inl u.2.1)), (qp, .inl (kp, 16, .inl u.2.2))] []) A) (([.ref h0] : List Value).toArray) s 0 0 A) (F0 m 9 ls []) := by
          intro n
          induction n with
          | zero => intro i2 f_35 f_36 f_37 H locs ls hi hn; exact absurd hn (by omega)
          | succ n ih9 =>
            intro i2 f_35 f_36 f_37 H locs ls hi_38 hn_39 hP hD hS hl
            refine lv_iload_n hx hb dX1_closeGaps_9 rfl (lv_at hl 0 rfl) ?_
            refine lv_iconst (v := 4) hx hb dX1_closeGaps_10 (by decide) ?_
            refine lv_icmp_ge (tgt := 36) hx hb dX1_closeGaps_11 (by decide) (fun c_41 => ?_) (fun c_41 => ?_)
            · skip
              have hc_41 := ge_of (i := i2) 4 c_41 rfl (by omega) (by omega)
              refine lv_iinc (v := (nI (i1 + 1))) (lv' := [(1, .int (nI (i1 + 1))), (2, .int (nI i2)), (0, .ref h0)]) hx hb dX1_closeGaps_36 hl (k := 1) rfl (nI_1 _) (by decide) rfl (fun ls hl => ?_)
              refine lv_goto (tgt := 2) hx hb dX1_closeGaps_39 (by decide) ?_
              exact ih2 (i1 + 1) _ _ _ _ _ _ (by omega) (by omega) (hP.sub [0, 1, 2, 3] rfl) (hD.sub [0, 1, 2, 3] (by decide) rfl) hS (lv_sub hl [0, 2] rfl)
            · skip
              have hc_41 := lt_of (i := i2) 4 c_41 rfl (by omega)
              refine lv_aload_n hx hb dX1_closeGaps_14 rfl (lv_at hl 2 rfl) ?_
              refine va_get (D := D) (ci := 1) (v := .ref qp) (C := RX1) (T := TX1) (N := 7) hx hb hts (fun w h => List.mem_cons_of_mem _ (inG1 w h)) hown hK hP 0 rfl rfl 6 (by decide) (hts _ (List.mem_cons_of_mem _ gw_60)) (fun _ h9 => h9) hf6 dX1_closeGaps_15 ?_
              refine lv_iload_n hx hb dX1_closeGaps_18 rfl (lv_at hl 1 rfl) ?_
              refine lv_iconst (v := 4) hx hb dX1_closeGaps_19 (by decide) ?_
              refine lv_imul hx hb dX1_closeGaps_20 ?_
              refine tI (y := nI (i1 * 4)) (pk_mul i1 4) ?_
              refine lv_iload_n hx hb dX1_closeGaps_21 rfl (lv_at hl 0 rfl) ?_
              refine lv_iadd hx hb dX1_closeGaps_22 ?_
              refine tI (y := nI ((i1 * 4) + i2)) (nI_add (i1 * 4) i2) ?_
              refine lv_aload_n hx hb dX1_closeGaps_23 rfl (lv_at hl 2 rfl) ?_
              refine lv_iload_n hx hb dX1_closeGaps_24 rfl (lv_at hl 1 rfl) ?_
              refine lv_iload_n hx hb dX1_closeGaps_25 rfl (lv_at hl 0 rfl) ?_
              refine fr_i (wr := [(qp, .inl (kp, 16, .inl f_37))]) (va_runV (As := [.int (nI i1), .int (nI i2)]) (rest := [.int (nI ((i1 * 4) + i2)), .ref qp]) ⟨hx, hb, hml, hown, hts⟩ (c_X1_directGap l D H.size h0 i1 i2 fs ql qh kl kh f_35 f_36 hf2 hf3 (by omega) (by omega)) (cwV 2 hts (gV (fun w h => List.mem_cons_of_mem _ h) gw_62 gw_63 gw_64 gw_65 gw_61) rfl rfl rfl (by decide +kernel) ⟨Nat.le_of_ble_eq_true rfl, Nat.le_of_ble_eq_true rfl⟩) (pw_V [0, 1, 2] [0, 1] hP hD hK hN rfl rfl (by decide) rfl (ci := 1) (q0 := 0) rfl rfl) rfl rfl hl.1 rfl (lv_room (Nat.le_of_ble_eq_true rfl)) dX1_closeGaps_26 ⟨Nat.le_of_ble_eq_true rfl, Nat.le_of_ble_eq_true rfl⟩) hP hD hK hS hA [0, 1, 2] [3] rfl rfl (by decide) (by decide) (fun r_43 u_42 H locs hw_44 hP hD hK hS => ?_)
              try dsimp only at hw_44
              have hP : va_P D vwCl [(qp, .inl (kp, 16, .inl f_37)), (h0, .inr (1, fs)), (ql, .inl (kl, 96, .inl f_35)), (qh, .inl (kh, 96, .inl f_36))] H := hP
              have hD : va_D A [(qp, .inl (kp, 16, .inl f_37)), (h0, .inr (1, fs)), (ql, .inl (kl, 96, .inl f_35)), (qh, .inl (kh, 96, .inl f_36))] := hD
              have hK : va_K D vwCl [(kl, .int), (kh, .int), (kp, .int)] s := hK
              refine W.widen (k := 0) (n := 0) (Nat.le_of_ble_eq_true rfl) (Nat.le_of_ble_eq_true rfl) ?_
              refine va_iast hx hb hK hP hD hS 0 2 rfl rfl (vp_in_nI (n := (i1 * 4) + i2) (N := 16) (by omega) (by omega)) dX1_closeGaps_29 (fun H locs hP hD hS => ?_)
              obtain ⟨f_45, hP, hD⟩ : ∃ f : Nat → Int32, va_P D vwCl [(qp, .inl (kp, 16, .inl f)), (h0, .inr (1, fs)), (ql, .inl (kl, 96, .inl f_35)), (qh, .inl (kh, 96, .inl f_36))] H ∧ va_D A [(qp, .inl (kp, 16, .inl f)), (h0, .inr (1, fs)), (ql, .inl (kl, 96, .inl f_35)), (qh, .inl (kh, 96, .inl f_36))] := ⟨_, hP, hD⟩
              refine lv_iinc (v := (nI (i2 + 1))) (lv' := [(2, .int (nI (i2 + 1))), (1, .int (nI i1)), (0, .ref h0)]) hx hb dX1_closeGaps_30 hl (k := 0) rfl (nI_1 _) (by decide) rfl (fun ls hl => ?_)
              refine lv_goto (tgt := 9) hx hb dX1_closeGaps_33 (by decide) ?_
              exact ih9 (i2 + 1) _ _ _ _ _ _ (by omega) (by omega) (hP.sub [1, 2, 3, 0] rfl) (hD.sub [1, 2, 3, 0] (by decide) rfl) hS (lv_sub hl [0, 1, 2] rfl)
        exact lp9 (4 + 1) 0 _ _ _ _ _ _ (by omega) (by omega) hP hD hS (lv_sub hl [0, 1, 2] rfl)
  exact lp2 (4 + 1) 0 _ _ _ _ _ _ (by omega) (by omega) hP hD hS (lv_sub hl [0, 1] rfl)
end
section
theorem dX1_setNeeds_0 : decode cX1_setNeeds 0 = .ok (.iconst 0, 1) := by decide +kernel
theorem dX1_setNeeds_1 : decode cX1_setNeeds 1 = .ok (.istore_n 1, 1) := by decide +kernel
theorem dX1_setNeeds_2 : decode cX1_setNeeds 2 = .ok (.iload_n 1, 1) := by decide +kernel
theorem dX1_setNeeds_3 : decode cX1_setNeeds 3 = .ok (.bipush 24, 2) := by decide +kernel
theorem dX1_setNeeds_5 : decode cX1_setNeeds 5 = .ok (.if_icmp .ge 143, 3) := by decide +kernel
theorem dX1_setNeeds_148 : decode cX1_setNeeds 148 = .ok (.return_, 1) := by decide +kernel
theorem dX1_setNeeds_8 : decode cX1_setNeeds 8 = .ok (.iconst 0, 1) := by decide +kernel
theorem dX1_setNeeds_9 : decode cX1_setNeeds 9 = .ok (.istore_n 2, 1) := by decide +kernel
theorem dX1_setNeeds_10 : decode cX1_setNeeds 10 = .ok (.iload_n 2, 1) := by decide +kernel
theorem dX1_setNeeds_11 : decode cX1_setNeeds 11 = .ok (.iconst 4, 1) := by decide +kernel
theorem dX1_setNeeds_12 : decode cX1_setNeeds 12 = .ok (.if_icmp .ge 130, 3) := by decide +kernel
theorem dX1_setNeeds_142 : decode cX1_setNeeds 142 = .ok (.iinc 1 1, 3) := by decide +kernel
theorem dX1_setNeeds_145 : decode cX1_setNeeds 145 = .ok (.goto (-143), 3) := by decide +kernel
theorem dX1_setNeeds_15 : decode cX1_setNeeds 15 = .ok (.iload_n 1, 1) := by decide +kernel
theorem dX1_setNeeds_16 : decode cX1_setNeeds 16 = .ok (.iconst 4, 1) := by decide +kernel
theorem dX1_setNeeds_17 : decode cX1_setNeeds 17 = .ok (.imul, 1) := by decide +kernel
theorem dX1_setNeeds_18 : decode cX1_setNeeds 18 = .ok (.iload_n 2, 1) := by decide +kernel
theorem dX1_setNeeds_19 : decode cX1_setNeeds 19 = .ok (.iadd, 1) := by decide +kernel
theorem dX1_setNeeds_20 : decode cX1_setNeeds 20 = .ok (.istore_n 3, 1) := by decide +kernel
theorem dX1_setNeeds_21 : decode cX1_setNeeds 21 = .ok (.aload_n 0, 1) := by decide +kernel
theorem dX1_setNeeds_22 : decode cX1_setNeeds 22 = .ok (.getfield 28, 3) := by decide +kernel
theorem dX1_setNeeds_25 : decode cX1_setNeeds 25 = .ok (.iload_n 3, 1) := by decide +kernel
theorem dX1_setNeeds_26 : decode cX1_setNeeds 26 = .ok (.aload_n 0, 1) := by decide +kernel
theorem dX1_setNeeds_27 : decode cX1_setNeeds 27 = .ok (.getfield 21, 3) := by decide +kernel
theorem dX1_setNeeds_30 : decode cX1_setNeeds 30 = .ok (.iload_n 3, 1) := by decide +kernel
theorem dX1_setNeeds_31 : decode cX1_setNeeds 31 = .ok (.iaload, 1) := by decide +kernel
theorem dX1_setNeeds_32 : decode cX1_setNeeds 32 = .ok (.iastore, 1) := by decide +kernel
theorem dX1_setNeeds_33 : decode cX1_setNeeds 33 = .ok (.aload_n 0, 1) := by decide +kernel
theorem dX1_setNeeds_34 : decode cX1_setNeeds 34 = .ok (.getfield 31, 3) := by decide +kernel
theorem dX1_setNeeds_37 : decode cX1_setNeeds 37 = .ok (.iload_n 3, 1) := by decide +kernel
theorem dX1_setNeeds_38 : decode cX1_setNeeds 38 = .ok (.aload_n 0, 1) := by decide +kernel
theorem dX1_setNeeds_39 : decode cX1_setNeeds 39 = .ok (.getfield 25, 3) := by decide +kernel
theorem dX1_setNeeds_42 : decode cX1_setNeeds 42 = .ok (.iload_n 3, 1) := by decide +kernel
theorem dX1_setNeeds_43 : decode cX1_setNeeds 43 = .ok (.iaload, 1) := by decide +kernel
theorem dX1_setNeeds_44 : decode cX1_setNeeds 44 = .ok (.iastore, 1) := by decide +kernel
theorem dX1_setNeeds_45 : decode cX1_setNeeds 45 = .ok (.iconst 0, 1) := by decide +kernel
theorem dX1_setNeeds_46 : decode cX1_setNeeds 46 = .ok (.istore 4, 2) := by decide +kernel
theorem dX1_setNeeds_48 : decode cX1_setNeeds 48 = .ok (.iload 4, 2) := by decide +kernel
theorem dX1_setNeeds_50 : decode cX1_setNeeds 50 = .ok (.iconst 4, 1) := by decide +kernel
theorem dX1_setNeeds_51 : decode cX1_setNeeds 51 = .ok (.if_icmp .ge 85, 3) := by decide +kernel
theorem dX1_setNeeds_136 : decode cX1_setNeeds 136 = .ok (.iinc 2 1, 3) := by decide +kernel
theorem dX1_setNeeds_139 : decode cX1_setNeeds 139 = .ok (.goto (-129), 3) := by decide +kernel
theorem dX1_setNeeds_54 : decode cX1_setNeeds 54 = .ok (.iload_n 1, 1) := by decide +kernel
theorem dX1_setNeeds_55 : decode cX1_setNeeds 55 = .ok (.iconst 4, 1) := by decide +kernel
theorem dX1_setNeeds_56 : decode cX1_setNeeds 56 = .ok (.imul, 1) := by decide +kernel
theorem dX1_setNeeds_57 : decode cX1_setNeeds 57 = .ok (.iload 4, 2) := by decide +kernel
theorem dX1_setNeeds_59 : decode cX1_setNeeds 59 = .ok (.iadd, 1) := by decide +kernel
theorem dX1_setNeeds_60 : decode cX1_setNeeds 60 = .ok (.istore 5, 2) := by decide +kernel
theorem dX1_setNeeds_62 : decode cX1_setNeeds 62 = .ok (.aload_n 0, 1) := by decide +kernel
theorem dX1_setNeeds_63 : decode cX1_setNeeds 63 = .ok (.getfield 28, 3) := by decide +kernel
theorem dX1_setNeeds_66 : decode cX1_setNeeds 66 = .ok (.iload_n 3, 1) := by decide +kernel
theorem dX1_setNeeds_67 : decode cX1_setNeeds 67 = .ok (.aload_n 0, 1) := by decide +kernel
theorem dX1_setNeeds_68 : decode cX1_setNeeds 68 = .ok (.getfield 28, 3) := by decide +kernel
theorem dX1_setNeeds_71 : decode cX1_setNeeds 71 = .ok (.iload_n 3, 1) := by decide +kernel
theorem dX1_setNeeds_72 : decode cX1_setNeeds 72 = .ok (.iaload, 1) := by decide +kernel
theorem dX1_setNeeds_73 : decode cX1_setNeeds 73 = .ok (.aload_n 0, 1) := by decide +kernel
theorem dX1_setNeeds_74 : decode cX1_setNeeds 74 = .ok (.getfield 21, 3) := by decide +kernel
theorem dX1_setNeeds_77 : decode cX1_setNeeds 77 = .ok (.iload 5, 2) := by decide +kernel
theorem dX1_setNeeds_79 : decode cX1_setNeeds 79 = .ok (.iaload, 1) := by decide +kernel
theorem dX1_setNeeds_80 : decode cX1_setNeeds 80 = .ok (.aload_n 0, 1) := by decide +kernel
theorem dX1_setNeeds_81 : decode cX1_setNeeds 81 = .ok (.getfield 34, 3) := by decide +kernel
theorem dX1_setNeeds_84 : decode cX1_setNeeds 84 = .ok (.iload_n 2, 1) := by decide +kernel
theorem dX1_setNeeds_85 : decode cX1_setNeeds 85 = .ok (.iconst 4, 1) := by decide +kernel
theorem dX1_setNeeds_86 : decode cX1_setNeeds 86 = .ok (.imul, 1) := by decide +kernel
theorem dX1_setNeeds_87 : decode cX1_setNeeds 87 = .ok (.iload 4, 2) := by decide +kernel
theorem dX1_setNeeds_89 : decode cX1_setNeeds 89 = .ok (.iadd, 1) := by decide +kernel
theorem dX1_setNeeds_90 : decode cX1_setNeeds 90 = .ok (.iaload, 1) := by decide +kernel
theorem dX1_setNeeds_91 : decode cX1_setNeeds 91 = .ok (.isub, 1) := by decide +kernel
theorem dX1_setNeeds_92 : decode cX1_setNeeds 92 = .ok (.invokestatic 94, 3) := by decide +kernel
theorem dX1_setNeeds_95 : decode cX1_setNeeds 95 = .ok (.iastore, 1) := by decide +kernel
theorem dX1_setNeeds_96 : decode cX1_setNeeds 96 = .ok (.aload_n 0, 1) := by decide +kernel
theorem dX1_setNeeds_97 : decode cX1_setNeeds 97 = .ok (.getfield 31, 3) := by decide +kernel
theorem dX1_setNeeds_100 : decode cX1_setNeeds 100 = .ok (.iload_n 3, 1) := by decide +kernel
theorem dX1_setNeeds_101 : decode cX1_setNeeds 101 = .ok (.aload_n 0, 1) := by decide +kernel
theorem dX1_setNeeds_102 : decode cX1_setNeeds 102 = .ok (.getfield 31, 3) := by decide +kernel
theorem dX1_setNeeds_105 : decode cX1_setNeeds 105 = .ok (.iload_n 3, 1) := by decide +kernel
theorem dX1_setNeeds_106 : decode cX1_setNeeds 106 = .ok (.iaload, 1) := by decide +kernel
theorem dX1_setNeeds_107 : decode cX1_setNeeds 107 = .ok (.aload_n 0, 1) := by decide +kernel
theorem dX1_setNeeds_108 : decode cX1_setNeeds 108 = .ok (.getfield 25, 3) := by decide +kernel
theorem dX1_setNeeds_111 : decode cX1_setNeeds 111 = .ok (.iload 5, 2) := by decide +kernel
theorem dX1_setNeeds_113 : decode cX1_setNeeds 113 = .ok (.iaload, 1) := by decide +kernel
theorem dX1_setNeeds_114 : decode cX1_setNeeds 114 = .ok (.aload_n 0, 1) := by decide +kernel
theorem dX1_setNeeds_115 : decode cX1_setNeeds 115 = .ok (.getfield 34, 3) := by decide +kernel
theorem dX1_setNeeds_118 : decode cX1_setNeeds 118 = .ok (.iload 4, 2) := by decide +kernel
theorem dX1_setNeeds_120 : decode cX1_setNeeds 120 = .ok (.iconst 4, 1) := by decide +kernel
theorem dX1_setNeeds_121 : decode cX1_setNeeds 121 = .ok (.imul, 1) := by decide +kernel
theorem dX1_setNeeds_122 : decode cX1_setNeeds 122 = .ok (.iload_n 2, 1) := by decide +kernel
theorem dX1_setNeeds_123 : decode cX1_setNeeds 123 = .ok (.iadd, 1) := by decide +kernel
theorem dX1_setNeeds_124 : decode cX1_setNeeds 124 = .ok (.iaload, 1) := by decide +kernel
theorem dX1_setNeeds_125 : decode cX1_setNeeds 125 = .ok (.iadd, 1) := by decide +kernel
theorem dX1_setNeeds_126 : decode cX1_setNeeds 126 = .ok (.invokestatic 55, 3) := by decide +kernel
theorem dX1_setNeeds_129 : decode cX1_setNeeds 129 = .ok (.iastore, 1) := by decide +kernel
theorem dX1_setNeeds_130 : decode cX1_setNeeds 130 = .ok (.iinc 4 1, 3) := by decide +kernel
theorem dX1_setNeeds_133 : decode cX1_setNeeds 133 = .ok (.goto (-85), 3) := by decide +kernel
theorem dX1_settle_0 : decode cX1_settle 0 = .ok (.aload_n 0, 1) := by decide +kernel
theorem dX1_settle_1 : decode cX1_settle 1 = .ok (.invokevirtual 60, 3) := by decide +kernel
theorem dX1_settle_4 : decode cX1_settle 4 = .ok (.iconst 0, 1) := by decide +kernel
theorem dX1_settle_5 : decode cX1_settle 5 = .ok (.istore_n 1, 1) := by decide +kernel
theorem dX1_settle_6 : decode cX1_settle 6 = .ok (.iload_n 1, 1) := by decide +kernel
theorem dX1_settle_7 : decode cX1_settle 7 = .ok (.aload_n 0, 1) := by decide +kernel
theorem dX1_settle_8 : decode cX1_settle 8 = .ok (.getfield 9, 3) := by decide +kernel
theorem dX1_settle_11 : decode cX1_settle 11 = .ok (.if_icmp .ge 31, 3) := by decide +kernel
theorem dX1_settle_42 : decode cX1_settle 42 = .ok (.aload_n 0, 1) := by decide +kernel
theorem dX1_settle_43 : decode cX1_settle 43 = .ok (.invokevirtual 67, 3) := by decide +kernel
theorem dX1_settle_46 : decode cX1_settle 46 = .ok (.iconst 0, 1) := by decide +kernel
theorem dX1_settle_47 : decode cX1_settle 47 = .ok (.istore_n 1, 1) := by decide +kernel
theorem dX1_settle_48 : decode cX1_settle 48 = .ok (.iload_n 1, 1) := by decide +kernel
theorem dX1_settle_49 : decode cX1_settle 49 = .ok (.iconst 4, 1) := by decide +kernel
theorem dX1_settle_50 : decode cX1_settle 50 = .ok (.if_icmp .ge 24, 3) := by decide +kernel
theorem dX1_settle_74 : decode cX1_settle 74 = .ok (.aload_n 0, 1) := by decide +kernel
theorem dX1_settle_75 : decode cX1_settle 75 = .ok (.invokevirtual 70, 3) := by decide +kernel
theorem dX1_settle_78 : decode cX1_settle 78 = .ok (.iconst 1, 1) := by decide +kernel
theorem dX1_settle_79 : decode cX1_settle 79 = .ok (.ireturn, 1) := by decide +kernel
theorem dX1_settle_53 : decode cX1_settle 53 = .ok (.aload_n 0, 1) := by decide +kernel
theorem dX1_settle_54 : decode cX1_settle 54 = .ok (.getfield 34, 3) := by decide +kernel
theorem dX1_settle_57 : decode cX1_settle 57 = .ok (.iload_n 1, 1) := by decide +kernel
theorem dX1_settle_58 : decode cX1_settle 58 = .ok (.iconst 4, 1) := by decide +kernel
theorem dX1_settle_59 : decode cX1_settle 59 = .ok (.imul, 1) := by decide +kernel
theorem dX1_settle_60 : decode cX1_settle 60 = .ok (.iload_n 1, 1) := by decide +kernel
theorem dX1_settle_61 : decode cX1_settle 61 = .ok (.iadd, 1) := by decide +kernel
theorem dX1_settle_62 : decode cX1_settle 62 = .ok (.iaload, 1) := by decide +kernel
theorem dX1_settle_63 : decode cX1_settle 63 = .ok (.ifCond .ge 5, 3) := by decide +kernel
theorem dX1_settle_68 : decode cX1_settle 68 = .ok (.iinc 1 1, 3) := by decide +kernel
theorem dX1_settle_71 : decode cX1_settle 71 = .ok (.goto (-23), 3) := by decide +kernel
theorem dX1_settle_66 : decode cX1_settle 66 = .ok (.iconst 0, 1) := by decide +kernel
theorem dX1_settle_67 : decode cX1_settle 67 = .ok (.ireturn, 1) := by decide +kernel
theorem dX1_init_0 : decode cX1_init 0 = .ok (.aload_n 0, 1) := by decide +kernel
theorem dX1_init_1 : decode cX1_init 1 = .ok (.invokespecial 3, 3) := by decide +kernel
theorem dX1_init_4 : decode cX1_init 4 = .ok (.aload_n 0, 1) := by decide +kernel
theorem dX1_init_5 : decode cX1_init 5 = .ok (.iconst 0, 1) := by decide +kernel
theorem dX1_init_6 : decode cX1_init 6 = .ok (.putfield 9, 3) := by decide +kernel
theorem dX1_init_9 : decode cX1_init 9 = .ok (.aload_n 0, 1) := by decide +kernel
theorem dX1_init_10 : decode cX1_init 10 = .ok (.bipush 100, 2) := by decide +kernel
theorem dX1_init_12 : decode cX1_init 12 = .ok (.anewarray 15, 3) := by decide +kernel
theorem dX1_init_15 : decode cX1_init 15 = .ok (.putfield 17, 3) := by decide +kernel
theorem dX1_init_18 : decode cX1_init 18 = .ok (.aload_n 0, 1) := by decide +kernel
theorem dX1_init_19 : decode cX1_init 19 = .ok (.bipush 96, 2) := by decide +kernel
theorem dX1_init_21 : decode cX1_init 21 = .ok (.newarray .int, 2) := by decide +kernel
theorem dX1_init_23 : decode cX1_init 23 = .ok (.putfield 21, 3) := by decide +kernel
theorem dX1_init_26 : decode cX1_init 26 = .ok (.aload_n 0, 1) := by decide +kernel
theorem dX1_init_27 : decode cX1_init 27 = .ok (.bipush 96, 2) := by decide +kernel
theorem dX1_init_29 : decode cX1_init 29 = .ok (.newarray .int, 2) := by decide +kernel
theorem dX1_init_31 : decode cX1_init 31 = .ok (.putfield 25, 3) := by decide +kernel
theorem dX1_init_34 : decode cX1_init 34 = .ok (.aload_n 0, 1) := by decide +kernel
theorem dX1_init_35 : decode cX1_init 35 = .ok (.bipush 96, 2) := by decide +kernel
theorem dX1_init_37 : decode cX1_init 37 = .ok (.newarray .int, 2) := by decide +kernel
theorem dX1_init_39 : decode cX1_init 39 = .ok (.putfield 28, 3) := by decide +kernel
theorem dX1_init_42 : decode cX1_init 42 = .ok (.aload_n 0, 1) := by decide +kernel
theorem dX1_init_43 : decode cX1_init 43 = .ok (.bipush 96, 2) := by decide +kernel
theorem dX1_init_45 : decode cX1_init 45 = .ok (.newarray .int, 2) := by decide +kernel
theorem dX1_init_47 : decode cX1_init 47 = .ok (.putfield 31, 3) := by decide +kernel
theorem dX1_init_50 : decode cX1_init 50 = .ok (.aload_n 0, 1) := by decide +kernel
theorem dX1_init_51 : decode cX1_init 51 = .ok (.bipush 16, 2) := by decide +kernel
theorem dX1_init_53 : decode cX1_init 53 = .ok (.newarray .int, 2) := by decide +kernel
theorem dX1_init_55 : decode cX1_init 55 = .ok (.putfield 34, 3) := by decide +kernel
theorem dX1_init_58 : decode cX1_init 58 = .ok (.aload_n 0, 1) := by decide +kernel
theorem dX1_init_59 : decode cX1_init 59 = .ok (.invokevirtual 37, 3) := by decide +kernel
theorem dX1_init_62 : decode cX1_init 62 = .ok (.pop, 1) := by decide +kernel
theorem dX1_init_63 : decode cX1_init 63 = .ok (.return_, 1) := by decide +kernel
set_option maxHeartbeats 4000000 in
set_option maxRecDepth 100000 in
theorem c_X1_setNeeds (l : Launch) (D : va_G) (sz : Nat) (h0 : Nat) (fs : List Value) (ql : Nat) (qh : Nat) (qe : Nat) (qg : Nat) (qp : Nat) (kl : ClassId) (kh : ClassId) (ke : ClassId) (kg : ClassId) (kp : ClassId) (fl : Nat → Int32) (fh : Nat → Int32) (fe : Nat → Int32) (fg : Nat → Int32) (fp : Nat → Int32) (hf2 : fs[2]? = some (.ref ql)) (hf3 : fs[3]? = some (.ref qh)) (hf4 : fs[4]? = some (.ref qe)) (hf5 : fs[5]? = some (.ref qg)) (hf6 : fs[6]? = some (.ref qp)) : Met l yX1_setNeeds (.code yX1_setNeeds cX1_setNeeds 6 none :: G) ({ frames := 2, cells := 0, slots := 0, locals := 60 }) (va_Pc [.ref h0] (pw D sz [(h0, .inr (1, fs)), (ql, .inl (kl, 96, .inl fl)), (qh, .inl (kh, 96, .inl fh)), (qe, .inl (ke, 96, .inl fe)), (qg, .inl (kg, 96, .inl fg)), (qp, .inl (kp, 16, .inl fp))] [(kl, .int), (kh, .int), (ke, .int), (kg, .int), (kp, .int)])) (va_Qv (fun (u : (Nat → Int32) × (Nat → Int32) × (Nat → Int32) × (Nat → Int32) × (Nat → Int32)) => True) (fun (u : (Nat → Int32) × (Nat → Int32) × (Nat → Int32) × (Nat → Int32) × (Nat → Int32)) => qw D (va_A [(h0, .inr (1, fs)), (ql, .inl (kl, 96, .inl fl)), (qh, .inl (kh, 96, .inl fh)), (qe, .inl (ke, 96, .inl fe)), (qg, .inl (kg, 96, .inl fg)), (qp, .inl (kp, 16, .inl fp))] sz) [(h0, .inr (1, fs)), (ql, .inl (kl, 96, .inl u.1)), (qh, .inl (kh, 96, .inl u.2.1)), (qe, .inl (ke, 96, .inl u.2.2.1)), (qg, .inl (kg, 96, .inl u.2.2.2.1)), (qp, .inl (kp, 16, .inl u.2.2.2.2))] []) (va_A [(h0, .inr (1, fs)), (ql, .inl (kl, 96, .inl fl)), (qh, .inl (kh, 96, .inl fh)), (qe, .inl (ke, 96, .inl fe)), (qg, .inl (kg, 96, .inl fg)), (qp, .inl (kp, 16, .inl fp))] sz)) 0 0 (va_A [(h0, .inr (1, fs)), (ql, .inl (kl, 96, .inl fl)), (qh, .inl (kh, 96, .inl fh)), (qe, .inl (ke, 96, .inl fe)), (qg, .inl (kg, 96, .inl fg)), (qp, .inl (kp, 16, .inl fp))] sz) := by
  refine Met.ofW (cc := cX1_setNeeds) (maxL := 6) (ret := none) (by decide) rfl ?_
  intro p e s m args below meth c s₁ B hml hv
  obtain ⟨rfl, hsz, hP, hK, hD0, hN⟩ := hv
  have hx := B.exec
  have hb := B.bytes
  have hr := B.returns
  have hts := atoms_spec (ws := (.code yX1_setNeeds cX1_setNeeds 6 none :: G)) B.pre
  have hown : s.vm.findClass RX1 = some m.cls := findClass_of_methodNamed B.named
  have hlocks := B.notSynchronized
  subst hsz
  have hD := hD0.self (sz := s.heap.size)
  generalize hAe : va_A [(h0, .inr (1, fs)), (ql, .inl (kl, 96, .inl fl)), (qh, .inl (kh, 96, .inl fh)), (qe, .inl (ke, 96, .inl fe)), (qg, .inl (kg, 96, .inl fg)), (qp, .inl (kp, 16, .inl fp))] s.heap.size = A at hD ⊢
  have hA : ∀ q : Nat, s.heap.size ≤ q → A q := fun q h => by rw [← hAe]; exact Or.inr h
  have hS : va_S A s.heap s.heap [] := va_S.rf
  have hP : va_P D vwCl [(h0, .inr (1, fs)), (ql, .inl (kl, 96, .inl fl)), (qh, .inl (kh, 96, .inl fh)), (qe, .inl (ke, 96, .inl fe)), (qg, .inl (kg, 96, .inl fg)), (qp, .inl (kp, 16, .inl fp))] s.heap := hP
  have hl := lv_entry ([.ref h0]) (n := 6) (Nat.le_of_ble_eq_true rfl)
  rw [lg_entry_eq]
  generalize (lg_sl ([.ref h0]) ++ List.replicate (6 - (lg_sl ([.ref h0])).length) Slot.unset).toArray = ls at hl ⊢
  have hl : lv_has ls 6 [(0, .ref h0)] := hl
  refine lv_iconst (v := 0) hx hb dX1_setNeeds_0 (by decide) ?_
  refine lv_istore_n (lv' := [(1, .int 0), (0, .ref h0)]) hx hb dX1_setNeeds_1 rfl hl (by decide) rfl (fun ls hl => ?_)
  have lp2 : ∀ (n i1 : Nat) (f_1 : Nat → Int32) (f_2 : Nat → Int32) (f_3 : Nat → Int32) (f_4 : Nat → Int32) (f_5 : Nat → Int32) (H : Heap) (locs : List Loc) (ls : Array Slot), i1 ≤ 24 → 24 < i1 + n → va_P D vwCl [(h0, .inr (1, fs)), (ql, .inl (kl, 96, .inl f_1)), (qh, .inl (kh, 96, .inl f_2)), (qe, .inl (ke, 96, .inl f_3)), (qg, .inl (kg, 96, .inl f_4)), (qp, .inl (kp, 16, .inl f_5))] H → va_D A [(h0, .inr (1, fs)), (ql, .inl (kl, 96, .inl f_1)), (qh, .inl (kh, 96, .inl f_2)), (qe, .inl (ke, 96, .inl f_3)), (qg, .inl (kg, 96, .inl f_4)), (qp, .inl (kp, 16, .inl f_5))] → va_S A s.heap H locs → lv_has ls 6 [(1, .int (nI i1)), (0, .ref h0)] → W p l e ({ frames := 2, cells := 0, slots := 0, locals := 60 } : Room) s m (([.ref h0] : List Value).toArray) below meth c H locs 0 0 (MQ below (va_Qv (fun (u : (Nat → Int32) × (Nat → Int32) × (Nat → Int32) × (Nat → Int32) × (Nat → Int32)) => True) (fun (u : (Nat → Int32) × (Nat → Int32) × (Nat → Int32) × (Nat → Int32) × (Nat → Int32)) => qw D A [(h0, .inr (1, fs)), (ql, .inl (kl, 96, .inl u.1)), (qh, .inl (kh, 96, .inl u.2.1)), (qe, .inl (ke, 96, .inl u.2.2.1)), (qg, .inl (kg, 96, .inl u.2.2.2.1)), (qp, .inl (kp, 16, .inl u.2.2.2.2))] []) A) (([.ref h0] : List Value).toArray) s 0 0 A) (F0 m 2 ls []) := by
    intro n
    induction n with
    | zero => intro i1 f_1 f_2 f_3 f_4 f_5 H locs ls hi hn; exact absurd hn (by omega)
    | succ n ih2 =>
      intro i1 f_1 f_2 f_3 f_4 f_5 H locs ls hi_6 hn_7 hP hD hS hl
      refine lv_iload_n hx hb dX1_setNeeds_2 rfl (lv_at hl 0 rfl) ?_
      refine lv_bipush (v := 24) hx hb dX1_setNeeds_3 (by decide) ?_
      refine lv_icmp_ge (tgt := 148) hx hb dX1_setNeeds_5 (by decide) (fun c_9 => ?_) (fun c_9 => ?_)
      · skip
        have hc_9 := ge_of (i := i1) 24 c_9 rfl (by omega) (by omega)
        have hP9 := hP.sub (ws' := [(h0, .inr (1, fs)), (ql, .inl (kl, 96, .inl f_1)), (qh, .inl (kh, 96, .inl f_2)), (qe, .inl (ke, 96, .inl f_3)), (qg, .inl (kg, 96, .inl f_4)), (qp, .inl (kp, 16, .inl f_5))]) [0, 1, 2, 3, 4, 5] rfl
        have hD9 := hD.sub (ws' := [(h0, .inr (1, fs)), (ql, .inl (kl, 96, .inl f_1)), (qh, .inl (kh, 96, .inl f_2)), (qe, .inl (ke, 96, .inl f_3)), (qg, .inl (kg, 96, .inl f_4)), (qp, .inl (kp, 16, .inl f_5))]) [0, 1, 2, 3, 4, 5] (by decide) rfl
        have hK9 := hK.sub (tys' := []) [] rfl
        refine W.widen (k := 0) (n := 0) (Nat.le_of_ble_eq_true rfl) (Nat.le_of_ble_eq_true rfl) ?_
        exact W.vret hx hb hr (fun t ht hW => ⟨⟨(f_1, f_2, f_3, f_4, f_5), rfl, (by first | trivial | rfl), by rw [ht]; exact hP9, va_K.moved hW.alike hK9, hD9⟩, hS.F ht⟩) hS.2.2 dX1_setNeeds_148
      · skip
        have hc_9 := lt_of (i := i1) 24 c_9 rfl (by omega)
        refine lv_iconst (v := 0) hx hb dX1_setNeeds_8 (by decide) ?_
        refine lv_istore_n (lv' := [(2, .int 0), (1, .int (nI i1)), (0, .ref h0)]) hx hb dX1_setNeeds_9 rfl hl (by decide) rfl (fun ls hl => ?_)
        have lp10 : ∀ (n i2 : Nat) (f_10 : Nat → Int32) (f_11 : Nat → Int32) (f_12 : Nat → Int32) (f_13 : Nat → Int32) (f_14 : Nat → Int32) (H : Heap) (locs : List Loc) (ls : Array Slot), i2 ≤ 4 → 4 < i2 + n → va_P D vwCl [(h0, .inr (1, fs)), (ql, .inl (kl, 96, .inl f_10)), (qh, .inl (kh, 96, .inl f_11)), (qe, .inl (ke, 96, .inl f_12)), (qg, .inl (kg, 96, .inl f_13)), (qp, .inl (kp, 16, .inl f_14))] H → va_D A [(h0, .inr (1, fs)), (ql, .inl (kl, 96, .inl f_10)), (qh, .inl (kh, 96, .inl f_11)), (qe, .inl (ke, 96, .inl f_12)), (qg, .inl (kg, 96, .inl f_13)), (qp, .inl (kp, 16, .inl f_14))] → va_S A s.heap H locs → lv_has ls 6 [(2, .int (nI i2)), (1, .int (nI i1)), (0, .ref h0)] → W p l e ({ frames := 2, cells := 0, slots := 0, locals := 60 } : Room) s m (([.ref h0] : List Value).toArray) below meth c H locs 0 0 (MQ below (va_Qv (fun (u : (Nat → Int32) × (Nat → Int32) × (Nat → Int32) × (Nat → Int32) × (Nat → Int32)) => True) (fun (u : (Nat → Int32) × (Nat → Int32) × (Nat → Int32) × (Nat → Int32) × (Nat → Int32)) => qw D A [(h0, .inr (1, fs)), (ql, .inl (kl, 96, .inl u.1)), (qh, .inl (kh, 96, .inl u.2.1)), (qe, .inl (ke, 96, .inl u.2.2.1)), (qg, .inl (kg, 96, .inl u.2.2.2.1)), (qp, .inl (kp, 16, .inl u.2.2.2.2))] []) A) (([.ref h0] : List Value).toArray) s 0 0 A) (F0 m 10 ls []) := by
          intro n
          induction n with
          | zero => intro i2 f_10 f_11 f_12 f_13 f_14 H locs ls hi hn; exact absurd hn (by omega)
          | succ n ih10 =>
            intro i2 f_10 f_11 f_12 f_13 f_14 H locs ls hi_15 hn_16 hP hD hS hl
            refine lv_iload_n hx hb dX1_setNeeds_10 rfl (lv_at hl 0 rfl) ?_
            refine lv_iconst (v := 4) hx hb dX1_setNeeds_11 (by decide) ?_
            refine lv_icmp_ge (tgt := 142) hx hb dX1_setNeeds_12 (by decide) (fun c_18 => ?_) (fun c_18 => ?_)
            · skip
              have hc_18 := ge_of (i := i2) 4 c_18 rfl (by omega) (by omega)
              refine lv_iinc (v := (nI (i1 + 1))) (lv' := [(1, .int (nI (i1 + 1))), (2, .int (nI i2)), (0, .ref h0)]) hx hb dX1_setNeeds_142 hl (k := 1) rfl (nI_1 _) (by decide) rfl (fun ls hl => ?_)
              refine lv_goto (tgt := 2) hx hb dX1_setNeeds_145 (by decide) ?_
              exact ih2 (i1 + 1) _ _ _ _ _ _ _ _ (by omega) (by omega) (hP.sub [0, 1, 2, 3, 4, 5] rfl) (hD.sub [0, 1, 2, 3, 4, 5] (by decide) rfl) hS (lv_sub hl [0, 2] rfl)
            · skip
              have hc_18 := lt_of (i := i2) 4 c_18 rfl (by omega)
              refine lv_iload_n hx hb dX1_setNeeds_15 rfl (lv_at hl 1 rfl) ?_
              refine lv_iconst (v := 4) hx hb dX1_setNeeds_16 (by decide) ?_
              refine lv_imul hx hb dX1_setNeeds_17 ?_
              refine tI (y := nI (i1 * 4)) (pk_mul i1 4) ?_
              refine lv_iload_n hx hb dX1_setNeeds_18 rfl (lv_at hl 0 rfl) ?_
              refine lv_iadd hx hb dX1_setNeeds_19 ?_
              refine tI (y := nI ((i1 * 4) + i2)) (nI_add (i1 * 4) i2) ?_
              refine lv_istore_n (lv' := [(3, .int (nI ((i1 * 4) + i2))), (2, .int (nI i2)), (1, .int (nI i1)), (0, .ref h0)]) hx hb dX1_setNeeds_20 rfl hl (by decide) rfl (fun ls hl => ?_)
              refine lv_aload_n hx hb dX1_setNeeds_21 rfl (lv_at hl 3 rfl) ?_
              refine va_get (D := D) (ci := 1) (v := .ref qe) (C := RX1) (T := TX1) (N := 7) hx hb hts (fun w h => List.mem_cons_of_mem _ (inG1 w h)) hown hK hP 0 rfl rfl 4 (by decide) (hts _ (List.mem_cons_of_mem _ gw_66)) (fun _ h9 => h9) hf4 dX1_setNeeds_22 ?_
              refine lv_iload_n hx hb dX1_setNeeds_25 rfl (lv_at hl 0 rfl) ?_
              refine lv_aload_n hx hb dX1_setNeeds_26 rfl (lv_at hl 3 rfl) ?_
              refine va_get (D := D) (ci := 1) (v := .ref ql) (C := RX1) (T := TX1) (N := 7) hx hb hts (fun w h => List.mem_cons_of_mem _ (inG1 w h)) hown hK hP 0 rfl rfl 2 (by decide) (hts _ (List.mem_cons_of_mem _ gw_54)) (fun _ h9 => h9) hf2 dX1_setNeeds_27 ?_
              refine lv_iload_n hx hb dX1_setNeeds_30 rfl (lv_at hl 0 rfl) ?_
              refine va_iald hx hb hK hP 1 0 rfl rfl (vp_in_nI (n := (i1 * 4) + i2) (N := 96) (by omega) (by omega)) dX1_setNeeds_31 ?_
              refine tF (fun v_19 => ?_)
              refine va_iast hx hb hK hP hD hS 3 2 rfl rfl (vp_in_nI (n := (i1 * 4) + i2) (N := 96) (by omega) (by omega)) dX1_setNeeds_32 (fun H locs hP hD hS => ?_)
              obtain ⟨f_20, hP, hD⟩ : ∃ f : Nat → Int32, va_P D vwCl [(h0, .inr (1, fs)), (ql, .inl (kl, 96, .inl f_10)), (qh, .inl (kh, 96, .inl f_11)), (qe, .inl (ke, 96, .inl f)), (qg, .inl (kg, 96, .inl f_13)), (qp, .inl (kp, 16, .inl f_14))] H ∧ va_D A [(h0, .inr (1, fs)), (ql, .inl (kl, 96, .inl f_10)), (qh, .inl (kh, 96, .inl f_11)), (qe, .inl (ke, 96, .inl f)), (qg, .inl (kg, 96, .inl f_13)), (qp, .inl (kp, 16, .inl f_14))] := ⟨_, hP, hD⟩
              refine lv_aload_n hx hb dX1_setNeeds_33 rfl (lv_at hl 3 rfl) ?_
              refine va_get (D := D) (ci := 1) (v := .ref qg) (C := RX1) (T := TX1) (N := 7) hx hb hts (fun w h => List.mem_cons_of_mem _ (inG1 w h)) hown hK hP 0 rfl rfl 5 (by decide) (hts _ (List.mem_cons_of_mem _ gw_67)) (fun _ h9 => h9) hf5 dX1_setNeeds_34 ?_
              refine lv_iload_n hx hb dX1_setNeeds_37 rfl (lv_at hl 0 rfl) ?_
              refine lv_aload_n hx hb dX1_setNeeds_38 rfl (lv_at hl 3 rfl) ?_
              refine va_get (D := D) (ci := 1) (v := .ref qh) (C := RX1) (T := TX1) (N := 7) hx hb hts (fun w h => List.mem_cons_of_mem _ (inG1 w h)) hown hK hP 0 rfl rfl 3 (by decide) (hts _ (List.mem_cons_of_mem _ gw_55)) (fun _ h9 => h9) hf3 dX1_setNeeds_39 ?_
              refine lv_iload_n hx hb dX1_setNeeds_42 rfl (lv_at hl 0 rfl) ?_
              refine va_iald hx hb hK hP 2 1 rfl rfl (vp_in_nI (n := (i1 * 4) + i2) (N := 96) (by omega) (by omega)) dX1_setNeeds_43 ?_
              refine tF (fun v_21 => ?_)
              refine va_iast hx hb hK hP hD hS 4 3 rfl rfl (vp_in_nI (n := (i1 * 4) + i2) (N := 96) (by omega) (by omega)) dX1_setNeeds_44 (fun H locs hP hD hS => ?_)
              obtain ⟨f_22, hP, hD⟩ : ∃ f : Nat → Int32, va_P D vwCl [(h0, .inr (1, fs)), (ql, .inl (kl, 96, .inl f_10)), (qh, .inl (kh, 96, .inl f_11)), (qe, .inl (ke, 96, .inl f_20)), (qg, .inl (kg, 96, .inl f)), (qp, .inl (kp, 16, .inl f_14))] H ∧ va_D A [(h0, .inr (1, fs)), (ql, .inl (kl, 96, .inl f_10)), (qh, .inl (kh, 96, .inl f_11)), (qe, .inl (ke, 96, .inl f_20)), (qg, .inl (kg, 96, .inl f)), (qp, .inl (kp, 16, .inl f_14))] := ⟨_, hP, hD⟩
              refine lv_iconst (v := 0) hx hb dX1_setNeeds_45 (by decide) ?_
              refine lv_istore (lv' := [(4, .int 0), (3, .int (nI ((i1 * 4) + i2))), (2, .int (nI i2)), (1, .int (nI i1)), (0, .ref h0)]) hx hb dX1_setNeeds_46 hl (by decide) rfl (fun ls hl => ?_)
              have lp48 : ∀ (n i4 : Nat) (f_23 : Nat → Int32) (f_24 : Nat → Int32) (f_25 : Nat → Int32) (f_26 : Nat → Int32) (f_27 : Nat → Int32) (H : Heap) (locs : List Loc) (ls : Array Slot), i4 ≤ 4 → 4 < i4 + n → va_P D vwCl [(h0, .inr (1, fs)), (ql, .inl (kl, 96, .inl f_23)), (qh, .inl (kh, 96, .inl f_24)), (qe, .inl (ke, 96, .inl f_25)), (qg, .inl (kg, 96, .inl f_26)), (qp, .inl (kp, 16, .inl f_27))] H → va_D A [(h0, .inr (1, fs)), (ql, .inl (kl, 96, .inl f_23)), (qh, .inl (kh, 96, .inl f_24)), (qe, .inl (ke, 96, .inl f_25)), (qg, .inl (kg, 96, .inl f_26)), (qp, .inl (kp, 16, .inl f_27))] → va_S A s.heap H locs → lv_has ls 6 [(4, .int (nI i4)), (3, .int (nI ((i1 * 4) + i2))), (2, .int (nI i2)), (1, .int (nI i1)), (0, .ref h0)] → W p l e ({ frames := 2, cells := 0, slots := 0, locals := 60 } : Room) s m (([.ref h0] : List Value).toArray) below meth c H locs 0 0 (MQ below (va_Qv (fun (u : (Nat → Int32) × (Nat → Int32) × (Nat → Int32) × (Nat → Int32) × (Nat → Int32)) => True) (fun (u : (Nat → Int32) × (Nat → Int32) × (Nat → Int32) × (Nat → Int32) × (Nat → Int32)) => qw D A [(h0, .inr (1, fs)), (ql, .inl (kl, 96, .inl u.1)), (qh, .inl (kh, 96, .inl u.2.1)), (qe, .inl (ke, 96, .inl u.2.2.1)), (qg, .inl (kg, 96, .inl u.2.2.2.1)), (qp, .inl (kp, 16, .inl u.2.2.2.2))] []) A) (([.ref h0] : List Value).toArray) s 0 0 A) (F0 m 48 ls []) := by
                intro n
                induction n with
                | zero => intro i4 f_23 f_24 f_25 f_26 f_27 H locs ls hi hn; exact absurd hn (by omega)
                | succ n ih48 =>
                  intro i4 f_23 f_24 f_25 f_26 f_27 H locs ls hi_28 hn_29 hP hD hS hl
                  refine lv_iload hx hb dX1_setNeeds_48 (lv_at hl 0 rfl) ?_
                  refine lv_iconst (v := 4) hx hb dX1_setNeeds_50 (by decide) ?_
                  refine lv_icmp_ge (tgt := 136) hx hb dX1_setNeeds_51 (by decide) (fun c_31 => ?_) (fun c_31 => ?_)
                  · skip
                    have hc_31 := ge_of (i := i4) 4 c_31 rfl (by omega) (by omega)
                    refine lv_iinc (v := (nI (i2 + 1))) (lv' := [(2, .int (nI (i2 + 1))), (4, .int (nI i4)), (3, .int (nI ((i1 * 4) + i2))), (1, .int (nI i1)), (0, .ref h0)]) hx hb dX1_setNeeds_136 hl (k := 2) rfl (nI_1 _) (by decide) rfl (fun ls hl => ?_)
                    refine lv_goto (tgt := 10) hx hb dX1_setNeeds_139 (by decide) ?_
                    exact ih10 (i2 + 1) _ _ _ _ _ _ _ _ (by omega) (by omega) (hP.sub [0, 1, 2, 3, 4, 5] rfl) (hD.sub [0, 1, 2, 3, 4, 5] (by decide) rfl) hS (lv_sub hl [0, 3, 4] rfl)
                  · skip
                    have hc_31 := lt_of (i := i4) 4 c_31 rfl (by omega)
                    refine lv_iload_n hx hb dX1_setNeeds_54 rfl (lv_at hl 3 rfl) ?_
                    refine lv_iconst (v := 4) hx hb dX1_setNeeds_55 (by decide) ?_
                    refine lv_imul hx hb dX1_setNeeds_56 ?_
                    refine tI (y := nI (i1 * 4)) (pk_mul i1 4) ?_
                    refine lv_iload hx hb dX1_setNeeds_57 (lv_at hl 0 rfl) ?_
                    refine lv_iadd hx hb dX1_setNeeds_59 ?_
                    refine tI (y := nI ((i1 * 4) + i4)) (nI_add (i1 * 4) i4) ?_
                    refine lv_istore (lv' := [(5, .int (nI ((i1 * 4) + i4))), (4, .int (nI i4)), (3, .int (nI ((i1 * 4) + i2))), (2, .int (nI i2)), (1, .int (nI i1)), (0, .ref h0)]) hx hb dX1_setNeeds_60 hl (by decide) rfl (fun ls hl => ?_)
                    refine lv_aload_n hx hb dX1_setNeeds_62 rfl (lv_at hl 5 rfl) ?_
                    refine va_get (D := D) (ci := 1) (v := .ref qe) (C := RX1) (T := TX1) (N := 7) hx hb hts (fun w h => List.mem_cons_of_mem _ (inG1 w h)) hown hK hP 0 rfl rfl 4 (by decide) (hts _ (List.mem_cons_of_mem _ gw_66)) (fun _ h9 => h9) hf4 dX1_setNeeds_63 ?_
                    refine lv_iload_n hx hb dX1_setNeeds_66 rfl (lv_at hl 2 rfl) ?_
                    refine lv_aload_n hx hb dX1_setNeeds_67 rfl (lv_at hl 5 rfl) ?_
                    refine va_get (D := D) (ci := 1) (v := .ref qe) (C := RX1) (T := TX1) (N := 7) hx hb hts (fun w h => List.mem_cons_of_mem _ (inG1 w h)) hown hK hP 0 rfl rfl 4 (by decide) (hts _ (List.mem_cons_of_mem _ gw_66)) (fun _ h9 => h9) hf4 dX1_setNeeds_68 ?_
                    refine lv_iload_n hx hb dX1_setNeeds_71 rfl (lv_at hl 2 rfl) ?_
                    refine va_iald hx hb hK hP 3 2 rfl rfl (vp_in_nI (n := (i1 * 4) + i2) (N := 96) (by omega) (by omega)) dX1_setNeeds_72 ?_
                    refine tF (fun v_32 => ?_)
                    refine lv_aload_n hx hb dX1_setNeeds_73 rfl (lv_at hl 5 rfl) ?_
                    refine va_get (D := D) (ci := 1) (v := .ref ql) (C := RX1) (T := TX1) (N := 7) hx hb hts (fun w h => List.mem_cons_of_mem _ (inG1 w h)) hown hK hP 0 rfl rfl 2 (by decide) (hts _ (List.mem_cons_of_mem _ gw_54)) (fun _ h9 => h9) hf2 dX1_setNeeds_74 ?_
                    refine lv_iload hx hb dX1_setNeeds_77 (lv_at hl 0 rfl) ?_
                    refine va_iald hx hb hK hP 1 0 rfl rfl (vp_in_nI (n := (i1 * 4) + i4) (N := 96) (by omega) (by omega)) dX1_setNeeds_79 ?_
                    refine tF (fun v_33 => ?_)
                    refine lv_aload_n hx hb dX1_setNeeds_80 rfl (lv_at hl 5 rfl) ?_
                    refine va_get (D := D) (ci := 1) (v := .ref qp) (C := RX1) (T := TX1) (N := 7) hx hb hts (fun w h => List.mem_cons_of_mem _ (inG1 w h)) hown hK hP 0 rfl rfl 6 (by decide) (hts _ (List.mem_cons_of_mem _ gw_60)) (fun _ h9 => h9) hf6 dX1_setNeeds_81 ?_
                    refine lv_iload_n hx hb dX1_setNeeds_84 rfl (lv_at hl 3 rfl) ?_
                    refine lv_iconst (v := 4) hx hb dX1_setNeeds_85 (by decide) ?_
                    refine lv_imul hx hb dX1_setNeeds_86 ?_
                    refine tI (y := nI (i2 * 4)) (pk_mul i2 4) ?_
                    refine lv_iload hx hb dX1_setNeeds_87 (lv_at hl 1 rfl) ?_
                    refine lv_iadd hx hb dX1_setNeeds_89 ?_
                    refine tI (y := nI ((i2 * 4) + i4)) (nI_add (i2 * 4) i4) ?_
                    refine va_iald hx hb hK hP 5 4 rfl rfl (vp_in_nI (n := (i2 * 4) + i4) (N := 16) (by omega) (by omega)) dX1_setNeeds_90 ?_
                    refine tF (fun v_34 => ?_)
                    refine lv_isub hx hb dX1_setNeeds_91 ?_
                    refine tF (fun v_35 => ?_)
                    refine va_mmax hx hb (by rw [hml]; exact hl.1.symm) hown (hts _ (List.mem_cons_of_mem _ gw_68)) (hts _ (List.mem_cons_of_mem _ gw_69)) (hts _ (List.mem_cons_of_mem _ gw_58)) (hts _ (List.mem_cons_of_mem _ gw_70)) (Nat.le_of_ble_eq_true rfl) (Nat.le_of_ble_eq_true rfl) (Nat.le_of_ble_eq_true rfl) (Nat.le_of_ble_eq_true rfl) dX1_setNeeds_92 ?_
                    refine tF (fun v_36 => ?_)
                    refine va_iast hx hb hK hP hD hS 3 2 rfl rfl (vp_in_nI (n := (i1 * 4) + i2) (N := 96) (by omega) (by omega)) dX1_setNeeds_95 (fun H locs hP hD hS => ?_)
                    obtain ⟨f_37, hP, hD⟩ : ∃ f : Nat → Int32, va_P D vwCl [(h0, .inr (1, fs)), (ql, .inl (kl, 96, .inl f_23)), (qh, .inl (kh, 96, .inl f_24)), (qe, .inl (ke, 96, .inl f)), (qg, .inl (kg, 96, .inl f_26)), (qp, .inl (kp, 16, .inl f_27))] H ∧ va_D A [(h0, .inr (1, fs)), (ql, .inl (kl, 96, .inl f_23)), (qh, .inl (kh, 96, .inl f_24)), (qe, .inl (ke, 96, .inl f)), (qg, .inl (kg, 96, .inl f_26)), (qp, .inl (kp, 16, .inl f_27))] := ⟨_, hP, hD⟩
                    refine lv_aload_n hx hb dX1_setNeeds_96 rfl (lv_at hl 5 rfl) ?_
                    refine va_get (D := D) (ci := 1) (v := .ref qg) (C := RX1) (T := TX1) (N := 7) hx hb hts (fun w h => List.mem_cons_of_mem _ (inG1 w h)) hown hK hP 0 rfl rfl 5 (by decide) (hts _ (List.mem_cons_of_mem _ gw_67)) (fun _ h9 => h9) hf5 dX1_setNeeds_97 ?_
                    refine lv_iload_n hx hb dX1_setNeeds_100 rfl (lv_at hl 2 rfl) ?_
                    refine lv_aload_n hx hb dX1_setNeeds_101 rfl (lv_at hl 5 rfl) ?_
                    refine va_get (D := D) (ci := 1) (v := .ref qg) (C := RX1) (T := TX1) (N := 7) hx hb hts (fun w h => List.mem_cons_of_mem _ (inG1 w h)) hown hK hP 0 rfl rfl 5 (by decide) (hts _ (List.mem_cons_of_mem _ gw_67)) (fun _ h9 => h9) hf5 dX1_setNeeds_102 ?_
                    refine lv_iload_n hx hb dX1_setNeeds_105 rfl (lv_at hl 2 rfl) ?_
                    refine va_iald hx hb hK hP 4 3 rfl rfl (vp_in_nI (n := (i1 * 4) + i2) (N := 96) (by omega) (by omega)) dX1_setNeeds_106 ?_
                    refine tF (fun v_38 => ?_)
                    refine lv_aload_n hx hb dX1_setNeeds_107 rfl (lv_at hl 5 rfl) ?_
                    refine va_get (D := D) (ci := 1) (v := .ref qh) (C := RX1) (T := TX1) (N := 7) hx hb hts (fun w h => List.mem_cons_of_mem _ (inG1 w h)) hown hK hP 0 rfl rfl 3 (by decide) (hts _ (List.mem_cons_of_mem _ gw_55)) (fun _ h9 => h9) hf3 dX1_setNeeds_108 ?_
                    refine lv_iload hx hb dX1_setNeeds_111 (lv_at hl 0 rfl) ?_
                    refine va_iald hx hb hK hP 2 1 rfl rfl (vp_in_nI (n := (i1 * 4) + i4) (N := 96) (by omega) (by omega)) dX1_setNeeds_113 ?_
                    refine tF (fun v_39 => ?_)
                    refine lv_aload_n hx hb dX1_setNeeds_114 rfl (lv_at hl 5 rfl) ?_
                    refine va_get (D := D) (ci := 1) (v := .ref qp) (C := RX1) (T := TX1) (N := 7) hx hb hts (fun w h => List.mem_cons_of_mem _ (inG1 w h)) hown hK hP 0 rfl rfl 6 (by decide) (hts _ (List.mem_cons_of_mem _ gw_60)) (fun _ h9 => h9) hf6 dX1_setNeeds_115 ?_
                    refine lv_iload hx hb dX1_setNeeds_118 (lv_at hl 1 rfl) ?_
                    refine lv_iconst (v := 4) hx hb dX1_setNeeds_120 (by decide) ?_
                    refine lv_imul hx hb dX1_setNeeds_121 ?_
                    refine tI (y := nI (i4 * 4)) (pk_mul i4 4) ?_
                    refine lv_iload_n hx hb dX1_setNeeds_122 rfl (lv_at hl 3 rfl) ?_
                    refine lv_iadd hx hb dX1_setNeeds_123 ?_
                    refine tI (y := nI ((i4 * 4) + i2)) (nI_add (i4 * 4) i2) ?_
                    refine va_iald hx hb hK hP 5 4 rfl rfl (vp_in_nI (n := (i4 * 4) + i2) (N := 16) (by omega) (by omega)) dX1_setNeeds_124 ?_
                    refine tF (fun v_40 => ?_)
                    refine lv_iadd hx hb dX1_setNeeds_125 ?_
                    refine tF (fun v_41 => ?_)
                    refine va_mmin hx hb (by rw [hml]; exact hl.1.symm) hown (hts _ (List.mem_cons_of_mem _ gw_56)) (hts _ (List.mem_cons_of_mem _ gw_57)) (hts _ (List.mem_cons_of_mem _ gw_58)) (hts _ (List.mem_cons_of_mem _ gw_59)) (Nat.le_of_ble_eq_true rfl) (Nat.le_of_ble_eq_true rfl) (Nat.le_of_ble_eq_true rfl) (Nat.le_of_ble_eq_true rfl) dX1_setNeeds_126 ?_
                    refine tF (fun v_42 => ?_)
                    refine va_iast hx hb hK hP hD hS 4 3 rfl rfl (vp_in_nI (n := (i1 * 4) + i2) (N := 96) (by omega) (by omega)) dX1_setNeeds_129 (fun H locs hP hD hS => ?_)
                    obtain ⟨f_43, hP, hD⟩ : ∃ f : Nat → Int32, va_P D vwCl [(h0, .inr (1, fs)), (ql, .inl (kl, 96, .inl f_23)), (qh, .inl (kh, 96, .inl f_24)), (qe, .inl (ke, 96, .inl f_37)), (qg, .inl (kg, 96, .inl f)), (qp, .inl (kp, 16, .inl f_27))] H ∧ va_D A [(h0, .inr (1, fs)), (ql, .inl (kl, 96, .inl f_23)), (qh, .inl (kh, 96, .inl f_24)), (qe, .inl (ke, 96, .inl f_37)), (qg, .inl (kg, 96, .inl f)), (qp, .inl (kp, 16, .inl f_27))] := ⟨_, hP, hD⟩
                    refine lv_iinc (v := (nI (i4 + 1))) (lv' := [(4, .int (nI (i4 + 1))), (5, .int (nI ((i1 * 4) + i4))), (3, .int (nI ((i1 * 4) + i2))), (2, .int (nI i2)), (1, .int (nI i1)), (0, .ref h0)]) hx hb dX1_setNeeds_130 hl (k := 1) rfl (nI_1 _) (by decide) rfl (fun ls hl => ?_)
                    refine lv_goto (tgt := 48) hx hb dX1_setNeeds_133 (by decide) ?_
                    exact ih48 (i4 + 1) _ _ _ _ _ _ _ _ (by omega) (by omega) (hP.sub [0, 1, 2, 3, 4, 5] rfl) (hD.sub [0, 1, 2, 3, 4, 5] (by decide) rfl) hS (lv_sub hl [0, 2, 3, 4, 5] rfl)
              exact lp48 (4 + 1) 0 _ _ _ _ _ _ _ _ (by omega) (by omega) hP hD hS (lv_sub hl [0, 1, 2, 3, 4] rfl)
        exact lp10 (4 + 1) 0 _ _ _ _ _ _ _ _ (by omega) (by omega) hP hD hS (lv_sub hl [0, 1, 2] rfl)
  exact lp2 (24 + 1) 0 _ _ _ _ _ _ _ _ (by omega) (by omega) hP hD hS (lv_sub hl [0, 1] rfl)
set_option maxHeartbeats 4000000 in
set_option maxRecDepth 100000 in
theorem c_X1_settle (l : Launch) (D : va_G) (sz : Nat) (h0 : Nat) (fs : List Value) (ql : Nat) (qh : Nat) (qe : Nat) (qg : Nat) (qp : Nat) (kl : ClassId) (kh : ClassId) (ke : ClassId) (kg : ClassId) (kp : ClassId) (fl : Nat → Int32) (fh : Nat → Int32) (fe : Nat → Int32) (fg : Nat → Int32) (fp : Nat → Int32) (hf0 : fs[0]? = some (.int 0)) (hf2 : fs[2]? = some (.ref ql)) (hf3 : fs[3]? = some (.ref qh)) (hf4 : fs[4]? = some (.ref qe)) (hf5 : fs[5]? = some (.ref qg)) (hf6 : fs[6]? = some (.ref qp)) : Met l yX1_settle (.code yX1_settle cX1_settle 2 (some .boolean) :: G) ({ frames := 6, cells := 0, slots := 0, locals := 120 }) (va_Pc [.ref h0] (pw D sz [(h0, .inr (1, fs)), (ql, .inl (kl, 96, .inl fl)), (qh, .inl (kh, 96, .inl fh)), (qe, .inl (ke, 96, .inl fe)), (qg, .inl (kg, 96, .inl fg)), (qp, .inl (kp, 16, .inl fp))] [(kl, .int), (kh, .int), (ke, .int), (kg, .int), (kp, .int)])) (va_Qi (fun (r : Int32) (u : (Nat → Int32) × (Nat → Int32) × (Nat → Int32) × (Nat → Int32) × (Nat → Int32)) => True) (fun (u : (Nat → Int32) × (Nat → Int32) × (Nat → Int32) × (Nat → Int32) × (Nat → Int32)) => qw D (va_A [(h0, .inr (1, fs)), (ql, .inl (kl, 96, .inl fl)), (qh, .inl (kh, 96, .inl fh)), (qe, .inl (ke, 96, .inl fe)), (qg, .inl (kg, 96, .inl fg)), (qp, .inl (kp, 16, .inl fp))] sz) [(h0, .inr (1, fs)), (ql, .inl (kl, 96, .inl u.1)), (qh, .inl (kh, 96, .inl u.2.1)), (qe, .inl (ke, 96, .inl u.2.2.1)), (qg, .inl (kg, 96, .inl u.2.2.2.1)), (qp, .inl (kp, 16, .inl u.2.2.2.2))] []) (va_A [(h0, .inr (1, fs)), (ql, .inl (kl, 96, .inl fl)), (qh, .inl (kh, 96, .inl fh)), (qe, .inl (ke, 96, .inl fe)), (qg, .inl (kg, 96, .inl fg)), (qp, .inl (kp, 16, .inl fp))] sz)) 0 0 (va_A [(h0, .inr (1, fs)), (ql, .inl (kl, 96, .inl fl)), (qh, .inl (kh, 96, .inl fh)), (qe, .inl (ke, 96, .inl fe)), (qg, .inl (kg, 96, .inl fg)), (qp, .inl (kp, 16, .inl fp))] sz) := by
  refine Met.ofW (cc := cX1_settle) (maxL := 2) (ret := (some .boolean)) (by decide) rfl ?_
  intro p e s m args below meth c s₁ B hml hv
  obtain ⟨rfl, hsz, hP, hK, hD0, hN⟩ := hv
  have hx := B.exec
  have hb := B.bytes
  have hr := B.returns
  have hts := atoms_spec (ws := (.code yX1_settle cX1_settle 2 (some .boolean) :: G)) B.pre
  have hown : s.vm.findClass RX1 = some m.cls := findClass_of_methodNamed B.named
  have hlocks := B.notSynchronized
  subst hsz
  have hD := hD0.self (sz := s.heap.size)
  generalize hAe : va_A [(h0, .inr (1, fs)), (ql, .inl (kl, 96, .inl fl)), (qh, .inl (kh, 96, .inl fh)), (qe, .inl (ke, 96, .inl fe)), (qg, .inl (kg, 96, .inl fg)), (qp, .inl (kp, 16, .inl fp))] s.heap.size = A at hD ⊢
  have hA : ∀ q : Nat, s.heap.size ≤ q → A q := fun q h => by rw [← hAe]; exact Or.inr h
  have hS : va_S A s.heap s.heap [] := va_S.rf
  have hP : va_P D vwCl [(h0, .inr (1, fs)), (ql, .inl (kl, 96, .inl fl)), (qh, .inl (kh, 96, .inl fh)), (qe, .inl (ke, 96, .inl fe)), (qg, .inl (kg, 96, .inl fg)), (qp, .inl (kp, 16, .inl fp))] s.heap := hP
  have hl := lv_entry ([.ref h0]) (n := 2) (Nat.le_of_ble_eq_true rfl)
  rw [lg_entry_eq]
  generalize (lg_sl ([.ref h0]) ++ List.replicate (2 - (lg_sl ([.ref h0])).length) Slot.unset).toArray = ls at hl ⊢
  have hl : lv_has ls 2 [(0, .ref h0)] := hl
  refine lv_aload_n hx hb dX1_settle_0 rfl (lv_at hl 0 rfl) ?_
  refine fr_v (wr := [(qe, .inl (ke, 96, .inl fe)), (qg, .inl (kg, 96, .inl fg)), (qp, .inl (kp, 16, .inl fp))]) (va_runV (As := []) (rest := []) ⟨hx, hb, hml, hown, hts⟩ (c_X1_setFirstBounds l D s.heap.size h0 fs ql qh kl kh fl fh hf2 hf3) (cwV 0 hts (gV (fun w h => List.mem_cons_of_mem _ h) gw_72 gw_73 gw_74 gw_65 gw_71) rfl rfl rfl (by decide +kernel) ⟨Nat.le_of_ble_eq_true rfl, Nat.le_of_ble_eq_true rfl⟩) (pw_V [0, 1, 2] [0, 1] hP hD hK hN rfl rfl (by decide) rfl (ci := 1) (q0 := 0) rfl rfl) rfl rfl hl.1 rfl (lv_room (Nat.le_of_ble_eq_true rfl)) dX1_settle_1 ⟨Nat.le_of_ble_eq_true rfl, Nat.le_of_ble_eq_true rfl⟩) hP hD hK hS hA [0, 1, 2] [3, 4, 5] rfl rfl (by decide) (by decide) (fun u_1 H locs hw_3 hP hD hK hS => ?_)
  obtain ⟨ufl_4, ufh_5⟩ := u_1
  try dsimp only at hw_3
  have hP : va_P D vwCl [(qe, .inl (ke, 96, .inl fe)), (qg, .inl (kg, 96, .inl fg)), (qp, .inl (kp, 16, .inl fp)), (h0, .inr (1, fs)), (ql, .inl (kl, 96, .inl ufl_4)), (qh, .inl (kh, 96, .inl ufh_5))] H := hP
  have hD : va_D A [(qe, .inl (ke, 96, .inl fe)), (qg, .inl (kg, 96, .inl fg)), (qp, .inl (kp, 16, .inl fp)), (h0, .inr (1, fs)), (ql, .inl (kl, 96, .inl ufl_4)), (qh, .inl (kh, 96, .inl ufh_5))] := hD
  have hK : va_K D vwCl [(kl, .int), (kh, .int), (ke, .int), (kg, .int), (kp, .int)] s := hK
  refine W.widen (k := 0) (n := 0) (Nat.le_of_ble_eq_true rfl) (Nat.le_of_ble_eq_true rfl) ?_
  refine lv_iconst (v := 0) hx hb dX1_settle_4 (by decide) ?_
  refine lv_istore_n (lv' := [(1, .int 0), (0, .ref h0)]) hx hb dX1_settle_5 rfl hl (by decide) rfl (fun ls hl => ?_)
  refine lv_iload_n hx hb dX1_settle_6 rfl (lv_at hl 0 rfl) ?_
  refine lv_aload_n hx hb dX1_settle_7 rfl (lv_at hl 1 rfl) ?_
  refine va_get (D := D) (ci := 1) (v := .int 0) (C := RX1) (T := TX1) (N := 7) hx hb hts (fun w h => List.mem_cons_of_mem _ (inG1 w h)) hown hK hP 3 rfl rfl 0 (by decide) (hts _ (List.mem_cons_of_mem _ gw_6)) (fun _ h9 => h9) hf0 dX1_settle_8 ?_
  refine lv_icmp_ge (tgt := 42) hx hb dX1_settle_11 (by decide) (fun c_6 => ?_) (fun c_6 => absurd (by decide) c_6)
  refine lv_aload_n hx hb dX1_settle_42 rfl (lv_at hl 1 rfl) ?_
  refine fr_v (wr := [(qe, .inl (ke, 96, .inl fe)), (qg, .inl (kg, 96, .inl fg))]) (va_runV (As := []) (rest := []) ⟨hx, hb, hml, hown, hts⟩ (c_X1_closeGaps l D H.size h0 fs ql qh qp kl kh kp ufl_4 ufh_5 fp hf2 hf3 hf6) (cwV 0 hts (gV (fun w h => List.mem_cons_of_mem _ h) gw_76 gw_77 gw_78 gw_65 gw_75) rfl rfl rfl (by decide +kernel) ⟨Nat.le_of_ble_eq_true rfl, Nat.le_of_ble_eq_true rfl⟩) (pw_V [3, 4, 5, 2] [0, 1, 4] hP hD hK hN rfl rfl (by decide) rfl (ci := 1) (q0 := 3) rfl rfl) rfl rfl hl.1 rfl (lv_room (Nat.le_of_ble_eq_true rfl)) dX1_settle_43 ⟨Nat.le_of_ble_eq_true rfl, Nat.le_of_ble_eq_true rfl⟩) hP hD hK hS hA [3, 4, 5, 2] [0, 1] rfl rfl (by decide) (by decide) (fun u_7 H locs hw_9 hP hD hK hS => ?_)
  obtain ⟨ufl_10, ufh_11, ufp_12⟩ := u_7
  try dsimp only at hw_9
  have hP : va_P D vwCl [(qe, .inl (ke, 96, .inl fe)), (qg, .inl (kg, 96, .inl fg)), (h0, .inr (1, fs)), (ql, .inl (kl, 96, .inl ufl_10)), (qh, .inl (kh, 96, .inl ufh_11)), (qp, .inl (kp, 16, .inl ufp_12))] H := hP
  have hD : va_D A [(qe, .inl (ke, 96, .inl fe)), (qg, .inl (kg, 96, .inl fg)), (h0, .inr (1, fs)), (ql, .inl (kl, 96, .inl ufl_10)), (qh, .inl (kh, 96, .inl ufh_11)), (qp, .inl (kp, 16, .inl ufp_12))] := hD
  have hK : va_K D vwCl [(kl, .int), (kh, .int), (ke, .int), (kg, .int), (kp, .int)] s := hK
  refine W.widen (k := 0) (n := 0) (Nat.le_of_ble_eq_true rfl) (Nat.le_of_ble_eq_true rfl) ?_
  refine lv_iconst (v := 0) hx hb dX1_settle_46 (by decide) ?_
  refine lv_istore_n (lv' := [(1, .int 0), (0, .ref h0)]) hx hb dX1_settle_47 rfl hl (by decide) rfl (fun ls hl => ?_)
  have lp48 : ∀ (n i1 : Nat) (f_13 : Nat → Int32) (f_14 : Nat → Int32) (f_15 : Nat → Int32) (f_16 : Nat → Int32) (f_17 : Nat → Int32) (H : Heap) (locs : List Loc) (ls : Array Slot), i1 ≤ 4 → 4 < i1 + n → va_P D vwCl [(qe, .inl (ke, 96, .inl f_13)), (qg, .inl (kg, 96, .inl f_14)), (h0, .inr (1, fs)), (ql, .inl (kl, 96, .inl f_15)), (qh, .inl (kh, 96, .inl f_16)), (qp, .inl (kp, 16, .inl f_17))] H → va_D A [(qe, .inl (ke, 96, .inl f_13)), (qg, .inl (kg, 96, .inl f_14)), (h0, .inr (1, fs)), (ql, .inl (kl, 96, .inl f_15)), (qh, .inl (kh, 96, .inl f_16)), (qp, .inl (kp, 16, .inl f_17))] → va_S A s.heap H locs → lv_has ls 2 [(1, .int (nI i1)), (0, .ref h0)] → W p l e ({ frames := 6, cells := 0, slots := 0, locals := 120 } : Room) s m (([.ref h0] : List Value).toArray) below meth c H locs 0 0 (MQ below (va_Qi (fun (r : Int32) (u : (Nat → Int32) × (Nat → Int32) × (Nat → Int32) × (Nat → Int32) × (Nat → Int32)) => True) (fun (u : (Nat → Int32) × (Nat → Int32) × (Nat → Int32) × (Nat → Int32) × (Nat → Int32)) => qw D A [(h0, .inr (1, fs)), (ql, .inl (kl, 96, .inl u.1)), (qh, .inl (kh, 96, .inl u.2.1)), (qe, .inl (ke, 96, .inl u.2.2.1)), (qg, .inl (kg, 96, .inl u.2.2.2.1)), (qp, .inl (kp, 16, .inl u.2.2.2.2))] []) A) (([.ref h0] : List Value).toArray) s 0 0 A) (F0 m 48 ls []) := by
    intro n
    induction n with
    | zero => intro i1 f_13 f_14 f_15 f_16 f_17 H locs ls hi hn; exact absurd hn (by omega)
    | succ n ih48 =>
      intro i1 f_13 f_14 f_15 f_16 f_17 H locs ls hi_18 hn_19 hP hD hS hl
      refine lv_iload_n hx hb dX1_settle_48 rfl (lv_at hl 0 rfl) ?_
      refine lv_iconst (v := 4) hx hb dX1_settle_49 (by decide) ?_
      refine lv_icmp_ge (tgt := 74) hx hb dX1_settle_50 (by decide) (fun c_21 => ?_) (fun c_21 => ?_)
      · skip
        have hc_21 := ge_of (i := i1) 4 c_21 rfl (by omega) (by omega)
        refine lv_aload_n hx hb dX1_settle_74 rfl (lv_at hl 1 rfl) ?_
        refine fr_v (wr := []) (va_runV (As := []) (rest := []) ⟨hx, hb, hml, hown, hts⟩ (c_X1_setNeeds l D H.size h0 fs ql qh qe qg qp kl kh ke kg kp f_15 f_16 f_13 f_14 f_17 hf2 hf3 hf4 hf5 hf6) (cwV 0 hts (gV (fun w h => List.mem_cons_of_mem _ h) gw_80 gw_81 gw_82 gw_65 gw_79) rfl rfl rfl (by decide +kernel) ⟨Nat.le_of_ble_eq_true rfl, Nat.le_of_ble_eq_true rfl⟩) (pw_V [2, 3, 4, 0, 1, 5] [0, 1, 2, 3, 4] hP hD hK hN rfl rfl (by decide) rfl (ci := 1) (q0 := 2) rfl rfl) rfl rfl hl.1 rfl (lv_room (Nat.le_of_ble_eq_true rfl)) dX1_settle_75 ⟨Nat.le_of_ble_eq_true rfl, Nat.le_of_ble_eq_true rfl⟩) hP hD hK hS hA [2, 3, 4, 0, 1, 5] [] rfl rfl (by decide) (by decide) (fun u_22 H locs hw_24 hP hD hK hS => ?_)
        obtain ⟨ufl_25, ufh_26, ufe_27, ufg_28, ufp_29⟩ := u_22
        try dsimp only at hw_24
        have hP : va_P D vwCl [(h0, .inr (1, fs)), (ql, .inl (kl, 96, .inl ufl_25)), (qh, .inl (kh, 96, .inl ufh_26)), (qe, .inl (ke, 96, .inl ufe_27)), (qg, .inl (kg, 96, .inl ufg_28)), (qp, .inl (kp, 16, .inl ufp_29))] H := hP
        have hD : va_D A [(h0, .inr (1, fs)), (ql, .inl (kl, 96, .inl ufl_25)), (qh, .inl (kh, 96, .inl ufh_26)), (qe, .inl (ke, 96, .inl ufe_27)), (qg, .inl (kg, 96, .inl ufg_28)), (qp, .inl (kp, 16, .inl ufp_29))] := hD
        have hK : va_K D vwCl [(kl, .int), (kh, .int), (ke, .int), (kg, .int), (kp, .int)] s := hK
        refine W.widen (k := 0) (n := 0) (Nat.le_of_ble_eq_true rfl) (Nat.le_of_ble_eq_true rfl) ?_
        refine lv_iconst (v := 1) hx hb dX1_settle_78 (by decide) ?_
        have hP9 := hP.sub (ws' := [(h0, .inr (1, fs)), (ql, .inl (kl, 96, .inl ufl_25)), (qh, .inl (kh, 96, .inl ufh_26)), (qe, .inl (ke, 96, .inl ufe_27)), (qg, .inl (kg, 96, .inl ufg_28)), (qp, .inl (kp, 16, .inl ufp_29))]) [0, 1, 2, 3, 4, 5] rfl
        have hD9 := hD.sub (ws' := [(h0, .inr (1, fs)), (ql, .inl (kl, 96, .inl ufl_25)), (qh, .inl (kh, 96, .inl ufh_26)), (qe, .inl (ke, 96, .inl ufe_27)), (qg, .inl (kg, 96, .inl ufg_28)), (qp, .inl (kp, 16, .inl ufp_29))]) [0, 1, 2, 3, 4, 5] (by decide) rfl
        have hK9 := hK.sub (tys' := []) [] rfl
        refine W.widen (k := 0) (n := 0) (Nat.le_of_ble_eq_true rfl) (Nat.le_of_ble_eq_true rfl) ?_
        exact W.zret (v := 1) hx hb hr rfl (fun t ht hW => ⟨⟨1, (ufl_25, ufh_26, ufe_27, ufg_28, ufp_29), rfl, (by first | trivial | rfl), by rw [ht]; exact hP9, va_K.moved hW.alike hK9, hD9⟩, hS.F ht⟩) hS.2.2 dX1_settle_79
      · skip
        have hc_21 := lt_of (i := i1) 4 c_21 rfl (by omega)
        refine lv_aload_n hx hb dX1_settle_53 rfl (lv_at hl 1 rfl) ?_
        refine va_get (D := D) (ci := 1) (v := .ref qp) (C := RX1) (T := TX1) (N := 7) hx hb hts (fun w h => List.mem_cons_of_mem _ (inG1 w h)) hown hK hP 2 rfl rfl 6 (by decide) (hts _ (List.mem_cons_of_mem _ gw_60)) (fun _ h9 => h9) hf6 dX1_settle_54 ?_
        refine lv_iload_n hx hb dX1_settle_57 rfl (lv_at hl 0 rfl) ?_
        refine lv_iconst (v := 4) hx hb dX1_settle_58 (by decide) ?_
        refine lv_imul hx hb dX1_settle_59 ?_
        refine tI (y := nI (i1 * 4)) (pk_mul i1 4) ?_
        refine lv_iload_n hx hb dX1_settle_60 rfl (lv_at hl 0 rfl) ?_
        refine lv_iadd hx hb dX1_settle_61 ?_
        refine tI (y := nI ((i1 * 4) + i1)) (nI_add (i1 * 4) i1) ?_
        refine va_iald hx hb hK hP 5 4 rfl rfl (vp_in_nI (n := (i1 * 4) + i1) (N := 16) (by omega) (by omega)) dX1_settle_62 ?_
        refine tF (fun v_30 => ?_)
        refine lv_if_ge (tgt := 68) hx hb dX1_settle_63 (by decide) (fun c_31 => ?_) (fun c_31 => ?_)
        · skip
          refine lv_iinc (v := (nI (i1 + 1))) (lv' := [(1, .int (nI (i1 + 1))), (0, .ref h0)]) hx hb dX1_settle_68 hl (k := 0) rfl (nI_1 _) (by decide) rfl (fun ls hl => ?_)
          refine lv_goto (tgt := 48) hx hb dX1_settle_71 (by decide) ?_
          exact ih48 (i1 + 1) _ _ _ _ _ _ _ _ (by omega) (by omega) (hP.sub [0, 1, 2, 3, 4, 5] rfl) (hD.sub [0, 1, 2, 3, 4, 5] (by decide) rfl) hS (lv_sub hl [0, 1] rfl)
        · skip
          refine lv_iconst (v := 0) hx hb dX1_settle_66 (by decide) ?_
          have hP9 := hP.sub (ws' := [(h0, .inr (1, fs)), (ql, .inl (kl, 96, .inl f_15)), (qh, .inl (kh, 96, .inl f_16)), (qe, .inl (ke, 96, .inl f_13)), (qg, .inl (kg, 96, .inl f_14)), (qp, .inl (kp, 16, .inl f_17))]) [2, 3, 4, 0, 1, 5] rfl
          have hD9 := hD.sub (ws' := [(h0, .inr (1, fs)), (ql, .inl (kl, 96, .inl f_15)), (qh, .inl (kh, 96, .inl f_16)), (qe, .inl (ke, 96, .inl f_13)), (qg, .inl (kg, 96, .inl f_14)), (qp, .inl (kp, 16, .inl f_17))]) [2, 3, 4, 0, 1, 5] (by decide) rfl
          have hK9 := hK.sub (tys' := []) [] rfl
          refine W.widen (k := 0) (n := 0) (Nat.le_of_ble_eq_true rfl) (Nat.le_of_ble_eq_true rfl) ?_
          exact W.zret (v := 0) hx hb hr rfl (fun t ht hW => ⟨⟨0, (f_15, f_16, f_13, f_14, f_17), rfl, (by first | trivial | rfl), by rw [ht]; exact hP9, va_K.moved hW.alike hK9, hD9⟩, hS.F ht⟩) hS.2.2 dX1_settle_67
  exact lp48 (4 + 1) 0 _ _ _ _ _ _ _ _ (by omega) (by omega) hP hD hS (lv_sub hl [0, 1] rfl)
set_option maxHeartbeats 4000000 in
set_option maxRecDepth 100000 in
theorem c_X1_init (l : Launch) (D : va_G) (sz : Nat) (h0 : Nat) : Met l yX1_init (.code yX1_init cX1_init 1 none :: G) ({ frames := 8, cells := 6, slots := 500, locals := 147 }) (va_Pc [.ref h0] (pw D sz [(h0, .inr (1, [.int 0, .null, .null, .null, .null, .null, .null]))] [])) (va_Qv (fun (u : (Nat) × (Nat) × (Nat) × (Nat) × (Nat) × (Nat)) => True) (fun (u : (Nat) × (Nat) × (Nat) × (Nat) × (Nat) × (Nat)) => qw D (va_A [(h0, .inr (1, [.int 0, .null, .null, .null, .null, .null, .null]))] sz) [(h0, .inr (1, [.int 0, .ref u.1, .ref u.2.1, .ref u.2.2.1, .ref u.2.2.2.1, .ref u.2.2.2.2.1, .ref u.2.2.2.2.2]))] []) (va_A [(h0, .inr (1, [.int 0, .null, .null, .null, .null, .null, .null]))] sz)) 6 500 (va_A [(h0, .inr (1, [.int 0, .null, .null, .null, .null, .null, .null]))] sz) := by
  refine Met.ofW (cc := cX1_init) (maxL := 1) (ret := none) (by decide) rfl ?_
  intro p e s m args below meth c s₁ B hml hv
  obtain ⟨rfl, hsz, hP, hK, hD0, hN⟩ := hv
  have hx := B.exec
  have hb := B.bytes
  have hr := B.returns
  have hts := atoms_spec (ws := (.code yX1_init cX1_init 1 none :: G)) B.pre
  have hown : s.vm.findClass RX1 = some m.cls := findClass_of_methodNamed B.named
  have hlocks := B.notSynchronized
  have hin : meth.name = "<init>" := (name_of_methodNamed B.named B.method).1
  subst hsz
  have hD := hD0.self (sz := s.heap.size)
  generalize hAe : va_A [(h0, .inr (1, [.int 0, .null, .null, .null, .null, .null, .null]))] s.heap.size = A at hD ⊢
  have hA : ∀ q : Nat, s.heap.size ≤ q → A q := fun q h => by rw [← hAe]; exact Or.inr h
  have hS : va_S A s.heap s.heap [] := va_S.rf
  have hP : va_P D vwCl [(h0, .inr (1, [.int 0, .null, .null, .null, .null, .null, .null]))] s.heap := hP
  have hl := lv_entry ([.ref h0]) (n := 1) (Nat.le_of_ble_eq_true rfl)
  rw [lg_entry_eq]
  generalize (lg_sl ([.ref h0]) ++ List.replicate (1 - (lg_sl ([.ref h0])).length) Slot.unset).toArray = ls at hl ⊢
  have hl : lv_has ls 1 [(0, .ref h0)] := hl
  refine lv_aload_n hx hb dX1_init_0 rfl (lv_at hl 0 rfl) ?_
  refine W.objInit hx hb hown (hts _ (List.mem_cons_of_mem _ gw_83)) (hts _ (List.mem_cons_of_mem _ gw_12)) (hts _ (List.mem_cons_of_mem _ gw_13)) rfl (by rw [hml]; exact hl.1) rfl dX1_init_1 (Nat.le_of_ble_eq_true rfl) (Nat.le_of_ble_eq_true rfl) ?_
  refine W.eq (g2 := F0 m 4 ls []) rfl ?_
  refine lv_aload_n hx hb dX1_init_4 rfl (lv_at hl 0 rfl) ?_
  refine lv_iconst (v := 0) hx hb dX1_init_5 (by decide) ?_
  refine va_put (D := D) (ci := 1) (v := .int 0) (ty := .int) (C := RX1) (T := TX1) (N := 7) hx hb hts (fun w h => List.mem_cons_of_mem _ (inG1 w h)) tyX1 tyX1_ok nmX1 hown hK hP hD hS 0 rfl rfl 0 (by decide) (hts _ (List.mem_cons_of_mem _ gw_6)) (fun _ h9 => h9) rfl (by decide +kernel) rfl rfl (Nat.le_of_ble_eq_true rfl) dX1_init_6 (fun H locs hP hD hS => ?_)
  have hP : va_P D vwCl [(h0, .inr (1, [.int 0, .null, .null, .null, .null, .null, .null]))] H := hP
  have hD : va_D A [(h0, .inr (1, [.int 0, .null, .null, .null, .null, .null, .null]))] := hD
  refine lv_aload_n hx hb dX1_init_9 rfl (lv_at hl 0 rfl) ?_
  refine lv_bipush (v := 100) hx hb dX1_init_10 (by decide) ?_
  refine va_newq (C := RX7) (N' := 100) hx hb hown (hts _ (List.mem_cons_of_mem _ gw_84)) hN.2.2.2.2.2.2 hK hP hD hS hA (by decide) (by decide +kernel) (by decide) (Nat.le_of_ble_eq_true rfl) (Nat.le_of_ble_eq_true rfl) dX1_init_12 (fun q_1 cA_2 H hK hP hD hS => ?_)
  have hP : va_P D vwCl [(h0, .inr (1, [.int 0, .null, .null, .null, .null, .null, .null])), (q_1, .inl (cA_2, 100, .inr (.inr (.inr (.inr (fun _ => none))))))] H := hP
  have hD : va_D A [(h0, .inr (1, [.int 0, .null, .null, .null, .null, .null, .null])), (q_1, .inl (cA_2, 100, .inr (.inr (.inr (.inr (fun _ => none))))))] := hD
  have hK : va_K D vwCl [(cA_2, .object RX7)] s := hK
  refine W.widen (k := 1) (n := 100) (Nat.le_of_ble_eq_true rfl) (Nat.le_of_ble_eq_true rfl) ?_
  refine va_putF (D := D) (ci := 1) (v := .ref q_1) (ty := .array (.object "OddShoes$Trial")) (C := RX1) (T := TX1) (N := 7) hx hb hts (fun w h => List.mem_cons_of_mem _ (inG1 w h)) tyX1 tyX1_ok nmX1 hown hK hP hD hS 0 rfl rfl 1 (by decide) (hts _ (List.mem_cons_of_mem _ gw_85)) (fun _ h9 => h9) rfl hin rfl (by decide +kernel) rfl rfl (Nat.le_of_ble_eq_true rfl) dX1_init_15 (fun H locs hP hD hS => ?_)
  have hP : va_P D vwCl [(h0, .inr (1, [.int 0, .ref q_1, .null, .null, .null, .null, .null])), (q_1, .inl (cA_2, 100, .inr (.inr (.inr (.inr (fun _ => none))))))] H := hP
  have hD : va_D A [(h0, .inr (1, [.int 0, .ref q_1, .null, .null, .null, .null, .null])), (q_1, .inl (cA_2, 100, .inr (.inr (.inr (.inr (fun _ => none))))))] := hD
  refine lv_aload_n hx hb dX1_init_18 rfl (lv_at hl 0 rfl) ?_
  refine lv_bipush (v := 96) hx hb dX1_init_19 (by decide) ?_
  refine va_newa (atype := .int) (ty := .int) (N' := 96) (a0 := (96, .inl (fun _ => 0))) hx hb (hts _ (List.mem_cons_of_mem _ gw_14)) rfl hK hP hD hS hA (fun _ => rfl) (by decide) (by decide +kernel) (by decide) (Nat.le_of_ble_eq_true rfl) (Nat.le_of_ble_eq_true rfl) dX1_init_21 (fun q_3 cA_4 H hK hP hD hS => ?_)
  have hP : va_P D vwCl [(h0, .inr (1, [.int 0, .ref q_1, .null, .null, .null, .null, .null])), (q_1, .inl (cA_2, 100, .inr (.inr (.inr (.inr (fun _ => none)))))), (q_3, .inl (cA_4, 96, .inl (fun _ => 0)))] H := hP
  have hD : va_D A [(h0, .inr (1, [.int 0, .ref q_1, .null, .null, .null, .null, .null])), (q_1, .inl (cA_2, 100, .inr (.inr (.inr (.inr (fun _ => none)))))), (q_3, .inl (cA_4, 96, .inl (fun _ => 0)))] := hD
  have hK : va_K D vwCl [(cA_2, .object RX7), (cA_4, .int)] s := hK
  refine W.widen (k := 2) (n := 196) (Nat.le_of_ble_eq_true rfl) (Nat.le_of_ble_eq_true rfl) ?_
  refine va_putF (D := D) (ci := 1) (v := .ref q_3) (ty := .array .int) (C := RX1) (T := TX1) (N := 7) hx hb hts (fun w h => List.mem_cons_of_mem _ (inG1 w h)) tyX1 tyX1_ok nmX1 hown hK hP hD hS 0 rfl rfl 2 (by decide) (hts _ (List.mem_cons_of_mem _ gw_54)) (fun _ h9 => h9) rfl hin rfl (by decide +kernel) rfl rfl (Nat.le_of_ble_eq_true rfl) dX1_init_23 (fun H locs hP hD hS => ?_)
  have hP : va_P D vwCl [(h0, .inr (1, [.int 0, .ref q_1, .ref q_3, .null, .null, .null, .null])), (q_1, .inl (cA_2, 100, .inr (.inr (.inr (.inr (fun _ => none)))))), (q_3, .inl (cA_4, 96, .inl (fun _ => 0)))] H := hP
  have hD : va_D A [(h0, .inr (1, [.int 0, .ref q_1, .ref q_3, .null, .null, .null, .null])), (q_1, .inl (cA_2, 100, .inr (.inr (.inr (.inr (fun _ => none)))))), (q_3, .inl (cA_4, 96, .inl (fun _ => 0)))] := hD
  refine lv_aload_n hx hb dX1_init_26 rfl (lv_at hl 0 rfl) ?_
  refine lv_bipush (v := 96) hx hb dX1_init_27 (by decide) ?_
  refine va_newa (atype := .int) (ty := .int) (N' := 96) (a0 := (96, .inl (fun _ => 0))) hx hb (hts _ (List.mem_cons_of_mem _ gw_14)) rfl hK hP hD hS hA (fun _ => rfl) (by decide) (by decide +kernel) (by decide) (Nat.le_of_ble_eq_true rfl) (Nat.le_of_ble_eq_true rfl) dX1_init_29 (fun q_5 cA_6 H hK hP hD hS => ?_)
  have hP : va_P D vwCl [(h0, .inr (1, [.int 0, .ref q_1, .ref q_3, .null, .null, .null, .null])), (q_1, .inl (cA_2, 100, .inr (.inr (.inr (.inr (fun _ => none)))))), (q_3, .inl (cA_4, 96, .inl (fun _ => 0))), (q_5, .inl (cA_6, 96, .inl (fun _ => 0)))] H := hP
  have hD : va_D A [(h0, .inr (1, [.int 0, .ref q_1, .ref q_3, .null, .null, .null, .null])), (q_1, .inl (cA_2, 100, .inr (.inr (.inr (.inr (fun _ => none)))))), (q_3, .inl (cA_4, 96, .inl (fun _ => 0))), (q_5, .inl (cA_6, 96, .inl (fun _ => 0)))] := hD
  have hK : va_K D vwCl [(cA_2, .object RX7), (cA_4, .int), (cA_6, .int)] s := hK
  refine W.widen (k := 3) (n := 292) (Nat.le_of_ble_eq_true rfl) (Nat.le_of_ble_eq_true rfl) ?_
  refine va_putF (D := D) (ci := 1) (v := .ref q_5) (ty := .array .int) (C := RX1) (T := TX1) (N := 7) hx hb hts (fun w h => List.mem_cons_of_mem _ (inG1 w h)) tyX1 tyX1_ok nmX1 hown hK hP hD hS 0 rfl rfl 3 (by decide) (hts _ (List.mem_cons_of_mem _ gw_55)) (fun _ h9 => h9) rfl hin rfl (by decide +kernel) rfl rfl (Nat.le_of_ble_eq_true rfl) dX1_init_31 (fun H locs hP hD hS => ?_)
  have hP : va_P D vwCl [(h0, .inr (1, [.int 0, .ref q_1, .ref q_3, .ref q_5, .null, .null, .null])), (q_1, .inl (cA_2, 100, .inr (.inr (.inr (.inr (fun _ => none)))))), (q_3, .inl (cA_4, 96, .inl (fun _ => 0))), (q_5, .inl (cA_6, 96, .inl (fun _ => 0)))] H := hP
  have hD : va_D A [(h0, .inr (1, [.int 0, .ref q_1, .ref q_3, .ref q_5, .null, .null, .null])), (q_1, .inl (cA_2, 100, .inr (.inr (.inr (.inr (fun _ => none)))))), (q_3, .inl (cA_4, 96, .inl (fun _ => 0))), (q_5, .inl (cA_6, 96, .inl (fun _ => 0)))] := hD
  refine lv_aload_n hx hb dX1_init_34 rfl (lv_at hl 0 rfl) ?_
  refine lv_bipush (v := 96) hx hb dX1_init_35 (by decide) ?_
  refine va_newa (atype := .int) (ty := .int) (N' := 96) (a0 := (96, .inl (fun _ => 0))) hx hb (hts _ (List.mem_cons_of_mem _ gw_14)) rfl hK hP hD hS hA (fun _ => rfl) (by decide) (by decide +kernel) (by decide) (Nat.le_of_ble_eq_true rfl) (Nat.le_of_ble_eq_true rfl) dX1_init_37 (fun q_7 cA_8 H hK hP hD hS => ?_)
  have hP : va_P D vwCl [(h0, .inr (1, [.int 0, .ref q_1, .ref q_3, .ref q_5, .null, .null, .null])), (q_1, .inl (cA_2, 100, .inr (.inr (.inr (.inr (fun _ => none)))))), (q_3, .inl (cA_4, 96, .inl (fun _ => 0))), (q_5, .inl (cA_6, 96, .inl (fun _ => 0))), (q_7, .inl (cA_8, 96, .inl (fun _ => 0)))] H := hP
  have hD : va_D A [(h0, .inr (1, [.int 0, .ref q_1, .ref q_3, .ref q_5, .null, .null, .null])), (q_1, .inl (cA_2, 100, .inr (.inr (.inr (.inr (fun _ => none)))))), (q_3, .inl (cA_4, 96, .inl (fun _ => 0))), (q_5, .inl (cA_6, 96, .inl (fun _ => 0))), (q_7, .inl (cA_8, 96, .inl (fun _ => 0)))] := hD
  have hK : va_K D vwCl [(cA_2, .object RX7), (cA_4, .int), (cA_6, .int), (cA_8, .int)] s := hK
  refine W.widen (k := 4) (n := 388) (Nat.le_of_ble_eq_true rfl) (Nat.le_of_ble_eq_true rfl) ?_
  refine va_putF (D := D) (ci := 1) (v := .ref q_7) (ty := .array .int) (C := RX1) (T := TX1) (N := 7) hx hb hts (fun w h => List.mem_cons_of_mem _ (inG1 w h)) tyX1 tyX1_ok nmX1 hown hK hP hD hS 0 rfl rfl 4 (by decide) (hts _ (List.mem_cons_of_mem _ gw_66)) (fun _ h9 => h9) rfl hin rfl (by decide +kernel) rfl rfl (Nat.le_of_ble_eq_true rfl) dX1_init_39 (fun H locs hP hD hS => ?_)
  have hP : va_P D vwCl [(h0, .inr (1, [.int 0, .ref q_1, .ref q_3, .ref q_5, .ref q_7, .null, .null])), (q_1, .inl (cA_2, 100, .inr (.inr (.inr (.inr (fun _ => none)))))), (q_3, .inl (cA_4, 96, .inl (fun _ => 0))), (q_5, .inl (cA_6, 96, .inl (fun _ => 0))), (q_7, .inl (cA_8, 96, .inl (fun _ => 0)))] H := hP
  have hD : va_D A [(h0, .inr (1, [.int 0, .ref q_1, .ref q_3, .ref q_5, .ref q_7, .null, .null])), (q_1, .inl (cA_2, 100, .inr (.inr (.inr (.inr (fun _ => none)))))), (q_3, .inl (cA_4, 96, .inl (fun _ => 0))), (q_5, .inl (cA_6, 96, .inl (fun _ => 0))), (q_7, .inl (cA_8, 96, .inl (fun _ => 0)))] := hD
  refine lv_aload_n hx hb dX1_init_42 rfl (lv_at hl 0 rfl) ?_
  refine lv_bipush (v := 96) hx hb dX1_init_43 (by decide) ?_
  refine va_newa (atype := .int) (ty := .int) (N' := 96) (a0 := (96, .inl (fun _ => 0))) hx hb (hts _ (List.mem_cons_of_mem _ gw_14)) rfl hK hP hD hS hA (fun _ => rfl) (by decide) (by decide +kernel) (by decide) (Nat.le_of_ble_eq_true rfl) (Nat.le_of_ble_eq_true rfl) dX1_init_45 (fun q_9 cA_10 H hK hP hD hS => ?_)
  have hP : va_P D vwCl [(h0, .inr (1, [.int 0, .ref q_1, .ref q_3, .ref q_5, .ref q_7, .null, .null])), (q_1, .inl (cA_2, 100, .inr (.inr (.inr (.inr (fun _ => none)))))), (q_3, .inl (cA_4, 96, .inl (fun _ => 0))), (q_5, .inl (cA_6, 96, .inl (fun _ => 0))), (q_7, .inl (cA_8, 96, .inl (fun _ => 0))), (q_9, .inl (cA_10, 96, .inl (fun _ => 0)))] H := hP
  have hD : va_D A [(h0, .inr (1, [.int 0, .ref q_1, .ref q_3, .ref q_5, .ref q_7, .null, .null])), (q_1, .inl (cA_2, 100, .inr (.inr (.inr (.inr (fun _ => none)))))), (q_3, .inl (cA_4, 96, .inl (fun _ => 0))), (q_5, .inl (cA_6, 96, .inl (fun _ => 0))), (q_7, .inl (cA_8, 96, .inl (fun _ => 0))), (q_9, .inl (cA_10, 96, .inl (fun _ => 0)))] := hD
  have hK : va_K D vwCl [(cA_2, .object RX7), (cA_4, .int), (cA_6, .int), (cA_8, .int), (cA_10, .int)] s := hK
  refine W.widen (k := 5) (n := 484) (Nat.le_of_ble_eq_true rfl) (Nat.le_of_ble_eq_true rfl) ?_
  refine va_putF (D := D) (ci := 1) (v := .ref q_9) (ty := .array .int) (C := RX1) (T := TX1) (N := 7) hx hb hts (fun w h => List.mem_cons_of_mem _ (inG1 w h)) tyX1 tyX1_ok nmX1 hown hK hP hD hS 0 rfl rfl 5 (by decide) (hts _ (List.mem_cons_of_mem _ gw_67)) (fun _ h9 => h9) rfl hin rfl (by decide +kernel) rfl rfl (Nat.le_of_ble_eq_true rfl) dX1_init_47 (fun H locs hP hD hS => ?_)
  have hP : va_P D vwCl [(h0, .inr (1, [.int 0, .ref q_1, .ref q_3, .ref q_5, .ref q_7, .ref q_9, .null])), (q_1, .inl (cA_2, 100, .inr (.inr (.inr (.inr (fun _ => none)))))), (q_3, .inl (cA_4, 96, .inl (fun _ => 0))), (q_5, .inl (cA_6, 96, .inl (fun _ => 0))), (q_7, .inl (cA_8, 96, .inl (fun _ => 0))), (q_9, .inl (cA_10, 96, .inl (fun _ => 0)))] H := hP
  have hD : va_D A [(h0, .inr (1, [.int 0, .ref q_1, .ref q_3, .ref q_5, .ref q_7, .ref q_9, .null])), (q_1, .inl (cA_2, 100, .inr (.inr (.inr (.inr (fun _ => none)))))), (q_3, .inl (cA_4, 96, .inl (fun _ => 0))), (q_5, .inl (cA_6, 96, .inl (fun _ => 0))), (q_7, .inl (cA_8, 96, .inl (fun _ => 0))), (q_9, .inl (cA_10, 96, .inl (fun _ => 0)))] := hD
  refine lv_aload_n hx hb dX1_init_50 rfl (lv_at hl 0 rfl) ?_
  refine lv_bipush (v := 16) hx hb dX1_init_51 (by decide) ?_
  refine va_newa (atype := .int) (ty := .int) (N' := 16) (a0 := (16, .inl (fun _ => 0))) hx hb (hts _ (List.mem_cons_of_mem _ gw_14)) rfl hK hP hD hS hA (fun _ => rfl) (by decide) (by decide +kernel) (by decide) (Nat.le_of_ble_eq_true rfl) (Nat.le_of_ble_eq_true rfl) dX1_init_53 (fun q_11 cA_12 H hK hP hD hS => ?_)
  have hP : va_P D vwCl [(h0, .inr (1, [.int 0, .ref q_1, .ref q_3, .ref q_5, .ref q_7, .ref q_9, .null])), (q_1, .inl (cA_2, 100, .inr (.inr (.inr (.inr (fun _ => none)))))), (q_3, .inl (cA_4, 96, .inl (fun _ => 0))), (q_5, .inl (cA_6, 96, .inl (fun _ => 0))), (q_7, .inl (cA_8, 96, .inl (fun _ => 0))), (q_9, .inl (cA_10, 96, .inl (fun _ => 0))), (q_11, .inl (cA_12, 16, .inl (fun _ => 0)))] H := hP
  have hD : va_D A [(h0, .inr (1, [.int 0, .ref q_1, .ref q_3, .ref q_5, .ref q_7, .ref q_9, .null])), (q_1, .inl (cA_2, 100, .inr (.inr (.inr (.inr (fun _ => none)))))), (q_3, .inl (cA_4, 96, .inl (fun _ => 0))), (q_5, .inl (cA_6, 96, .inl (fun _ => 0))), (q_7, .inl (cA_8, 96, .inl (fun _ => 0))), (q_9, .inl (cA_10, 96, .inl (fun _ => 0))), (q_11, .inl (cA_12, 16, .inl (fun _ => 0)))] := hD
  have hK : va_K D vwCl [(cA_2, .object RX7), (cA_4, .int), (cA_6, .int), (cA_8, .int), (cA_10, .int), (cA_12, .int)] s := hK
  refine W.widen (k := 6) (n := 500) (Nat.le_of_ble_eq_true rfl) (Nat.le_of_ble_eq_true rfl) ?_
  refine va_putF (D := D) (ci := 1) (v := .ref q_11) (ty := .array .int) (C := RX1) (T := TX1) (N := 7) hx hb hts (fun w h => List.mem_cons_of_mem _ (inG1 w h)) tyX1 tyX1_ok nmX1 hown hK hP hD hS 0 rfl rfl 6 (by decide) (hts _ (List.mem_cons_of_mem _ gw_60)) (fun _ h9 => h9) rfl hin rfl (by decide +kernel) rfl rfl (Nat.le_of_ble_eq_true rfl) dX1_init_55 (fun H locs hP hD hS => ?_)
  have hP : va_P D vwCl [(h0, .inr (1, [.int 0, .ref q_1, .ref q_3, .ref q_5, .ref q_7, .ref q_9, .ref q_11])), (q_1, .inl (cA_2, 100, .inr (.inr (.inr (.inr (fun _ => none)))))), (q_3, .inl (cA_4, 96, .inl (fun _ => 0))), (q_5, .inl (cA_6, 96, .inl (fun _ => 0))), (q_7, .inl (cA_8, 96, .inl (fun _ => 0))), (q_9, .inl (cA_10, 96, .inl (fun _ => 0))), (q_11, .inl (cA_12, 16, .inl (fun _ => 0)))] H := hP
  have hD : va_D A [(h0, .inr (1, [.int 0, .ref q_1, .ref q_3, .ref q_5, .ref q_7, .ref q_9, .ref q_11])), (q_1, .inl (cA_2, 100, .inr (.inr (.inr (.inr (fun _ => none)))))), (q_3, .inl (cA_4, 96, .inl (fun _ => 0))), (q_5, .inl (cA_6, 96, .inl (fun _ => 0))), (q_7, .inl (cA_8, 96, .inl (fun _ => 0))), (q_9, .inl (cA_10, 96, .inl (fun _ => 0))), (q_11, .inl (cA_12, 16, .inl (fun _ => 0)))] := hD
  refine lv_aload_n hx hb dX1_init_58 rfl (lv_at hl 0 rfl) ?_
  refine fr_i (wr := [(q_1, .inl (cA_2, 100, .inr (.inr (.inr (.inr (fun _ => none))))))]) (va_runV (As := []) (rest := []) ⟨hx, hb, hml, hown, hts⟩ (c_X1_settle l D H.size h0 ([.int 0, .ref q_1, .ref q_3, .ref q_5, .ref q_7, .ref q_9, .ref q_11]) q_3 q_5 q_7 q_9 q_11 cA_4 cA_6 cA_8 cA_10 cA_12 (fun _ => 0) (fun _ => 0) (fun _ => 0) (fun _ => 0) (fun _ => 0) rfl rfl rfl rfl rfl rfl) (cwV 0 hts (gV (fun w h => List.mem_cons_of_mem _ h) gw_87 gw_88 gw_89 gw_65 gw_86) rfl rfl rfl (by decide +kernel) ⟨Nat.le_of_ble_eq_true rfl, Nat.le_of_ble_eq_true rfl⟩) (pw_V [0, 2, 3, 4, 5, 6] [1, 2, 3, 4, 5] hP hD hK hN rfl rfl (by decide) rfl (ci := 1) (q0 := 0) rfl rfl) rfl rfl hl.1 rfl (lv_room (Nat.le_of_ble_eq_true rfl)) dX1_init_59 ⟨Nat.le_of_ble_eq_true rfl, Nat.le_of_ble_eq_true rfl⟩) hP hD hK hS hA [0, 2, 3, 4, 5, 6] [1] rfl rfl (by decide) (by decide) (fun r_14 u_13 H locs hw_15 hP hD hK hS => ?_)
  obtain ⟨ufl_16, ufh_17, ufe_18, ufg_19, ufp_20⟩ := u_13
  try dsimp only at hw_15
  have hP : va_P D vwCl [(q_1, .inl (cA_2, 100, .inr (.inr (.inr (.inr (fun _ => none)))))), (h0, .inr (1, [.int 0, .ref q_1, .ref q_3, .ref q_5, .ref q_7, .ref q_9, .ref q_11])), (q_3, .inl (cA_4, 96, .inl ufl_16)), (q_5, .inl (cA_6, 96, .inl ufh_17)), (q_7, .inl (cA_8, 96, .inl ufe_18)), (q_9, .inl (cA_10, 96, .inl ufg_19)), (q_11, .inl (cA_12, 16, .inl ufp_20))] H := hP
  have hD : va_D A [(q_1, .inl (cA_2, 100, .inr (.inr (.inr (.inr (fun _ => none)))))), (h0, .inr (1, [.int 0, .ref q_1, .ref q_3, .ref q_5, .ref q_7, .ref q_9, .ref q_11])), (q_3, .inl (cA_4, 96, .inl ufl_16)), (q_5, .inl (cA_6, 96, .inl ufh_17)), (q_7, .inl (cA_8, 96, .inl ufe_18)), (q_9, .inl (cA_10, 96, .inl ufg_19)), (q_11, .inl (cA_12, 16, .inl ufp_20))] := hD
  have hK : va_K D vwCl [(cA_2, .object RX7), (cA_4, .int), (cA_6, .int), (cA_8, .int), (cA_10, .int), (cA_12, .int)] s := hK
  refine W.widen (k := 6) (n := 500) (Nat.le_of_ble_eq_true rfl) (Nat.le_of_ble_eq_true rfl) ?_
  refine lv_pop hx hb dX1_init_62 rfl ?_
  have hP9 := hP.sub (ws' := [(h0, .inr (1, [.int 0, .ref q_1, .ref q_3, .ref q_5, .ref q_7, .ref q_9, .ref q_11]))]) [1] rfl
  have hD9 := hD.sub (ws' := [(h0, .inr (1, [.int 0, .ref q_1, .ref q_3, .ref q_5, .ref q_7, .ref q_9, .ref q_11]))]) [1] (by decide) rfl
  have hK9 := hK.sub (tys' := []) [] rfl
  refine W.widen (k := 6) (n := 500) (Nat.le_of_ble_eq_true rfl) (Nat.le_of_ble_eq_true rfl) ?_
  exact W.vret hx hb hr (fun t ht hW => ⟨⟨(q_1, q_3, q_5, q_7, q_9, q_11), rfl, (by first | trivial | rfl), by rw [ht]; exact hP9, va_K.moved hW.alike hK9, hD9⟩, hS.F ht⟩) hS.2.2 dX1_init_63
end
section
theorem dX6_clear_0 : decode cX6_clear 0 = .ok (.aload_n 0, 1) := by decide +kernel
theorem dX6_clear_1 : decode cX6_clear 1 = .ok (.iconst 0, 1) := by decide +kernel
theorem dX6_clear_2 : decode cX6_clear 2 = .ok (.putfield 30, 3) := by decide +kernel
theorem dX6_clear_5 : decode cX6_clear 5 = .ok (.aload_n 0, 1) := by decide +kernel
theorem dX6_clear_6 : decode cX6_clear 6 = .ok (.iconst 0, 1) := by decide +kernel
theorem dX6_clear_7 : decode cX6_clear 7 = .ok (.putfield 34, 3) := by decide +kernel
theorem dX6_clear_10 : decode cX6_clear 10 = .ok (.iconst 0, 1) := by decide +kernel
theorem dX6_clear_11 : decode cX6_clear 11 = .ok (.istore_n 1, 1) := by decide +kernel
theorem dX6_clear_12 : decode cX6_clear 12 = .ok (.iload_n 1, 1) := by decide +kernel
theorem dX6_clear_13 : decode cX6_clear 13 = .ok (.bipush 12, 2) := by decide +kernel
theorem dX6_clear_15 : decode cX6_clear 15 = .ok (.if_icmp .ge 23, 3) := by decide +kernel
theorem dX6_clear_38 : decode cX6_clear 38 = .ok (.return_, 1) := by decide +kernel
theorem dX6_clear_18 : decode cX6_clear 18 = .ok (.aload_n 0, 1) := by decide +kernel
theorem dX6_clear_19 : decode cX6_clear 19 = .ok (.getfield 9, 3) := by decide +kernel
theorem dX6_clear_22 : decode cX6_clear 22 = .ok (.iload_n 1, 1) := by decide +kernel
theorem dX6_clear_23 : decode cX6_clear 23 = .ok (.iconst 0, 1) := by decide +kernel
theorem dX6_clear_24 : decode cX6_clear 24 = .ok (.iastore, 1) := by decide +kernel
theorem dX6_clear_25 : decode cX6_clear 25 = .ok (.aload_n 0, 1) := by decide +kernel
theorem dX6_clear_26 : decode cX6_clear 26 = .ok (.getfield 15, 3) := by decide +kernel
theorem dX6_clear_29 : decode cX6_clear 29 = .ok (.iload_n 1, 1) := by decide +kernel
theorem dX6_clear_30 : decode cX6_clear 30 = .ok (.iconst 0, 1) := by decide +kernel
theorem dX6_clear_31 : decode cX6_clear 31 = .ok (.iastore, 1) := by decide +kernel
theorem dX6_clear_32 : decode cX6_clear 32 = .ok (.iinc 1 1, 3) := by decide +kernel
theorem dX6_clear_35 : decode cX6_clear 35 = .ok (.goto (-23), 3) := by decide +kernel
theorem dX6_areAble_0 : decode cX6_areAble 0 = .ok (.iload_n 1, 1) := by decide +kernel
theorem dX6_areAble_1 : decode cX6_areAble 1 = .ok (.aload_n 0, 1) := by decide +kernel
theorem dX6_areAble_2 : decode cX6_areAble 2 = .ok (.getfield 30, 3) := by decide +kernel
theorem dX6_areAble_5 : decode cX6_areAble 5 = .ok (.iconst (-1), 1) := by decide +kernel
theorem dX6_areAble_6 : decode cX6_areAble 6 = .ok (.ixor, 1) := by decide +kernel
theorem dX6_areAble_7 : decode cX6_areAble 7 = .ok (.iand, 1) := by decide +kernel
theorem dX6_areAble_8 : decode cX6_areAble 8 = .ok (.ifCond .ne 7, 3) := by decide +kernel
theorem dX6_areAble_15 : decode cX6_areAble 15 = .ok (.iconst 0, 1) := by decide +kernel
theorem dX6_areAble_16 : decode cX6_areAble 16 = .ok (.ireturn, 1) := by decide +kernel
theorem dX6_areAble_11 : decode cX6_areAble 11 = .ok (.iconst 1, 1) := by decide +kernel
theorem dX6_areAble_12 : decode cX6_areAble 12 = .ok (.goto 4, 3) := by decide +kernel
theorem dX6_link_0 : decode cX6_link 0 = .ok (.iconst 0, 1) := by decide +kernel
theorem dX6_link_1 : decode cX6_link 1 = .ok (.istore_n 1, 1) := by decide +kernel
theorem dX6_link_2 : decode cX6_link 2 = .ok (.iload_n 1, 1) := by decide +kernel
theorem dX6_link_3 : decode cX6_link 3 = .ok (.bipush 12, 2) := by decide +kernel
theorem dX6_link_5 : decode cX6_link 5 = .ok (.if_icmp .ge 64, 3) := by decide +kernel
theorem dX6_link_69 : decode cX6_link 69 = .ok (.return_, 1) := by decide +kernel
theorem dX6_link_8 : decode cX6_link 8 = .ok (.iconst 0, 1) := by decide +kernel
theorem dX6_link_9 : decode cX6_link 9 = .ok (.istore_n 2, 1) := by decide +kernel
theorem dX6_link_10 : decode cX6_link 10 = .ok (.iload_n 2, 1) := by decide +kernel
theorem dX6_link_11 : decode cX6_link 11 = .ok (.bipush 12, 2) := by decide +kernel
theorem dX6_link_13 : decode cX6_link 13 = .ok (.if_icmp .ge 50, 3) := by decide +kernel
theorem dX6_link_63 : decode cX6_link 63 = .ok (.iinc 1 1, 3) := by decide +kernel
theorem dX6_link_66 : decode cX6_link 66 = .ok (.goto (-64), 3) := by decide +kernel
theorem dX6_link_16 : decode cX6_link 16 = .ok (.aload_n 0, 1) := by decide +kernel
theorem dX6_link_17 : decode cX6_link 17 = .ok (.iconst 1, 1) := by decide +kernel
theorem dX6_link_18 : decode cX6_link 18 = .ok (.iload_n 1, 1) := by decide +kernel
theorem dX6_link_19 : decode cX6_link 19 = .ok (.ishl, 1) := by decide +kernel
theorem dX6_link_20 : decode cX6_link 20 = .ok (.iconst 1, 1) := by decide +kernel
theorem dX6_link_21 : decode cX6_link 21 = .ok (.iload_n 2, 1) := by decide +kernel
theorem dX6_link_22 : decode cX6_link 22 = .ok (.ishl, 1) := by decide +kernel
theorem dX6_link_23 : decode cX6_link 23 = .ok (.ior, 1) := by decide +kernel
theorem dX6_link_24 : decode cX6_link 24 = .ok (.invokevirtual 37, 3) := by decide +kernel
theorem dX6_link_27 : decode cX6_link 27 = .ok (.ifCond .eq 30, 3) := by decide +kernel
theorem dX6_link_57 : decode cX6_link 57 = .ok (.iinc 2 1, 3) := by decide +kernel
theorem dX6_link_60 : decode cX6_link 60 = .ok (.goto (-50), 3) := by decide +kernel
theorem dX5_init_0 : decode cX5_init 0 = .ok (.aload_n 0, 1) := by decide +kernel
theorem dX5_init_1 : decode cX5_init 1 = .ok (.invokespecial 3, 3) := by decide +kernel
theorem dX5_init_4 : decode cX5_init 4 = .ok (.aload_n 0, 1) := by decide +kernel
theorem dX5_init_5 : decode cX5_init 5 = .ok (.bipush 12, 2) := by decide +kernel
theorem dX5_init_7 : decode cX5_init 7 = .ok (.newarray .int, 2) := by decide +kernel
theorem dX5_init_9 : decode cX5_init 9 = .ok (.putfield 9, 3) := by decide +kernel
theorem dX5_init_12 : decode cX5_init 12 = .ok (.aload_n 0, 1) := by decide +kernel
theorem dX5_init_13 : decode cX5_init 13 = .ok (.iconst 0, 1) := by decide +kernel
theorem dX5_init_14 : decode cX5_init 14 = .ok (.putfield 15, 3) := by decide +kernel
theorem dX5_init_17 : decode cX5_init 17 = .ok (.aload_n 0, 1) := by decide +kernel
theorem dX5_init_18 : decode cX5_init 18 = .ok (.iconst 0, 1) := by decide +kernel
theorem dX5_init_19 : decode cX5_init 19 = .ok (.putfield 19, 3) := by decide +kernel
theorem dX5_init_22 : decode cX5_init 22 = .ok (.aload_n 0, 1) := by decide +kernel
theorem dX5_init_23 : decode cX5_init 23 = .ok (.sipush 1585, 3) := by decide +kernel
theorem dX5_init_26 : decode cX5_init 26 = .ok (.newarray .int, 2) := by decide +kernel
theorem dX5_init_28 : decode cX5_init 28 = .ok (.putfield 22, 3) := by decide +kernel
theorem dX5_init_31 : decode cX5_init 31 = .ok (.aload_n 0, 1) := by decide +kernel
theorem dX5_init_32 : decode cX5_init 32 = .ok (.bipush 13, 2) := by decide +kernel
theorem dX5_init_34 : decode cX5_init 34 = .ok (.newarray .int, 2) := by decide +kernel
theorem dX5_init_36 : decode cX5_init 36 = .ok (.putfield 25, 3) := by decide +kernel
theorem dX5_init_39 : decode cX5_init 39 = .ok (.aload_n 0, 1) := by decide +kernel
theorem dX5_init_40 : decode cX5_init 40 = .ok (.iconst 0, 1) := by decide +kernel
theorem dX5_init_41 : decode cX5_init 41 = .ok (.putfield 28, 3) := by decide +kernel
theorem dX5_init_44 : decode cX5_init 44 = .ok (.aload_n 0, 1) := by decide +kernel
theorem dX5_init_45 : decode cX5_init 45 = .ok (.sipush 1585, 3) := by decide +kernel
theorem dX5_init_48 : decode cX5_init 48 = .ok (.newarray .long, 2) := by decide +kernel
theorem dX5_init_50 : decode cX5_init 50 = .ok (.putfield 31, 3) := by decide +kernel
theorem dX5_init_53 : decode cX5_init 53 = .ok (.aload_n 0, 1) := by decide +kernel
theorem dX5_init_54 : decode cX5_init 54 = .ok (.sipush 4096, 3) := by decide +kernel
theorem dX5_init_57 : decode cX5_init 57 = .ok (.newarray .long, 2) := by decide +kernel
theorem dX5_init_59 : decode cX5_init 59 = .ok (.putfield 35, 3) := by decide +kernel
theorem dX5_init_62 : decode cX5_init 62 = .ok (.aload_n 0, 1) := by decide +kernel
theorem dX5_init_63 : decode cX5_init 63 = .ok (.sipush 4096, 3) := by decide +kernel
theorem dX5_init_66 : decode cX5_init 66 = .ok (.newarray .int, 2) := by decide +kernel
theorem dX5_init_68 : decode cX5_init 68 = .ok (.putfield 38, 3) := by decide +kernel
theorem dX5_init_71 : decode cX5_init 71 = .ok (.aload_n 0, 1) := by decide +kernel
theorem dX5_init_72 : decode cX5_init 72 = .ok (.iconst 0, 1) := by decide +kernel
theorem dX5_init_73 : decode cX5_init 73 = .ok (.putfield 41, 3) := by decide +kernel
theorem dX5_init_76 : decode cX5_init 76 = .ok (.aload_n 0, 1) := by decide +kernel
theorem dX5_init_77 : decode cX5_init 77 = .ok (.aload_n 1, 1) := by decide +kernel
theorem dX5_init_78 : decode cX5_init 78 = .ok (.putfield 44, 3) := by decide +kernel
theorem dX5_init_81 : decode cX5_init 81 = .ok (.aload_n 0, 1) := by decide +kernel
theorem dX5_init_82 : decode cX5_init 82 = .ok (.aload_n 2, 1) := by decide +kernel
theorem dX5_init_83 : decode cX5_init 83 = .ok (.putfield 48, 3) := by decide +kernel
theorem dX5_init_86 : decode cX5_init 86 = .ok (.return_, 1) := by decide +kernel
theorem dX5_pick_0 : decode cX5_pick 0 = .ok (.iconst 0, 1) := by decide +kernel
theorem dX5_pick_1 : decode cX5_pick 1 = .ok (.istore_n 1, 1) := by decide +kernel
theorem dX5_pick_2 : decode cX5_pick 2 = .ok (.iconst 0, 1) := by decide +kernel
theorem dX5_pick_3 : decode cX5_pick 3 = .ok (.istore_n 2, 1) := by decide +kernel
theorem dX5_pick_4 : decode cX5_pick 4 = .ok (.iload_n 2, 1) := by decide +kernel
theorem dX5_pick_5 : decode cX5_pick 5 = .ok (.aload_n 0, 1) := by decide +kernel
theorem dX5_pick_6 : decode cX5_pick 6 = .ok (.getfield 28, 3) := by decide +kernel
theorem dX5_pick_9 : decode cX5_pick 9 = .ok (.if_icmp .ge 18, 3) := by decide +kernel
theorem dX5_pick_27 : decode cX5_pick 27 = .ok (.aload_n 0, 1) := by decide +kernel
theorem dX5_pick_28 : decode cX5_pick 28 = .ok (.iconst 0, 1) := by decide +kernel
theorem dX5_pick_29 : decode cX5_pick 29 = .ok (.putfield 19, 3) := by decide +kernel
theorem dX5_pick_32 : decode cX5_pick 32 = .ok (.aload_n 0, 1) := by decide +kernel
theorem dX5_pick_33 : decode cX5_pick 33 = .ok (.iconst 0, 1) := by decide +kernel
theorem dX5_pick_34 : decode cX5_pick 34 = .ok (.putfield 15, 3) := by decide +kernel
theorem dX5_pick_37 : decode cX5_pick 37 = .ok (.iconst 0, 1) := by decide +kernel
theorem dX5_pick_38 : decode cX5_pick 38 = .ok (.istore_n 2, 1) := by decide +kernel
theorem dX5_pick_39 : decode cX5_pick 39 = .ok (.iload_n 2, 1) := by decide +kernel
theorem dX5_pick_40 : decode cX5_pick 40 = .ok (.bipush 12, 2) := by decide +kernel
theorem dX5_pick_42 : decode cX5_pick 42 = .ok (.if_icmp .ge 68, 3) := by decide +kernel
theorem dX5_pick_110 : decode cX5_pick 110 = .ok (.return_, 1) := by decide +kernel
theorem dX5_pick_45 : decode cX5_pick 45 = .ok (.iload_n 1, 1) := by decide +kernel
theorem dX5_pick_46 : decode cX5_pick 46 = .ok (.iload_n 2, 1) := by decide +kernel
theorem dX5_pick_47 : decode cX5_pick 47 = .ok (.ishr, 1) := by decide +kernel
theorem dX5_pick_48 : decode cX5_pick 48 = .ok (.iconst 1, 1) := by decide +kernel
theorem dX5_pick_49 : decode cX5_pick 49 = .ok (.iand, 1) := by decide +kernel
theorem dX5_pick_50 : decode cX5_pick 50 = .ok (.ifCond .eq 54, 3) := by decide +kernel
theorem dX5_pick_104 : decode cX5_pick 104 = .ok (.iinc 2 1, 3) := by decide +kernel
theorem dX5_pick_107 : decode cX5_pick 107 = .ok (.goto (-68), 3) := by decide +kernel
theorem dX5_choose_0 : decode cX5_choose 0 = .ok (.aload_n 0, 1) := by decide +kernel
theorem dX5_choose_1 : decode cX5_choose 1 = .ok (.dup, 1) := by decide +kernel
theorem dX5_choose_2 : decode cX5_choose 2 = .ok (.getfield 41, 3) := by decide +kernel
theorem dX5_choose_5 : decode cX5_choose 5 = .ok (.iconst 1, 1) := by decide +kernel
theorem dX5_choose_6 : decode cX5_choose 6 = .ok (.iadd, 1) := by decide +kernel
theorem dX5_choose_7 : decode cX5_choose 7 = .ok (.putfield 41, 3) := by decide +kernel
theorem dX5_choose_10 : decode cX5_choose 10 = .ok (.aload_n 0, 1) := by decide +kernel
theorem dX5_choose_11 : decode cX5_choose 11 = .ok (.iconst 0, 1) := by decide +kernel
theorem dX5_choose_12 : decode cX5_choose 12 = .ok (.putfield 28, 3) := by decide +kernel
theorem dX5_choose_15 : decode cX5_choose 15 = .ok (.iconst 0, 1) := by decide +kernel
theorem dX5_choose_16 : decode cX5_choose 16 = .ok (.istore_n 1, 1) := by decide +kernel
theorem dX5_choose_17 : decode cX5_choose 17 = .ok (.iload_n 1, 1) := by decide +kernel
theorem dX5_choose_18 : decode cX5_choose 18 = .ok (.bipush 12, 2) := by decide +kernel
theorem dX5_choose_20 : decode cX5_choose 20 = .ok (.if_icmp .ge 42, 3) := by decide +kernel
theorem dX5_choose_62 : decode cX5_choose 62 = .ok (.aload_n 0, 1) := by decide +kernel
theorem dX5_choose_63 : decode cX5_choose 63 = .ok (.getfield 25, 3) := by decide +kernel
theorem dX5_choose_66 : decode cX5_choose 66 = .ok (.bipush 12, 2) := by decide +kernel
theorem dX5_choose_68 : decode cX5_choose 68 = .ok (.aload_n 0, 1) := by decide +kernel
theorem dX5_choose_69 : decode cX5_choose 69 = .ok (.getfield 28, 3) := by decide +kernel
theorem dX5_choose_72 : decode cX5_choose 72 = .ok (.iastore, 1) := by decide +kernel
theorem dX5_choose_73 : decode cX5_choose 73 = .ok (.aload_n 0, 1) := by decide +kernel
theorem dX5_choose_74 : decode cX5_choose 74 = .ok (.invokevirtual 62, 3) := by decide +kernel
theorem dX5_choose_77 : decode cX5_choose 77 = .ok (.return_, 1) := by decide +kernel
theorem dX5_choose_23 : decode cX5_choose 23 = .ok (.aload_n 0, 1) := by decide +kernel
theorem dX5_choose_24 : decode cX5_choose 24 = .ok (.getfield 25, 3) := by decide +kernel
theorem dX5_choose_27 : decode cX5_choose 27 = .ok (.iload_n 1, 1) := by decide +kernel
theorem dX5_choose_28 : decode cX5_choose 28 = .ok (.aload_n 0, 1) := by decide +kernel
theorem dX5_choose_29 : decode cX5_choose 29 = .ok (.getfield 28, 3) := by decide +kernel
theorem dX5_choose_32 : decode cX5_choose 32 = .ok (.iastore, 1) := by decide +kernel
theorem dX5_choose_33 : decode cX5_choose 33 = .ok (.aload_n 0, 1) := by decide +kernel
theorem dX5_choose_34 : decode cX5_choose 34 = .ok (.getfield 44, 3) := by decide +kernel
theorem dX5_choose_37 : decode cX5_choose 37 = .ok (.iconst 1, 1) := by decide +kernel
theorem dX5_choose_38 : decode cX5_choose 38 = .ok (.iload_n 1, 1) := by decide +kernel
theorem dX5_choose_39 : decode cX5_choose 39 = .ok (.ishl, 1) := by decide +kernel
theorem dX5_choose_40 : decode cX5_choose 40 = .ok (.invokevirtual 52, 3) := by decide +kernel
theorem dX5_choose_43 : decode cX5_choose 43 = .ok (.ifCond .eq 13, 3) := by decide +kernel
theorem dX5_choose_56 : decode cX5_choose 56 = .ok (.iinc 1 1, 3) := by decide +kernel
theorem dX5_choose_59 : decode cX5_choose 59 = .ok (.goto (-42), 3) := by decide +kernel
set_option maxHeartbeats 4000000 in
set_option maxRecDepth 100000 in
theorem c_X6_clear (l : Launch) (D : va_G) (sz : Nat) (h0 : Nat) (qb : Nat) (qk : Nat) (s2 : Value) (s3 : Value) (s4 : Value) (s5 : Value) (x6 : Int32) (x7 : Int32) (kb : ClassId) (kk : ClassId) (fb : Nat → Int32) (fk : Nat → Int32) : Met l yX6_clear (.code yX6_clear cX6_clear 2 none :: G) ({ frames := 2, cells := 0, slots := 0, locals := 40 }) (va_Pc [.ref h0] (pw D sz [(h0, .inr (6, [.ref qb, .ref qk, s2, s3, s4, s5, .int x6, .int x7])), (qb, .inl (kb, 12, .inl fb)), (qk, .inl (kk, 12, .inl fk))] [(kb, .int), (kk, .int)])) (va_Qv (fun (u : (Nat → Int32) × (Nat → Int32)) => True) (fun (u : (Nat → Int32) × (Nat → Int32)) => qw D (va_A [(h0, .inr (6, [.ref qb, .ref qk, s2, s3, s4, s5, .int x6, .int x7])), (qb, .inl (kb, 12, .inl fb)), (qk, .inl (kk, 12, .inl fk))] sz) [(h0, .inr (6, [.ref qb, .ref qk, s2, s3, s4, s5, .int 0, .int 0])), (qb, .inl (kb, 12, .inl u.1)), (qk, .inl (kk, 12, .inl u.2))] []) (va_A [(h0, .inr (6, [.ref qb, .ref qk, s2, s3, s4, s5, .int x6, .int x7])), (qb, .inl (kb, 12, .inl fb)), (qk, .inl (kk, 12, .inl fk))] sz)) 0 0 (va_A [(h0, .inr (6, [.ref qb, .ref qk, s2, s3, s4, s5, .int x6, .int x7])), (qb, .inl (kb, 12, .inl fb)), (qk, .inl (kk, 12, .inl fk))] sz) := by
  refine Met.ofW (cc := cX6_clear) (maxL := 2) (ret := none) (by decide) rfl ?_
  intro p e s m args below meth c s₁ B hml hv
  obtain ⟨rfl, hsz, hP, hK, hD0, hN⟩ := hv
  have hx := B.exec
  have hb := B.bytes
  have hr := B.returns
  have hts := atoms_spec (ws := (.code yX6_clear cX6_clear 2 none :: G)) B.pre
  have hown : s.vm.findClass RX6 = some m.cls := findClass_of_methodNamed B.named
  have hlocks := B.notSynchronized
  subst hsz
  have hD := hD0.self (sz := s.heap.size)
  generalize hAe : va_A [(h0, .inr (6, [.ref qb, .ref qk, s2, s3, s4, s5, .int x6, .int x7])), (qb, .inl (kb, 12, .inl fb)), (qk, .inl (kk, 12, .inl fk))] s.heap.size = A at hD ⊢
  have hA : ∀ q : Nat, s.heap.size ≤ q → A q := fun q h => by rw [← hAe]; exact Or.inr h
  have hS : va_S A s.heap s.heap [] := va_S.rf
  have hP : va_P D vwCl [(h0, .inr (6, [.ref qb, .ref qk, s2, s3, s4, s5, .int x6, .int x7])), (qb, .inl (kb, 12, .inl fb)), (qk, .inl (kk, 12, .inl fk))] s.heap := hP
  have hl := lv_entry ([.ref h0]) (n := 2) (Nat.le_of_ble_eq_true rfl)
  rw [lg_entry_eq]
  generalize (lg_sl ([.ref h0]) ++ List.replicate (2 - (lg_sl ([.ref h0])).length) Slot.unset).toArray = ls at hl ⊢
  have hl : lv_has ls 2 [(0, .ref h0)] := hl
  refine lv_aload_n hx hb dX6_clear_0 rfl (lv_at hl 0 rfl) ?_
  refine lv_iconst (v := 0) hx hb dX6_clear_1 (by decide) ?_
  refine va_put (D := D) (ci := 6) (v := .int 0) (ty := .int) (C := RX6) (T := TX6) (N := 8) hx hb hts (fun w h => List.mem_cons_of_mem _ (inG6 w h)) tyX6 tyX6_ok nmX6 hown hK hP hD hS 0 rfl rfl 6 (by decide) (hts _ (List.mem_cons_of_mem _ gw_41)) (fun _ h9 => h9) rfl (by decide +kernel) rfl rfl (Nat.le_of_ble_eq_true rfl) dX6_clear_2 (fun H locs hP hD hS => ?_)
  have hP : va_P D vwCl [(h0, .inr (6, [.ref qb, .ref qk, s2, s3, s4, s5, .int 0, .int x7])), (qb, .inl (kb, 12, .inl fb)), (qk, .inl (kk, 12, .inl fk))] H := hP
  have hD : va_D A [(h0, .inr (6, [.ref qb, .ref qk, s2, s3, s4, s5, .int 0, .int x7])), (qb, .inl (kb, 12, .inl fb)), (qk, .inl (kk, 12, .inl fk))] := hD
  refine lv_aload_n hx hb dX6_clear_5 rfl (lv_at hl 0 rfl) ?_
  refine lv_iconst (v := 0) hx hb dX6_clear_6 (by decide) ?_
  refine va_put (D := D) (ci := 6) (v := .int 0) (ty := .int) (C := RX6) (T := TX6) (N := 8) hx hb hts (fun w h => List.mem_cons_of_mem _ (inG6 w h)) tyX6 tyX6_ok nmX6 hown hK hP hD hS 0 rfl rfl 7 (by decide) (hts _ (List.mem_cons_of_mem _ gw_42)) (fun _ h9 => h9) rfl (by decide +kernel) rfl rfl (Nat.le_of_ble_eq_true rfl) dX6_clear_7 (fun H locs hP hD hS => ?_)
  have hP : va_P D vwCl [(h0, .inr (6, [.ref qb, .ref qk, s2, s3, s4, s5, .int 0, .int 0])), (qb, .inl (kb, 12, .inl fb)), (qk, .inl (kk, 12, .inl fk))] H := hP
  have hD : va_D A [(h0, .inr (6, [.ref qb, .ref qk, s2, s3, s4, s5, .int 0, .int 0])), (qb, .inl (kb, 12, .inl fb)), (qk, .inl (kk, 12, .inl fk))] := hD
  refine lv_iconst (v := 0) hx hb dX6_clear_10 (by decide) ?_
  refine lv_istore_n (lv' := [(1, .int 0), (0, .ref h0)]) hx hb dX6_clear_11 rfl hl (by decide) rfl (fun ls hl => ?_)
  have lp12 : ∀ (n i1 : Nat) (f_1 : Nat → Int32) (f_2 : Nat → Int32) (H : Heap) (locs : List Loc) (ls : Array Slot), i1 ≤ 12 → 12 < i1 + n → va_P D vwCl [(h0, .inr (6, [.ref qb, .ref qk, s2, s3, s4, s5, .int 0, .int 0])), (qb, .inl (kb, 12, .inl f_1)), (qk, .inl (kk, 12, .inl f_2))] H → va_D A [(h0, .inr (6, [.ref qb, .ref qk, s2, s3, s4, s5, .int 0, .int 0])), (qb, .inl (kb, 12, .inl f_1)), (qk, .inl (kk, 12, .inl f_2))] → va_S A s.heap H locs → lv_has ls 2 [(1, .int (nI i1)), (0, .ref h0)] → W p l e ({ frames := 2, cells := 0, slots := 0, locals := 40 } : Room) s m (([.ref h0] : List Value).toArray) below meth c H locs 0 0 (MQ below (va_Qv (fun (u : (Nat → Int32) × (Nat → Int32)) => True) (fun (u : (Nat → Int32) × (Nat → Int32)) => qw D A [(h0, .inr (6, [.ref qb, .ref qk, s2, s3, s4, s5, .int 0, .int 0])), (qb, .inl (kb, 12, .inl u.1)), (qk, .inl (kk, 12, .inl u.2))] []) A) (([.ref h0] : List Value).toArray) s 0 0 A) (F0 m 12 ls []) := by
    intro n
    induction n with
    | zero => intro i1 f_1 f_2 H locs ls hi hn; exact absurd hn (by omega)
    | succ n ih12 =>
      intro i1 f_1 f_2 H locs ls hi_3 hn_4 hP hD hS hl
      refine lv_iload_n hx hb dX6_clear_12 rfl (lv_at hl 0 rfl) ?_
      refine lv_bipush (v := 12) hx hb dX6_clear_13 (by decide) ?_
      refine lv_icmp_ge (tgt := 38) hx hb dX6_clear_15 (by decide) (fun c_6 => ?_) (fun c_6 => ?_)
      · skip
        have hc_6 := ge_of (i := i1) 12 c_6 rfl (by omega) (by omega)
        have hP9 := hP.sub (ws' := [(h0, .inr (6, [.ref qb, .ref qk, s2, s3, s4, s5, .int 0, .int 0])), (qb, .inl (kb, 12, .inl f_1)), (qk, .inl (kk, 12, .inl f_2))]) [0, 1, 2] rfl
        have hD9 := hD.sub (ws' := [(h0, .inr (6, [.ref qb, .ref qk, s2, s3, s4, s5, .int 0, .int 0])), (qb, .inl (kb, 12, .inl f_1)), (qk, .inl (kk, 12, .inl f_2))]) [0, 1, 2] (by decide) rfl
        have hK9 := hK.sub (tys' := []) [] rfl
        refine W.widen (k := 0) (n := 0) (Nat.le_of_ble_eq_true rfl) (Nat.le_of_ble_eq_true rfl) ?_
        exact W.vret hx hb hr (fun t ht hW => ⟨⟨(f_1, f_2), rfl, (by first | trivial | rfl), by rw [ht]; exact hP9, va_K.moved hW.alike hK9, hD9⟩, hS.F ht⟩) hS.2.2 dX6_clear_38
      · skip
        have hc_6 := lt_of (i := i1) 12 c_6 rfl (by omega)
        refine lv_aload_n hx hb dX6_clear_18 rfl (lv_at hl 1 rfl) ?_
        refine va_get (D := D) (ci := 6) (v := .ref qb) (C := RX6) (T := TX6) (N := 8) hx hb hts (fun w h => List.mem_cons_of_mem _ (inG6 w h)) hown hK hP 0 rfl rfl 0 (by decide) (hts _ (List.mem_cons_of_mem _ gw_35)) (fun _ h9 => h9) rfl dX6_clear_19 ?_
        refine lv_iload_n hx hb dX6_clear_22 rfl (lv_at hl 0 rfl) ?_
        refine lv_iconst (v := 0) hx hb dX6_clear_23 (by decide) ?_
        refine va_iast hx hb hK hP hD hS 1 0 rfl rfl (vp_in_nI (n := i1) (N := 12) (by omega) (by omega)) dX6_clear_24 (fun H locs hP hD hS => ?_)
        obtain ⟨f_7, hP, hD⟩ : ∃ f : Nat → Int32, va_P D vwCl [(h0, .inr (6, [.ref qb, .ref qk, s2, s3, s4, s5, .int 0, .int 0])), (qb, .inl (kb, 12, .inl f)), (qk, .inl (kk, 12, .inl f_2))] H ∧ va_D A [(h0, .inr (6, [.ref qb, .ref qk, s2, s3, s4, s5, .int 0, .int 0])), (qb, .inl (kb, 12, .inl f)), (qk, .inl (kk, 12, .inl f_2))] := ⟨_, hP, hD⟩
        refine lv_aload_n hx hb dX6_clear_25 rfl (lv_at hl 1 rfl) ?_
        refine va_get (D := D) (ci := 6) (v := .ref qk) (C := RX6) (T := TX6) (N := 8) hx hb hts (fun w h => List.mem_cons_of_mem _ (inG6 w h)) hown hK hP 0 rfl rfl 1 (by decide) (hts _ (List.mem_cons_of_mem _ gw_36)) (fun _ h9 => h9) rfl dX6_clear_26 ?_
        refine lv_iload_n hx hb dX6_clear_29 rfl (lv_at hl 0 rfl) ?_
        refine lv_iconst (v := 0) hx hb dX6_clear_30 (by decide) ?_
        refine va_iast hx hb hK hP hD hS 2 1 rfl rfl (vp_in_nI (n := i1) (N := 12) (by omega) (by omega)) dX6_clear_31 (fun H locs hP hD hS => ?_)
        obtain ⟨f_8, hP, hD⟩ : ∃ f : Nat → Int32, va_P D vwCl [(h0, .inr (6, [.ref qb, .ref qk, s2, s3, s4, s5, .int 0, .int 0])), (qb, .inl (kb, 12, .inl f_7)), (qk, .inl (kk, 12, .inl f))] H ∧ va_D A [(h0, .inr (6, [.ref qb, .ref qk, s2, s3, s4, s5, .int 0, .int 0])), (qb, .inl (kb, 12, .inl f_7)), (qk, .inl (kk, 12, .inl f))] := ⟨_, hP, hD⟩
        refine lv_iinc (v := (nI (i1 + 1))) (lv' := [(1, .int (nI (i1 + 1))), (0, .ref h0)]) hx hb dX6_clear_32 hl (k := 0) rfl (nI_1 _) (by decide) rfl (fun ls hl => ?_)
        refine lv_goto (tgt := 12) hx hb dX6_clear_35 (by decide) ?_
        exact ih12 (i1 + 1) _ _ _ _ _ (by omega) (by omega) (hP.sub [0, 1, 2] rfl) (hD.sub [0, 1, 2] (by decide) rfl) hS (lv_sub hl [0, 1] rfl)
  exact lp12 (12 + 1) 0 _ _ _ _ _ (by omega) (by omega) hP hD hS (lv_sub hl [0, 1] rfl)
set_option maxHeartbeats 4000000 in
set_option maxRecDepth 100000 in
theorem c_X6_areAble (l : Launch) (D : va_G) (sz : Nat) (h0 : Nat) (x0 : Int32) (fs : List Value) (hf6 : fs[6]? = some (.int 0)) : Met l yX6_areAble (.code yX6_areAble cX6_areAble 2 (some .boolean) :: G) ({ frames := 2, cells := 0, slots := 0, locals := 40 }) (va_Pc [.ref h0, .int x0] (pw D sz [(h0, .inr (6, fs))] [])) (va_Qi (fun (r : Int32) (u : Unit) => r = (if x0 &&& (-1) = 0 then 1 else 0)) (fun (u : Unit) => qw D (va_A [(h0, .inr (6, fs))] sz) [(h0, .inr (6, fs))] []) (va_A [(h0, .inr (6, fs))] sz)) 0 0 (va_A [(h0, .inr (6, fs))] sz) := by
  refine Met.ofW (cc := cX6_areAble) (maxL := 2) (ret := (some .boolean)) (by decide) rfl ?_
  intro p e s m args below meth c s₁ B hml hv
  obtain ⟨rfl, hsz, hP, hK, hD0, hN⟩ := hv
  have hx := B.exec
  have hb := B.bytes
  have hr := B.returns
  have hts := atoms_spec (ws := (.code yX6_areAble cX6_areAble 2 (some .boolean) :: G)) B.pre
  have hown : s.vm.findClass RX6 = some m.cls := findClass_of_methodNamed B.named
  have hlocks := B.notSynchronized
  subst hsz
  have hD := hD0.self (sz := s.heap.size)
  generalize hAe : va_A [(h0, .inr (6, fs))] s.heap.size = A at hD ⊢
  have hA : ∀ q : Nat, s.heap.size ≤ q → A q := fun q h => by rw [← hAe]; exact Or.inr h
  have hS : va_S A s.heap s.heap [] := va_S.rf
  have hP : va_P D vwCl [(h0, .inr (6, fs))] s.heap := hP
  have hl := lv_entry ([.ref h0, .int x0]) (n := 2) (Nat.le_of_ble_eq_true rfl)
  rw [lg_entry_eq]
  generalize (lg_sl ([.ref h0, .int x0]) ++ List.replicate (2 - (lg_sl ([.ref h0, .int x0])).length) Slot.unset).toArray = ls at hl ⊢
  have hl : lv_has ls 2 [(0, .ref h0), (1, .int x0)] := hl
  refine lv_iload_n hx hb dX6_areAble_0 rfl (lv_at hl 1 rfl) ?_
  refine lv_aload_n hx hb dX6_areAble_1 rfl (lv_at hl 0 rfl) ?_
  refine va_get (D := D) (ci := 6) (v := .int 0) (C := RX6) (T := TX6) (N := 8) hx hb hts (fun w h => List.mem_cons_of_mem _ (inG6 w h)) hown hK hP 0 rfl rfl 6 (by decide) (hts _ (List.mem_cons_of_mem _ gw_41)) (fun _ h9 => h9) hf6 dX6_areAble_2 ?_
  refine lv_iconst (v := (-1)) hx hb dX6_areAble_5 (by decide) ?_
  refine lv_ixor hx hb dX6_areAble_6 ?_
  refine tI (y := (-1)) (by decide) ?_
  refine lv_iand hx hb dX6_areAble_7 ?_
  refine lv_if_ne (tgt := 15) hx hb dX6_areAble_8 (by decide) (fun c_1 => ?_) (fun c_1 => ?_)
  · skip
    refine lv_iconst (v := 0) hx hb dX6_areAble_15 (by decide) ?_
    have hP9 := hP.sub (ws' := [(h0, .inr (6, fs))]) [0] rfl
    have hD9 := hD.sub (ws' := [(h0, .inr (6, fs))]) [0] (by decide) rfl
    have hK9 := hK.sub (tys' := []) [] rfl
    refine W.widen (k := 0) (n := 0) (Nat.le_of_ble_eq_true rfl) (Nat.le_of_ble_eq_true rfl) ?_
    exact W.zret (v := 0) hx hb hr rfl (fun t ht hW => ⟨⟨0, (), rfl, (if_neg c_1).symm, by rw [ht]; exact hP9, va_K.moved hW.alike hK9, hD9⟩, hS.F ht⟩) hS.2.2 dX6_areAble_16
  · skip
    refine lv_iconst (v := 1) hx hb dX6_areAble_11 (by decide) ?_
    refine lv_goto (tgt := 16) hx hb dX6_areAble_12 (by decide) ?_
    have hP9 := hP.sub (ws' := [(h0, .inr (6, fs))]) [0] rfl
    have hD9 := hD.sub (ws' := [(h0, .inr (6, fs))]) [0] (by decide) rfl
    have hK9 := hK.sub (tys' := []) [] rfl
    refine W.widen (k := 0) (n := 0) (Nat.le_of_ble_eq_true rfl) (Nat.le_of_ble_eq_true rfl) ?_
    exact W.zret (v := 1) hx hb hr rfl (fun t ht hW => ⟨⟨1, (), rfl, (if_pos c_1).symm, by rw [ht]; exact hP9, va_K.moved hW.alike hK9, hD9⟩, hS.F ht⟩) hS.2.2 dX6_areAble_16
set_option maxHeartbeats 4000000 in
set_option maxRecDepth 100000 in
theorem c_X6_link (l : Launch) (D : va_G) (sz : Nat) (h0 : Nat) (fs : List Value) (hf6 : fs[6]? = some (.int 0)) : Met l yX6_link (.code yX6_link cX6_link 3 none :: G) ({ frames := 4, cells := 0, slots := 0, locals := 67 }) (va_Pc [.ref h0] (pw D sz [(h0, .inr (6, fs))] [])) (va_Qv (fun (u : Unit) => True) (fun (u : Unit) => qw D (va_A [(h0, .inr (6, fs))] sz) [(h0, .inr (6, fs))] []) (va_A [(h0, .inr (6, fs))] sz)) 0 0 (va_A [(h0, .inr (6, fs))] sz) := by
  refine Met.ofW (cc := cX6_link) (maxL := 3) (ret := none) (by decide) rfl ?_
  intro p e s m args below meth c s₁ B hml hv
  obtain ⟨rfl, hsz, hP, hK, hD0, hN⟩ := hv
  have hx := B.exec
  have hb := B.bytes
  have hr := B.returns
  have hts := atoms_spec (ws := (.code yX6_link cX6_link 3 none :: G)) B.pre
  have hown : s.vm.findClass RX6 = some m.cls := findClass_of_methodNamed B.named
  have hlocks := B.notSynchronized
  subst hsz
  have hD := hD0.self (sz := s.heap.size)
  generalize hAe : va_A [(h0, .inr (6, fs))] s.heap.size = A at hD ⊢
  have hA : ∀ q : Nat, s.heap.size ≤ q → A q := fun q h => by rw [← hAe]; exact Or.inr h
  have hS : va_S A s.heap s.heap [] := va_S.rf
  have hP : va_P D vwCl [(h0, .inr (6, fs))] s.heap := hP
  have hl := lv_entry ([.ref h0]) (n := 3) (Nat.le_of_ble_eq_true rfl)
  rw [lg_entry_eq]
  generalize (lg_sl ([.ref h0]) ++ List.replicate (3 - (lg_sl ([.ref h0])).length) Slot.unset).toArray = ls at hl ⊢
  have hl : lv_has ls 3 [(0, .ref h0)] := hl
  refine lv_iconst (v := 0) hx hb dX6_link_0 (by decide) ?_
  refine lv_istore_n (lv' := [(1, .int 0), (0, .ref h0)]) hx hb dX6_link_1 rfl hl (by decide) rfl (fun ls hl => ?_)
  have lp2 : ∀ (n i1 : Nat) (H : Heap) (locs : List Loc) (ls : Array Slot), i1 ≤ 12 → 12 < i1 + n → va_P D vwCl [(h0, .inr (6, fs))] H → va_D A [(h0, .inr (6, fs))] → va_S A s.heap H locs → lv_has ls 3 [(1, .int (nI i1)), (0, .ref h0)] → W p l e ({ frames := 4, cells := 0, slots := 0, locals := 67 } : Room) s m (([.ref h0] : List Value).toArray) below meth c H locs 0 0 (MQ below (va_Qv (fun (u : Unit) => True) (fun (u : Unit) => qw D A [(h0, .inr (6, fs))] []) A) (([.ref h0] : List Value).toArray) s 0 0 A) (F0 m 2 ls []) := by
    intro n
    induction n with
    | zero => intro i1 H locs ls hi hn; exact absurd hn (by omega)
    | succ n ih2 =>
      intro i1 H locs ls hi_1 hn_2 hP hD hS hl
      refine lv_iload_n hx hb dX6_link_2 rfl (lv_at hl 0 rfl) ?_
      refine lv_bipush (v := 12) hx hb dX6_link_3 (by decide) ?_
      refine lv_icmp_ge (tgt := 69) hx hb dX6_link_5 (by decide) (fun c_4 => ?_) (fun c_4 => ?_)
      · skip
        have hc_4 := ge_of (i := i1) 12 c_4 rfl (by omega) (by omega)
        have hP9 := hP.sub (ws' := [(h0, .inr (6, fs))]) [0] rfl
        have hD9 := hD.sub (ws' := [(h0, .inr (6, fs))]) [0] (by decide) rfl
        have hK9 := hK.sub (tys' := []) [] rfl
        refine W.widen (k := 0) (n := 0) (Nat.le_of_ble_eq_true rfl) (Nat.le_of_ble_eq_true rfl) ?_
        exact W.vret hx hb hr (fun t ht hW => ⟨⟨(), rfl, (by first | trivial | rfl), by rw [ht]; exact hP9, va_K.moved hW.alike hK9, hD9⟩, hS.F ht⟩) hS.2.2 dX6_link_69
      · skip
        have hc_4 := lt_of (i := i1) 12 c_4 rfl (by omega)
        refine lv_iconst (v := 0) hx hb dX6_link_8 (by decide) ?_
        refine lv_istore_n (lv' := [(2, .int 0), (1, .int (nI i1)), (0, .ref h0)]) hx hb dX6_link_9 rfl hl (by decide) rfl (fun ls hl => ?_)
        have lp10 : ∀ (n i2 : Nat) (H : Heap) (locs : List Loc) (ls : Array Slot), i2 ≤ 12 → 12 < i2 + n → va_P D vwCl [(h0, .inr (6, fs))] H → va_D A [(h0, .inr (6, fs))] → va_S A s.heap H locs → lv_has ls 3 [(2, .int (nI i2)), (1, .int (nI i1)), (0, .ref h0)] → W p l e ({ frames := 4, cells := 0, slots := 0, locals := 67 } : Room) s m (([.ref h0] : List Value).toArray) below meth c H locs 0 0 (MQ below (va_Qv (fun (u : Unit) => True) (fun (u : Unit) => qw D A [(h0, .inr (6, fs))] []) A) (([.ref h0] : List Value).toArray) s 0 0 A) (F0 m 10 ls []) := by
          intro n
          induction n with
          | zero => intro i2 H locs ls hi hn; exact absurd hn (by omega)
          | succ n ih10 =>
            intro i2 H locs ls hi_5 hn_6 hP hD hS hl
            refine lv_iload_n hx hb dX6_link_10 rfl (lv_at hl 0 rfl) ?_
            refine lv_bipush (v := 12) hx hb dX6_link_11 (by decide) ?_
            refine lv_icmp_ge (tgt := 63) hx hb dX6_link_13 (by decide) (fun c_8 => ?_) (fun c_8 => ?_)
            · skip
              have hc_8 := ge_of (i := i2) 12 c_8 rfl (by omega) (by omega)
              refine lv_iinc (v := (nI (i1 + 1))) (lv' := [(1, .int (nI (i1 + 1))), (2, .int (nI i2)), (0, .ref h0)]) hx hb dX6_link_63 hl (k := 1) rfl (nI_1 _) (by decide) rfl (fun ls hl => ?_)
              refine lv_goto (tgt := 2) hx hb dX6_link_66 (by decide) ?_
              exact ih2 (i1 + 1) _ _ _ (by omega) (by omega) (hP.sub [0] rfl) (hD.sub [0] (by decide) rfl) hS (lv_sub hl [0, 2] rfl)
            · skip
              have hc_8 := lt_of (i := i2) 12 c_8 rfl (by omega)
              refine lv_aload_n hx hb dX6_link_16 rfl (lv_at hl 2 rfl) ?_
              refine lv_iconst (v := 1) hx hb dX6_link_17 (by decide) ?_
              refine lv_iload_n hx hb dX6_link_18 rfl (lv_at hl 1 rfl) ?_
              refine lv_ishl hx hb dX6_link_19 ?_
              refine lv_iconst (v := 1) hx hb dX6_link_20 (by decide) ?_
              refine lv_iload_n hx hb dX6_link_21 rfl (lv_at hl 0 rfl) ?_
              refine lv_ishl hx hb dX6_link_22 ?_
              refine lv_ior hx hb dX6_link_23 ?_
              refine fr_i (wr := []) (va_runV (As := [.int ((1 <<< ((nI i1) &&& 31)) ||| (1 <<< ((nI i2) &&& 31)))]) (rest := []) ⟨hx, hb, hml, hown, hts⟩ (c_X6_areAble l D H.size h0 ((1 <<< ((nI i1) &&& 31)) ||| (1 <<< ((nI i2) &&& 31))) fs hf6) (cwV 1 hts (gV (fun w h => List.mem_cons_of_mem _ h) gw_91 gw_92 gw_93 gw_94 gw_90) rfl rfl rfl (by decide +kernel) ⟨Nat.le_of_ble_eq_true rfl, Nat.le_of_ble_eq_true rfl⟩) (pw_V [0] [] hP hD hK hN rfl rfl (by decide) rfl (ci := 6) (q0 := 0) rfl rfl) rfl rfl hl.1 rfl (lv_room (Nat.le_of_ble_eq_true rfl)) dX6_link_24 ⟨Nat.le_of_ble_eq_true rfl, Nat.le_of_ble_eq_true rfl⟩) hP hD hK hS hA [0] [] rfl rfl (by decide) (by decide) (fun r_10 u_9 H locs hw_11 hP hD hK hS => ?_)
              try dsimp only at hw_11
              have hP : va_P D vwCl [(h0, .inr (6, fs))] H := hP
              have hD : va_D A [(h0, .inr (6, fs))] := hD
              have hK : va_K D vwCl [] s := hK
              refine W.widen (k := 0) (n := 0) (Nat.le_of_ble_eq_true rfl) (Nat.le_of_ble_eq_true rfl) ?_
              refine tI (y := if ((1 <<< ((nI i1) &&& 31)) ||| (1 <<< ((nI i2) &&& 31))) &&& (-1) = 0 then 1 else 0) hw_11 ?_
              refine lv_if_eq (tgt := 57) hx hb dX6_link_27 (by decide) (fun c_12 => ?_) (fun c_12 => absurd (able2 i1 (by omega) i2 (by omega)) c_12)
              refine lv_iinc (v := (nI (i2 + 1))) (lv' := [(2, .int (nI (i2 + 1))), (1, .int (nI i1)), (0, .ref h0)]) hx hb dX6_link_57 hl (k := 0) rfl (nI_1 _) (by decide) rfl (fun ls hl => ?_)
              refine lv_goto (tgt := 10) hx hb dX6_link_60 (by decide) ?_
              exact ih10 (i2 + 1) _ _ _ (by omega) (by omega) (hP.sub [0] rfl) (hD.sub [0] (by decide) rfl) hS (lv_sub hl [0, 1, 2] rfl)
        exact lp10 (12 + 1) 0 _ _ _ (by omega) (by omega) hP hD hS (lv_sub hl [0, 1, 2] rfl)
  exact lp2 (12 + 1) 0 _ _ _ (by omega) (by omega) hP hD hS (lv_sub hl [0, 1] rfl)
set_option maxHeartbeats 4000000 in
set_option maxRecDepth 100000 in
theorem c_X5_init (l : Launch) (D : va_G) (sz : Nat) (h0 : Nat) (qr : Nat) (qo : Nat) : Met l yX5_init (.code yX5_init cX5_init 3 none :: G) ({ frames := 2, cells := 6, slots := 11387, locals := 40 }) (va_Pc [.ref h0, .ref qr, .ref qo] (pw D sz [(h0, .inr (5, [.null, .int 0, .int 0, .null, .null, .null, .null, .int 0, .null, .null, .null, .int 0]))] [])) (va_Qv (fun (u : (Nat) × (Nat) × (Nat) × (Nat) × (Nat) × (Nat) × (ClassId)) => True) (fun (u : (Nat) × (Nat) × (Nat) × (Nat) × (Nat) × (Nat) × (ClassId)) => qw D (va_A [(h0, .inr (5, [.null, .int 0, .int 0, .null, .null, .null, .null, .int 0, .null, .null, .null, .int 0]))] sz) [(h0, .inr (5, [.ref u.1, .int 0, .int 0, .ref qr, .ref qo, .ref u.2.1, .ref u.2.2.1, .int 0, .ref u.2.2.2.1, .ref u.2.2.2.2.1, .ref u.2.2.2.2.2.1, .int 0])), (u.2.2.1, .inl (u.2.2.2.2.2.2, 13, .inl (fun _ => 0)))] [(u.2.2.2.2.2.2, .int)]) (va_A [(h0, .inr (5, [.null, .int 0, .int 0, .null, .null, .null, .null, .int 0, .null, .null, .null, .int 0]))] sz)) 6 11387 (va_A [(h0, .inr (5, [.null, .int 0, .int 0, .null, .null, .null, .null, .int 0, .null, .null, .null, .int 0]))] sz) := by
  refine Met.ofW (cc := cX5_init) (maxL := 3) (ret := none) (by decide) rfl ?_
  intro p e s m args below meth c s₁ B hml hv
  obtain ⟨rfl, hsz, hP, hK, hD0, hN⟩ := hv
  have hx := B.exec
  have hb := B.bytes
  have hr := B.returns
  have hts := atoms_spec (ws := (.code yX5_init cX5_init 3 none :: G)) B.pre
  have hown : s.vm.findClass RX5 = some m.cls := findClass_of_methodNamed B.named
  have hlocks := B.notSynchronized
  have hin : meth.name = "<init>" := (name_of_methodNamed B.named B.method).1
  subst hsz
  have hD := hD0.self (sz := s.heap.size)
  generalize hAe : va_A [(h0, .inr (5, [.null, .int 0, .int 0, .null, .null, .null, .null, .int 0, .null, .null, .null, .int 0]))] s.heap.size = A at hD ⊢
  have hA : ∀ q : Nat, s.heap.size ≤ q → A q := fun q h => by rw [← hAe]; exact Or.inr h
  have hS : va_S A s.heap s.heap [] := va_S.rf
  have hP : va_P D vwCl [(h0, .inr (5, [.null, .int 0, .int 0, .null, .null, .null, .null, .int 0, .null, .null, .null, .int 0]))] s.heap := hP
  have hl := lv_entry ([.ref h0, .ref qr, .ref qo]) (n := 3) (Nat.le_of_ble_eq_true rfl)
  rw [lg_entry_eq]
  generalize (lg_sl ([.ref h0, .ref qr, .ref qo]) ++ List.replicate (3 - (lg_sl ([.ref h0, .ref qr, .ref qo])).length) Slot.unset).toArray = ls at hl ⊢
  have hl : lv_has ls 3 [(0, .ref h0), (1, .ref qr), (2, .ref qo)] := hl
  refine lv_aload_n hx hb dX5_init_0 rfl (lv_at hl 0 rfl) ?_
  refine W.objInit hx hb hown (hts _ (List.mem_cons_of_mem _ gw_95)) (hts _ (List.mem_cons_of_mem _ gw_12)) (hts _ (List.mem_cons_of_mem _ gw_13)) rfl (by rw [hml]; exact hl.1) rfl dX5_init_1 (Nat.le_of_ble_eq_true rfl) (Nat.le_of_ble_eq_true rfl) ?_
  refine W.eq (g2 := F0 m 4 ls []) rfl ?_
  refine lv_aload_n hx hb dX5_init_4 rfl (lv_at hl 0 rfl) ?_
  refine lv_bipush (v := 12) hx hb dX5_init_5 (by decide) ?_
  refine va_newa (atype := .int) (ty := .int) (N' := 12) (a0 := (12, .inl (fun _ => 0))) hx hb (hts _ (List.mem_cons_of_mem _ gw_14)) rfl hK hP hD hS hA (fun _ => rfl) (by decide) (by decide +kernel) (by decide) (Nat.le_of_ble_eq_true rfl) (Nat.le_of_ble_eq_true rfl) dX5_init_7 (fun q_1 cA_2 H hK hP hD hS => ?_)
  have hP : va_P D vwCl [(h0, .inr (5, [.null, .int 0, .int 0, .null, .null, .null, .null, .int 0, .null, .null, .null, .int 0])), (q_1, .inl (cA_2, 12, .inl (fun _ => 0)))] H := hP
  have hD : va_D A [(h0, .inr (5, [.null, .int 0, .int 0, .null, .null, .null, .null, .int 0, .null, .null, .null, .int 0])), (q_1, .inl (cA_2, 12, .inl (fun _ => 0)))] := hD
  have hK : va_K D vwCl [(cA_2, .int)] s := hK
  refine W.widen (k := 1) (n := 12) (Nat.le_of_ble_eq_true rfl) (Nat.le_of_ble_eq_true rfl) ?_
  refine va_putF (D := D) (ci := 5) (v := .ref q_1) (ty := .array .int) (C := RX5) (T := TX5) (N := 12) hx hb hts (fun w h => List.mem_cons_of_mem _ (inG5 w h)) tyX5 tyX5_ok nmX5 hown hK hP hD hS 0 rfl rfl 0 (by decide) (hts _ (List.mem_cons_of_mem _ gw_96)) (fun _ h9 => h9) rfl hin rfl (by decide +kernel) rfl rfl (Nat.le_of_ble_eq_true rfl) dX5_init_9 (fun H locs hP hD hS => ?_)
  have hP : va_P D vwCl [(h0, .inr (5, [.ref q_1, .int 0, .int 0, .null, .null, .null, .null, .int 0, .null, .null, .null, .int 0])), (q_1, .inl (cA_2, 12, .inl (fun _ => 0)))] H := hP
  have hD : va_D A [(h0, .inr (5, [.ref q_1, .int 0, .int 0, .null, .null, .null, .null, .int 0, .null, .null, .null, .int 0])), (q_1, .inl (cA_2, 12, .inl (fun _ => 0)))] := hD
  refine lv_aload_n hx hb dX5_init_12 rfl (lv_at hl 0 rfl) ?_
  refine lv_iconst (v := 0) hx hb dX5_init_13 (by decide) ?_
  refine va_put (D := D) (ci := 5) (v := .int 0) (ty := .int) (C := RX5) (T := TX5) (N := 12) hx hb hts (fun w h => List.mem_cons_of_mem _ (inG5 w h)) tyX5 tyX5_ok nmX5 hown hK hP hD hS 0 rfl rfl 1 (by decide) (hts _ (List.mem_cons_of_mem _ gw_97)) (fun _ h9 => h9) rfl (by decide +kernel) rfl rfl (Nat.le_of_ble_eq_true rfl) dX5_init_14 (fun H locs hP hD hS => ?_)
  have hP : va_P D vwCl [(h0, .inr (5, [.ref q_1, .int 0, .int 0, .null, .null, .null, .null, .int 0, .null, .null, .null, .int 0])), (q_1, .inl (cA_2, 12, .inl (fun _ => 0)))] H := hP
  have hD : va_D A [(h0, .inr (5, [.ref q_1, .int 0, .int 0, .null, .null, .null, .null, .int 0, .null, .null, .null, .int 0])), (q_1, .inl (cA_2, 12, .inl (fun _ => 0)))] := hD
  refine lv_aload_n hx hb dX5_init_17 rfl (lv_at hl 0 rfl) ?_
  refine lv_iconst (v := 0) hx hb dX5_init_18 (by decide) ?_
  refine va_put (D := D) (ci := 5) (v := .int 0) (ty := .int) (C := RX5) (T := TX5) (N := 12) hx hb hts (fun w h => List.mem_cons_of_mem _ (inG5 w h)) tyX5 tyX5_ok nmX5 hown hK hP hD hS 0 rfl rfl 2 (by decide) (hts _ (List.mem_cons_of_mem _ gw_98)) (fun _ h9 => h9) rfl (by decide +kernel) rfl rfl (Nat.le_of_ble_eq_true rfl) dX5_init_19 (fun H locs hP hD hS => ?_)
  have hP : va_P D vwCl [(h0, .inr (5, [.ref q_1, .int 0, .int 0, .null, .null, .null, .null, .int 0, .null, .null, .null, .int 0])), (q_1, .inl (cA_2, 12, .inl (fun _ => 0)))] H := hP
  have hD : va_D A [(h0, .inr (5, [.ref q_1, .int 0, .int 0, .null, .null, .null, .null, .int 0, .null, .null, .null, .int 0])), (q_1, .inl (cA_2, 12, .inl (fun _ => 0)))] := hD
  refine lv_aload_n hx hb dX5_init_22 rfl (lv_at hl 0 rfl) ?_
  refine lv_sipush (v := 1585) hx hb dX5_init_23 (by decide) ?_
  refine va_newa (atype := .int) (ty := .int) (N' := 1585) (a0 := (1585, .inl (fun _ => 0))) hx hb (hts _ (List.mem_cons_of_mem _ gw_14)) rfl hK hP hD hS hA (fun _ => rfl) (by decide) (by decide +kernel) (by decide) (Nat.le_of_ble_eq_true rfl) (Nat.le_of_ble_eq_true rfl) dX5_init_26 (fun q_3 cA_4 H hK hP hD hS => ?_)
  have hP : va_P D vwCl [(h0, .inr (5, [.ref q_1, .int 0, .int 0, .null, .null, .null, .null, .int 0, .null, .null, .null, .int 0])), (q_1, .inl (cA_2, 12, .inl (fun _ => 0))), (q_3, .inl (cA_4, 1585, .inl (fun _ => 0)))] H := hP
  have hD : va_D A [(h0, .inr (5, [.ref q_1, .int 0, .int 0, .null, .null, .null, .null, .int 0, .null, .null, .null, .int 0])), (q_1, .inl (cA_2, 12, .inl (fun _ => 0))), (q_3, .inl (cA_4, 1585, .inl (fun _ => 0)))] := hD
  have hK : va_K D vwCl [(cA_2, .int), (cA_4, .int)] s := hK
  refine W.widen (k := 2) (n := 1597) (Nat.le_of_ble_eq_true rfl) (Nat.le_of_ble_eq_true rfl) ?_
  refine va_putF (D := D) (ci := 5) (v := .ref q_3) (ty := .array .int) (C := RX5) (T := TX5) (N := 12) hx hb hts (fun w h => List.mem_cons_of_mem _ (inG5 w h)) tyX5 tyX5_ok nmX5 hown hK hP hD hS 0 rfl rfl 5 (by decide) (hts _ (List.mem_cons_of_mem _ gw_99)) (fun _ h9 => h9) rfl hin rfl (by decide +kernel) rfl rfl (Nat.le_of_ble_eq_true rfl) dX5_init_28 (fun H locs hP hD hS => ?_)
  have hP : va_P D vwCl [(h0, .inr (5, [.ref q_1, .int 0, .int 0, .null, .null, .ref q_3, .null, .int 0, .null, .null, .null, .int 0])), (q_1, .inl (cA_2, 12, .inl (fun _ => 0))), (q_3, .inl (cA_4, 1585, .inl (fun _ => 0)))] H := hP
  have hD : va_D A [(h0, .inr (5, [.ref q_1, .int 0, .int 0, .null, .null, .ref q_3, .null, .int 0, .null, .null, .null, .int 0])), (q_1, .inl (cA_2, 12, .inl (fun _ => 0))), (q_3, .inl (cA_4, 1585, .inl (fun _ => 0)))] := hD
  refine lv_aload_n hx hb dX5_init_31 rfl (lv_at hl 0 rfl) ?_
  refine lv_bipush (v := 13) hx hb dX5_init_32 (by decide) ?_
  refine va_newa (atype := .int) (ty := .int) (N' := 13) (a0 := (13, .inl (fun _ => 0))) hx hb (hts _ (List.mem_cons_of_mem _ gw_14)) rfl hK hP hD hS hA (fun _ => rfl) (by decide) (by decide +kernel) (by decide) (Nat.le_of_ble_eq_true rfl) (Nat.le_of_ble_eq_true rfl) dX5_init_34 (fun q_5 cA_6 H hK hP hD hS => ?_)
  have hP : va_P D vwCl [(h0, .inr (5, [.ref q_1, .int 0, .int 0, .null, .null, .ref q_3, .null, .int 0, .null, .null, .null, .int 0])), (q_1, .inl (cA_2, 12, .inl (fun _ => 0))), (q_3, .inl (cA_4, 1585, .inl (fun _ => 0))), (q_5, .inl (cA_6, 13, .inl (fun _ => 0)))] H := hP
  have hD : va_D A [(h0, .inr (5, [.ref q_1, .int 0, .int 0, .null, .null, .ref q_3, .null, .int 0, .null, .null, .null, .int 0])), (q_1, .inl (cA_2, 12, .inl (fun _ => 0))), (q_3, .inl (cA_4, 1585, .inl (fun _ => 0))), (q_5, .inl (cA_6, 13, .inl (fun _ => 0)))] := hD
  have hK : va_K D vwCl [(cA_2, .int), (cA_4, .int), (cA_6, .int)] s := hK
  refine W.widen (k := 3) (n := 1610) (Nat.le_of_ble_eq_true rfl) (Nat.le_of_ble_eq_true rfl) ?_
  refine va_putF (D := D) (ci := 5) (v := .ref q_5) (ty := .array .int) (C := RX5) (T := TX5) (N := 12) hx hb hts (fun w h => List.mem_cons_of_mem _ (inG5 w h)) tyX5 tyX5_ok nmX5 hown hK hP hD hS 0 rfl rfl 6 (by decide) (hts _ (List.mem_cons_of_mem _ gw_100)) (fun _ h9 => h9) rfl hin rfl (by decide +kernel) rfl rfl (Nat.le_of_ble_eq_true rfl) dX5_init_36 (fun H locs hP hD hS => ?_)
  have hP : va_P D vwCl [(h0, .inr (5, [.ref q_1, .int 0, .int 0, .null, .null, .ref q_3, .ref q_5, .int 0, .null, .null, .null, .int 0])), (q_1, .inl (cA_2, 12, .inl (fun _ => 0))), (q_3, .inl (cA_4, 1585, .inl (fun _ => 0))), (q_5, .inl (cA_6, 13, .inl (fun _ => 0)))] H := hP
  have hD : va_D A [(h0, .inr (5, [.ref q_1, .int 0, .int 0, .null, .null, .ref q_3, .ref q_5, .int 0, .null, .null, .null, .int 0])), (q_1, .inl (cA_2, 12, .inl (fun _ => 0))), (q_3, .inl (cA_4, 1585, .inl (fun _ => 0))), (q_5, .inl (cA_6, 13, .inl (fun _ => 0)))] := hD
  refine lv_aload_n hx hb dX5_init_39 rfl (lv_at hl 0 rfl) ?_
  refine lv_iconst (v := 0) hx hb dX5_init_40 (by decide) ?_
  refine va_put (D := D) (ci := 5) (v := .int 0) (ty := .int) (C := RX5) (T := TX5) (N := 12) hx hb hts (fun w h => List.mem_cons_of_mem _ (inG5 w h)) tyX5 tyX5_ok nmX5 hown hK hP hD hS 0 rfl rfl 7 (by decide) (hts _ (List.mem_cons_of_mem _ gw_101)) (fun _ h9 => h9) rfl (by decide +kernel) rfl rfl (Nat.le_of_ble_eq_true rfl) dX5_init_41 (fun H locs hP hD hS => ?_)
  have hP : va_P D vwCl [(h0, .inr (5, [.ref q_1, .int 0, .int 0, .null, .null, .ref q_3, .ref q_5, .int 0, .null, .null, .null, .int 0])), (q_1, .inl (cA_2, 12, .inl (fun _ => 0))), (q_3, .inl (cA_4, 1585, .inl (fun _ => 0))), (q_5, .inl (cA_6, 13, .inl (fun _ => 0)))] H := hP
  have hD : va_D A [(h0, .inr (5, [.ref q_1, .int 0, .int 0, .null, .null, .ref q_3, .ref q_5, .int 0, .null, .null, .null, .int 0])), (q_1, .inl (cA_2, 12, .inl (fun _ => 0))), (q_3, .inl (cA_4, 1585, .inl (fun _ => 0))), (q_5, .inl (cA_6, 13, .inl (fun _ => 0)))] := hD
  refine lv_aload_n hx hb dX5_init_44 rfl (lv_at hl 0 rfl) ?_
  refine lv_sipush (v := 1585) hx hb dX5_init_45 (by decide) ?_
  refine va_newa (atype := .long) (ty := .long) (N' := 1585) (a0 := (1585, .inr (.inl (fun _ => 0)))) hx hb (hts _ (List.mem_cons_of_mem _ gw_102)) rfl hK hP hD hS hA (fun _ => rfl) (by decide) (by decide +kernel) (by decide) (Nat.le_of_ble_eq_true rfl) (Nat.le_of_ble_eq_true rfl) dX5_init_48 (fun q_7 cA_8 H hK hP hD hS => ?_)
  have hP : va_P D vwCl [(h0, .inr (5, [.ref q_1, .int 0, .int 0, .null, .null, .ref q_3, .ref q_5, .int 0, .null, .null, .null, .int 0])), (q_1, .inl (cA_2, 12, .inl (fun _ => 0))), (q_3, .inl (cA_4, 1585, .inl (fun _ => 0))), (q_5, .inl (cA_6, 13, .inl (fun _ => 0))), (q_7, .inl (cA_8, 1585, .inr (.inl (fun _ => 0))))] H := hP
  have hD : va_D A [(h0, .inr (5, [.ref q_1, .int 0, .int 0, .null, .null, .ref q_3, .ref q_5, .int 0, .null, .null, .null, .int 0])), (q_1, .inl (cA_2, 12, .inl (fun _ => 0))), (q_3, .inl (cA_4, 1585, .inl (fun _ => 0))), (q_5, .inl (cA_6, 13, .inl (fun _ => 0))), (q_7, .inl (cA_8, 1585, .inr (.inl (fun _ => 0))))] := hD
  have hK : va_K D vwCl [(cA_2, .int), (cA_4, .int), (cA_6, .int), (cA_8, .long)] s := hK
  refine W.widen (k := 4) (n := 3195) (Nat.le_of_ble_eq_true rfl) (Nat.le_of_ble_eq_true rfl) ?_
  refine va_putF (D := D) (ci := 5) (v := .ref q_7) (ty := .array .long) (C := RX5) (T := TX5) (N := 12) hx hb hts (fun w h => List.mem_cons_of_mem _ (inG5 w h)) tyX5 tyX5_ok nmX5 hown hK hP hD hS 0 rfl rfl 8 (by decide) (hts _ (List.mem_cons_of_mem _ gw_103)) (fun _ h9 => h9) rfl hin rfl (by decide +kernel) rfl rfl (Nat.le_of_ble_eq_true rfl) dX5_init_50 (fun H locs hP hD hS => ?_)
  have hP : va_P D vwCl [(h0, .inr (5, [.ref q_1, .int 0, .int 0, .null, .null, .ref q_3, .ref q_5, .int 0, .ref q_7, .null, .null, .int 0])), (q_1, .inl (cA_2, 12, .inl (fun _ => 0))), (q_3, .inl (cA_4, 1585, .inl (fun _ => 0))), (q_5, .inl (cA_6, 13, .inl (fun _ => 0))), (q_7, .inl (cA_8, 1585, .inr (.inl (fun _ => 0))))] H := hP
  have hD : va_D A [(h0, .inr (5, [.ref q_1, .int 0, .int 0, .null, .null, .ref q_3, .ref q_5, .int 0, .ref q_7, .null, .null, .int 0])), (q_1, .inl (cA_2, 12, .inl (fun _ => 0))), (q_3, .inl (cA_4, 1585, .inl (fun _ => 0))), (q_5, .inl (cA_6, 13, .inl (fun _ => 0))), (q_7, .inl (cA_8, 1585, .inr (.inl (fun _ => 0))))] := hD
  refine lv_aload_n hx hb dX5_init_53 rfl (lv_at hl 0 rfl) ?_
  refine lv_sipush (v := 4096) hx hb dX5_init_54 (by decide) ?_
  refine va_newa (atype := .long) (ty := .long) (N' := 4096) (a0 := (4096, .inr (.inl (fun _ => 0)))) hx hb (hts _ (List.mem_cons_of_mem _ gw_102)) rfl hK hP hD hS hA (fun _ => rfl) (by decide) (by decide +kernel) (by decide) (Nat.le_of_ble_eq_true rfl) (Nat.le_of_ble_eq_true rfl) dX5_init_57 (fun q_9 cA_10 H hK hP hD hS => ?_)
  have hP : va_P D vwCl [(h0, .inr (5, [.ref q_1, .int 0, .int 0, .null, .null, .ref q_3, .ref q_5, .int 0, .ref q_7, .null, .null, .int 0])), (q_1, .inl (cA_2, 12, .inl (fun _ => 0))), (q_3, .inl (cA_4, 1585, .inl (fun _ => 0))), (q_5, .inl (cA_6, 13, .inl (fun _ => 0))), (q_7, .inl (cA_8, 1585, .inr (.inl (fun _ => 0)))), (q_9, .inl (cA_10, 4096, .inr (.inl (fun _ => 0))))] H := hP
  have hD : va_D A [(h0, .inr (5, [.ref q_1, .int 0, .int 0, .null, .null, .ref q_3, .ref q_5, .int 0, .ref q_7, .null, .null, .int 0])), (q_1, .inl (cA_2, 12, .inl (fun _ => 0))), (q_3, .inl (cA_4, 1585, .inl (fun _ => 0))), (q_5, .inl (cA_6, 13, .inl (fun _ => 0))), (q_7, .inl (cA_8, 1585, .inr (.inl (fun _ => 0)))), (q_9, .inl (cA_10, 4096, .inr (.inl (fun _ => 0))))] := hD
  have hK : va_K D vwCl [(cA_2, .int), (cA_4, .int), (cA_6, .int), (cA_8, .long), (cA_10, .long)] s := hK
  refine W.widen (k := 5) (n := 7291) (Nat.le_of_ble_eq_true rfl) (Nat.le_of_ble_eq_true rfl) ?_
  refine va_putF (D := D) (ci := 5) (v := .ref q_9) (ty := .array .long) (C := RX5) (T := TX5) (N := 12) hx hb hts (fun w h => List.mem_cons_of_mem _ (inG5 w h)) tyX5 tyX5_ok nmX5 hown hK hP hD hS 0 rfl rfl 9 (by decide) (hts _ (List.mem_cons_of_mem _ gw_104)) (fun _ h9 => h9) rfl hin rfl (by decide +kernel) rfl rfl (Nat.le_of_ble_eq_true rfl) dX5_init_59 (fun H locs hP hD hS => ?_)
  have hP : va_P D vwCl [(h0, .inr (5, [.ref q_1, .int 0, .int 0, .null, .null, .ref q_3, .ref q_5, .int 0, .ref q_7, .ref q_9, .null, .int 0])), (q_1, .inl (cA_2, 12, .inl (fun _ => 0))), (q_3, .inl (cA_4, 1585, .inl (fun _ => 0))), (q_5, .inl (cA_6, 13, .inl (fun _ => 0))), (q_7, .inl (cA_8, 1585, .inr (.inl (fun _ => 0)))), (q_9, .inl (cA_10, 4096, .inr (.inl (fun _ => 0))))] H := hP
  have hD : va_D A [(h0, .inr (5, [.ref q_1, .int 0, .int 0, .null, .null, .ref q_3, .ref q_5, .int 0, .ref q_7, .ref q_9, .null, .int 0])), (q_1, .inl (cA_2, 12, .inl (fun _ => 0))), (q_3, .inl (cA_4, 1585, .inl (fun _ => 0))), (q_5, .inl (cA_6, 13, .inl (fun _ => 0))), (q_7, .inl (cA_8, 1585, .inr (.inl (fun _ => 0)))), (q_9, .inl (cA_10, 4096, .inr (.inl (fun _ => 0))))] := hD
  refine lv_aload_n hx hb dX5_init_62 rfl (lv_at hl 0 rfl) ?_
  refine lv_sipush (v := 4096) hx hb dX5_init_63 (by decide) ?_
  refine va_newa (atype := .int) (ty := .int) (N' := 4096) (a0 := (4096, .inl (fun _ => 0))) hx hb (hts _ (List.mem_cons_of_mem _ gw_14)) rfl hK hP hD hS hA (fun _ => rfl) (by decide) (by decide +kernel) (by decide) (Nat.le_of_ble_eq_true rfl) (Nat.le_of_ble_eq_true rfl) dX5_init_66 (fun q_11 cA_12 H hK hP hD hS => ?_)
  have hP : va_P D vwCl [(h0, .inr (5, [.ref q_1, .int 0, .int 0, .null, .null, .ref q_3, .ref q_5, .int 0, .ref q_7, .ref q_9, .null, .int 0])), (q_1, .inl (cA_2, 12, .inl (fun _ => 0))), (q_3, .inl (cA_4, 1585, .inl (fun _ => 0))), (q_5, .inl (cA_6, 13, .inl (fun _ => 0))), (q_7, .inl (cA_8, 1585, .inr (.inl (fun _ => 0)))), (q_9, .inl (cA_10, 4096, .inr (.inl (fun _ => 0)))), (q_11, .inl (cA_12, 4096, .inl (fun _ => 0)))] H := hP
  have hD : va_D A [(h0, .inr (5, [.ref q_1, .int 0, .int 0, .null, .null, .ref q_3, .ref q_5, .int 0, .ref q_7, .ref q_9, .null, .int 0])), (q_1, .inl (cA_2, 12, .inl (fun _ => 0))), (q_3, .inl (cA_4, 1585, .inl (fun _ => 0))), (q_5, .inl (cA_6, 13, .inl (fun _ => 0))), (q_7, .inl (cA_8, 1585, .inr (.inl (fun _ => 0)))), (q_9, .inl (cA_10, 4096, .inr (.inl (fun _ => 0)))), (q_11, .inl (cA_12, 4096, .inl (fun _ => 0)))] := hD
  have hK : va_K D vwCl [(cA_2, .int), (cA_4, .int), (cA_6, .int), (cA_8, .long), (cA_10, .long), (cA_12, .int)] s := hK
  refine W.widen (k := 6) (n := 11387) (Nat.le_of_ble_eq_true rfl) (Nat.le_of_ble_eq_true rfl) ?_
  refine va_putF (D := D) (ci := 5) (v := .ref q_11) (ty := .array .int) (C := RX5) (T := TX5) (N := 12) hx hb hts (fun w h => List.mem_cons_of_mem _ (inG5 w h)) tyX5 tyX5_ok nmX5 hown hK hP hD hS 0 rfl rfl 10 (by decide) (hts _ (List.mem_cons_of_mem _ gw_105)) (fun _ h9 => h9) rfl hin rfl (by decide +kernel) rfl rfl (Nat.le_of_ble_eq_true rfl) dX5_init_68 (fun H locs hP hD hS => ?_)
  have hP : va_P D vwCl [(h0, .inr (5, [.ref q_1, .int 0, .int 0, .null, .null, .ref q_3, .ref q_5, .int 0, .ref q_7, .ref q_9, .ref q_11, .int 0])), (q_1, .inl (cA_2, 12, .inl (fun _ => 0))), (q_3, .inl (cA_4, 1585, .inl (fun _ => 0))), (q_5, .inl (cA_6, 13, .inl (fun _ => 0))), (q_7, .inl (cA_8, 1585, .inr (.inl (fun _ => 0)))), (q_9, .inl (cA_10, 4096, .inr (.inl (fun _ => 0)))), (q_11, .inl (cA_12, 4096, .inl (fun _ => 0)))] H := hP
  have hD : va_D A [(h0, .inr (5, [.ref q_1, .int 0, .int 0, .null, .null, .ref q_3, .ref q_5, .int 0, .ref q_7, .ref q_9, .ref q_11, .int 0])), (q_1, .inl (cA_2, 12, .inl (fun _ => 0))), (q_3, .inl (cA_4, 1585, .inl (fun _ => 0))), (q_5, .inl (cA_6, 13, .inl (fun _ => 0))), (q_7, .inl (cA_8, 1585, .inr (.inl (fun _ => 0)))), (q_9, .inl (cA_10, 4096, .inr (.inl (fun _ => 0)))), (q_11, .inl (cA_12, 4096, .inl (fun _ => 0)))] := hD
  refine lv_aload_n hx hb dX5_init_71 rfl (lv_at hl 0 rfl) ?_
  refine lv_iconst (v := 0) hx hb dX5_init_72 (by decide) ?_
  refine va_put (D := D) (ci := 5) (v := .int 0) (ty := .int) (C := RX5) (T := TX5) (N := 12) hx hb hts (fun w h => List.mem_cons_of_mem _ (inG5 w h)) tyX5 tyX5_ok nmX5 hown hK hP hD hS 0 rfl rfl 11 (by decide) (hts _ (List.mem_cons_of_mem _ gw_106)) (fun _ h9 => h9) rfl (by decide +kernel) rfl rfl (Nat.le_of_ble_eq_true rfl) dX5_init_73 (fun H locs hP hD hS => ?_)
  have hP : va_P D vwCl [(h0, .inr (5, [.ref q_1, .int 0, .int 0, .null, .null, .ref q_3, .ref q_5, .int 0, .ref q_7, .ref q_9, .ref q_11, .int 0])), (q_1, .inl (cA_2, 12, .inl (fun _ => 0))), (q_3, .inl (cA_4, 1585, .inl (fun _ => 0))), (q_5, .inl (cA_6, 13, .inl (fun _ => 0))), (q_7, .inl (cA_8, 1585, .inr (.inl (fun _ => 0)))), (q_9, .inl (cA_10, 4096, .inr (.inl (fun _ => 0)))), (q_11, .inl (cA_12, 4096, .inl (fun _ => 0)))] H := hP
  have hD : va_D A [(h0, .inr (5, [.ref q_1, .int 0, .int 0, .null, .null, .ref q_3, .ref q_5, .int 0, .ref q_7, .ref q_9, .ref q_11, .int 0])), (q_1, .inl (cA_2, 12, .inl (fun _ => 0))), (q_3, .inl (cA_4, 1585, .inl (fun _ => 0))), (q_5, .inl (cA_6, 13, .inl (fun _ => 0))), (q_7, .inl (cA_8, 1585, .inr (.inl (fun _ => 0)))), (q_9, .inl (cA_10, 4096, .inr (.inl (fun _ => 0)))), (q_11, .inl (cA_12, 4096, .inl (fun _ => 0)))] := hD
  refine lv_aload_n hx hb dX5_init_76 rfl (lv_at hl 0 rfl) ?_
  refine lv_aload_n hx hb dX5_init_77 rfl (lv_at hl 1 rfl) ?_
  refine va_putF (D := D) (ci := 5) (v := .ref qr) (ty := .object "OddShoes$Rings") (C := RX5) (T := TX5) (N := 12) hx hb hts (fun w h => List.mem_cons_of_mem _ (inG5 w h)) tyX5 tyX5_ok nmX5 hown hK hP hD hS 0 rfl rfl 3 (by decide) (hts _ (List.mem_cons_of_mem _ gw_107)) (fun _ h9 => h9) rfl hin rfl (by decide +kernel) rfl rfl (Nat.le_of_ble_eq_true rfl) dX5_init_78 (fun H locs hP hD hS => ?_)
  have hP : va_P D vwCl [(h0, .inr (5, [.ref q_1, .int 0, .int 0, .ref qr, .null, .ref q_3, .ref q_5, .int 0, .ref q_7, .ref q_9, .ref q_11, .int 0])), (q_1, .inl (cA_2, 12, .inl (fun _ => 0))), (q_3, .inl (cA_4, 1585, .inl (fun _ => 0))), (q_5, .inl (cA_6, 13, .inl (fun _ => 0))), (q_7, .inl (cA_8, 1585, .inr (.inl (fun _ => 0)))), (q_9, .inl (cA_10, 4096, .inr (.inl (fun _ => 0)))), (q_11, .inl (cA_12, 4096, .inl (fun _ => 0)))] H := hP
  have hD : va_D A [(h0, .inr (5, [.ref q_1, .int 0, .int 0, .ref qr, .null, .ref q_3, .ref q_5, .int 0, .ref q_7, .ref q_9, .ref q_11, .int 0])), (q_1, .inl (cA_2, 12, .inl (fun _ => 0))), (q_3, .inl (cA_4, 1585, .inl (fun _ => 0))), (q_5, .inl (cA_6, 13, .inl (fun _ => 0))), (q_7, .inl (cA_8, 1585, .inr (.inl (fun _ => 0)))), (q_9, .inl (cA_10, 4096, .inr (.inl (fun _ => 0)))), (q_11, .inl (cA_12, 4096, .inl (fun _ => 0)))] := hD
  refine lv_aload_n hx hb dX5_init_81 rfl (lv_at hl 0 rfl) ?_
  refine lv_aload_n hx hb dX5_init_82 rfl (lv_at hl 2 rfl) ?_
  refine va_putF (D := D) (ci := 5) (v := .ref qo) (ty := .object "OddShoes$Offers") (C := RX5) (T := TX5) (N := 12) hx hb hts (fun w h => List.mem_cons_of_mem _ (inG5 w h)) tyX5 tyX5_ok nmX5 hown hK hP hD hS 0 rfl rfl 4 (by decide) (hts _ (List.mem_cons_of_mem _ gw_108)) (fun _ h9 => h9) rfl hin rfl (by decide +kernel) rfl rfl (Nat.le_of_ble_eq_true rfl) dX5_init_83 (fun H locs hP hD hS => ?_)
  have hP : va_P D vwCl [(h0, .inr (5, [.ref q_1, .int 0, .int 0, .ref qr, .ref qo, .ref q_3, .ref q_5, .int 0, .ref q_7, .ref q_9, .ref q_11, .int 0])), (q_1, .inl (cA_2, 12, .inl (fun _ => 0))), (q_3, .inl (cA_4, 1585, .inl (fun _ => 0))), (q_5, .inl (cA_6, 13, .inl (fun _ => 0))), (q_7, .inl (cA_8, 1585, .inr (.inl (fun _ => 0)))), (q_9, .inl (cA_10, 4096, .inr (.inl (fun _ => 0)))), (q_11, .inl (cA_12, 4096, .inl (fun _ => 0)))] H := hP
  have hD : va_D A [(h0, .inr (5, [.ref q_1, .int 0, .int 0, .ref qr, .ref qo, .ref q_3, .ref q_5, .int 0, .ref q_7, .ref q_9, .ref q_11, .int 0])), (q_1, .inl (cA_2, 12, .inl (fun _ => 0))), (q_3, .inl (cA_4, 1585, .inl (fun _ => 0))), (q_5, .inl (cA_6, 13, .inl (fun _ => 0))), (q_7, .inl (cA_8, 1585, .inr (.inl (fun _ => 0)))), (q_9, .inl (cA_10, 4096, .inr (.inl (fun _ => 0)))), (q_11, .inl (cA_12, 4096, .inl (fun _ => 0)))] := hD
  have hP9 := hP.sub (ws' := [(h0, .inr (5, [.ref q_1, .int 0, .int 0, .ref qr, .ref qo, .ref q_3, .ref q_5, .int 0, .ref q_7, .ref q_9, .ref q_11, .int 0])), (q_5, .inl (cA_6, 13, .inl (fun _ => 0)))]) [0, 3] rfl
  have hD9 := hD.sub (ws' := [(h0, .inr (5, [.ref q_1, .int 0, .int 0, .ref qr, .ref qo, .ref q_3, .ref q_5, .int 0, .ref q_7, .ref q_9, .ref q_11, .int 0])), (q_5, .inl (cA_6, 13, .inl (fun _ => 0)))]) [0, 3] (by decide) rfl
  have hK9 := hK.sub (tys' := [(cA_6, .int)]) [2] rfl
  refine W.widen (k := 6) (n := 11387) (Nat.le_of_ble_eq_true rfl) (Nat.le_of_ble_eq_true rfl) ?_
  exact W.vret hx hb hr (fun t ht hW => ⟨⟨(q_1, q_3, q_5, q_7, q_9, q_11, cA_6), rfl, (by first | trivial | rfl), by rw [ht]; exact hP9, va_K.moved hW.alike hK9, hD9⟩, hS.F ht⟩) hS.2.2 dX5_init_86
set_option maxHeartbeats 4000000 in
set_option maxRecDepth 100000 in
theorem c_X5_pick (l : Launch) (D : va_G) (sz : Nat) (h0 : Nat) (t0 : Value) (qr : Nat) (t4 : Value) (t5 : Value) (qf : Nat) (t8 : Value) (t9 : Value) (t10 : Value) (y1 : Int32) (y2 : Int32) (y11 : Int32) : Met l yX5_pick (.code yX5_pick cX5_pick 4 none :: G) ({ frames := 2, cells := 0, slots := 0, locals := 40 }) (va_Pc [.ref h0] (pw D sz [(h0, .inr (5, [t0, .int y1, .int y2, .ref qr, t4, t5, .ref qf, .int 0, t8, t9, t10, .int y11]))] [])) (va_Qv (fun (u : Unit) => True) (fun (u : Unit) => qw D (va_A [(h0, .inr (5, [t0, .int y1, .int y2, .ref qr, t4, t5, .ref qf, .int 0, t8, t9, t10, .int y11]))] sz) [(h0, .inr (5, [t0, .int 0, .int 0, .ref qr, t4, t5, .ref qf, .int 0, t8, t9, t10, .int y11]))] []) (va_A [(h0, .inr (5, [t0, .int y1, .int y2, .ref qr, t4, t5, .ref qf, .int 0, t8, t9, t10, .int y11]))] sz)) 0 0 (va_A [(h0, .inr (5, [t0, .int y1, .int y2, .ref qr, t4, t5, .ref qf, .int 0, t8, t9, t10, .int y11]))] sz) := by
  refine Met.ofW (cc := cX5_pick) (maxL := 4) (ret := none) (by decide) rfl ?_
  intro p e s m args below meth c s₁ B hml hv
  obtain ⟨rfl, hsz, hP, hK, hD0, hN⟩ := hv
  have hx := B.exec
  have hb := B.bytes
  have hr := B.returns
  have hts := atoms_spec (ws := (.code yX5_pick cX5_pick 4 none :: G)) B.pre
  have hown : s.vm.findClass RX5 = some m.cls := findClass_of_methodNamed B.named
  have hlocks := B.notSynchronized
  subst hsz
  have hD := hD0.self (sz := s.heap.size)
  generalize hAe : va_A [(h0, .inr (5, [t0, .int y1, .int y2, .ref qr, t4, t5, .ref qf, .int 0, t8, t9, t10, .int y11]))] s.heap.size = A at hD ⊢
  have hA : ∀ q : Nat, s.heap.size ≤ q → A q := fun q h => by rw [← hAe]; exact Or.inr h
  have hS : va_S A s.heap s.heap [] := va_S.rf
  have hP : va_P D vwCl [(h0, .inr (5, [t0, .int y1, .int y2, .ref qr, t4, t5, .ref qf, .int 0, t8, t9, t10, .int y11]))] s.heap := hP
  have hl := lv_entry ([.ref h0]) (n := 4) (Nat.le_of_ble_eq_true rfl)
  rw [lg_entry_eq]
  generalize (lg_sl ([.ref h0]) ++ List.replicate (4 - (lg_sl ([.ref h0])).length) Slot.unset).toArray = ls at hl ⊢
  have hl : lv_has ls 4 [(0, .ref h0)] := hl
  refine lv_iconst (v := 0) hx hb dX5_pick_0 (by decide) ?_
  refine lv_istore_n (lv' := [(1, .int 0), (0, .ref h0)]) hx hb dX5_pick_1 rfl hl (by decide) rfl (fun ls hl => ?_)
  refine lv_iconst (v := 0) hx hb dX5_pick_2 (by decide) ?_
  refine lv_istore_n (lv' := [(2, .int 0), (1, .int 0), (0, .ref h0)]) hx hb dX5_pick_3 rfl hl (by decide) rfl (fun ls hl => ?_)
  refine lv_iload_n hx hb dX5_pick_4 rfl (lv_at hl 0 rfl) ?_
  refine lv_aload_n hx hb dX5_pick_5 rfl (lv_at hl 2 rfl) ?_
  refine va_get (D := D) (ci := 5) (v := .int 0) (C := RX5) (T := TX5) (N := 12) hx hb hts (fun w h => List.mem_cons_of_mem _ (inG5 w h)) hown hK hP 0 rfl rfl 7 (by decide) (hts _ (List.mem_cons_of_mem _ gw_101)) (fun _ h9 => h9) rfl dX5_pick_6 ?_
  refine lv_icmp_ge (tgt := 27) hx hb dX5_pick_9 (by decide) (fun c_1 => ?_) (fun c_1 => absurd (by decide) c_1)
  refine lv_aload_n hx hb dX5_pick_27 rfl (lv_at hl 2 rfl) ?_
  refine lv_iconst (v := 0) hx hb dX5_pick_28 (by decide) ?_
  refine va_put (D := D) (ci := 5) (v := .int 0) (ty := .int) (C := RX5) (T := TX5) (N := 12) hx hb hts (fun w h => List.mem_cons_of_mem _ (inG5 w h)) tyX5 tyX5_ok nmX5 hown hK hP hD hS 0 rfl rfl 2 (by decide) (hts _ (List.mem_cons_of_mem _ gw_98)) (fun _ h9 => h9) rfl (by decide +kernel) rfl rfl (Nat.le_of_ble_eq_true rfl) dX5_pick_29 (fun H locs hP hD hS => ?_)
  have hP : va_P D vwCl [(h0, .inr (5, [t0, .int y1, .int 0, .ref qr, t4, t5, .ref qf, .int 0, t8, t9, t10, .int y11]))] H := hP
  have hD : va_D A [(h0, .inr (5, [t0, .int y1, .int 0, .ref qr, t4, t5, .ref qf, .int 0, t8, t9, t10, .int y11]))] := hD
  refine lv_aload_n hx hb dX5_pick_32 rfl (lv_at hl 2 rfl) ?_
  refine lv_iconst (v := 0) hx hb dX5_pick_33 (by decide) ?_
  refine va_put (D := D) (ci := 5) (v := .int 0) (ty := .int) (C := RX5) (T := TX5) (N := 12) hx hb hts (fun w h => List.mem_cons_of_mem _ (inG5 w h)) tyX5 tyX5_ok nmX5 hown hK hP hD hS 0 rfl rfl 1 (by decide) (hts _ (List.mem_cons_of_mem _ gw_97)) (fun _ h9 => h9) rfl (by decide +kernel) rfl rfl (Nat.le_of_ble_eq_true rfl) dX5_pick_34 (fun H locs hP hD hS => ?_)
  have hP : va_P D vwCl [(h0, .inr (5, [t0, .int 0, .int 0, .ref qr, t4, t5, .ref qf, .int 0, t8, t9, t10, .int y11]))] H := hP
  have hD : va_D A [(h0, .inr (5, [t0, .int 0, .int 0, .ref qr, t4, t5, .ref qf, .int 0, t8, t9, t10, .int y11]))] := hD
  refine lv_iconst (v := 0) hx hb dX5_pick_37 (by decide) ?_
  refine lv_istore_n (lv' := [(2, .int 0), (1, .int 0), (0, .ref h0)]) hx hb dX5_pick_38 rfl hl (by decide) rfl (fun ls hl => ?_)
  have lp39 : ∀ (n i2 : Nat) (H : Heap) (locs : List Loc) (ls : Array Slot), i2 ≤ 12 → 12 < i2 + n → va_P D vwCl [(h0, .inr (5, [t0, .int 0, .int 0, .ref qr, t4, t5, .ref qf, .int 0, t8, t9, t10, .int y11]))] H → va_D A [(h0, .inr (5, [t0, .int 0, .int 0, .ref qr, t4, t5, .ref qf, .int 0, t8, t9, t10, .int y11]))] → va_S A s.heap H locs → lv_has ls 4 [(2, .int (nI i2)), (1, .int 0), (0, .ref h0)] → W p l e ({ frames := 2, cells := 0, slots := 0, locals := 40 } : Room) s m (([.ref h0] : List Value).toArray) below meth c H locs 0 0 (MQ below (va_Qv (fun (u : Unit) => True) (fun (u : Unit) => qw D A [(h0, .inr (5, [t0, .int 0, .int 0, .ref qr, t4, t5, .ref qf, .int 0, t8, t9, t10, .int y11]))] []) A) (([.ref h0] : List Value).toArray) s 0 0 A) (F0 m 39 ls []) := by
    intro n
    induction n with
    | zero => intro i2 H locs ls hi hn; exact absurd hn (by omega)
    | succ n ih39 =>
      intro i2 H locs ls hi_2 hn_3 hP hD hS hl
      refine lv_iload_n hx hb dX5_pick_39 rfl (lv_at hl 0 rfl) ?_
      refine lv_bipush (v := 12) hx hb dX5_pick_40 (by decide) ?_
      refine lv_icmp_ge (tgt := 110) hx hb dX5_pick_42 (by decide) (fun c_5 => ?_) (fun c_5 => ?_)
      · skip
        have hc_5 := ge_of (i := i2) 12 c_5 rfl (by omega) (by omega)
        have hP9 := hP.sub (ws' := [(h0, .inr (5, [t0, .int 0, .int 0, .ref qr, t4, t5, .ref qf, .int 0, t8, t9, t10, .int y11]))]) [0] rfl
        have hD9 := hD.sub (ws' := [(h0, .inr (5, [t0, .int 0, .int 0, .ref qr, t4, t5, .ref qf, .int 0, t8, t9, t10, .int y11]))]) [0] (by decide) rfl
        have hK9 := hK.sub (tys' := []) [] rfl
        refine W.widen (k := 0) (n := 0) (Nat.le_of_ble_eq_true rfl) (Nat.le_of_ble_eq_true rfl) ?_
        exact W.vret hx hb hr (fun t ht hW => ⟨⟨(), rfl, (by first | trivial | rfl), by rw [ht]; exact hP9, va_K.moved hW.alike hK9, hD9⟩, hS.F ht⟩) hS.2.2 dX5_pick_110
      · skip
        have hc_5 := lt_of (i := i2) 12 c_5 rfl (by omega)
        refine lv_iload_n hx hb dX5_pick_45 rfl (lv_at hl 1 rfl) ?_
        refine lv_iload_n hx hb dX5_pick_46 rfl (lv_at hl 0 rfl) ?_
        refine lv_ishr hx hb dX5_pick_47 ?_
        refine lv_iconst (v := 1) hx hb dX5_pick_48 (by decide) ?_
        refine lv_iand hx hb dX5_pick_49 ?_
        refine lv_if_eq (tgt := 104) hx hb dX5_pick_50 (by decide) (fun c_6 => ?_) (fun c_6 => absurd (pick0 i2 (by omega)) c_6)
        refine lv_iinc (v := (nI (i2 + 1))) (lv' := [(2, .int (nI (i2 + 1))), (1, .int 0), (0, .ref h0)]) hx hb dX5_pick_104 hl (k := 0) rfl (nI_1 _) (by decide) rfl (fun ls hl => ?_)
        refine lv_goto (tgt := 39) hx hb dX5_pick_107 (by decide) ?_
        exact ih39 (i2 + 1) _ _ _ (by omega) (by omega) (hP.sub [0] rfl) (hD.sub [0] (by decide) rfl) hS (lv_sub hl [0, 1, 2] rfl)
  exact lp39 (12 + 1) 0 _ _ _ (by omega) (by omega) hP hD hS (lv_sub hl [0, 1, 2] rfl)
set_option maxHeartbeats 4000000 in
set_option maxRecDepth 100000 in
theorem c_X5_choose (l : Launch) (D : va_G) (sz : Nat) (h0 : Nat) (t0 : Value) (qr : Nat) (t4 : Value) (t5 : Value) (qf : Nat) (t8 : Value) (t9 : Value) (t10 : Value) (y1 : Int32) (y2 : Int32) (y7 : Int32) (y11 : Int32) (kf : ClassId) (ff : Nat → Int32) (fs : List Value) (hf6 : fs[6]? = some (.int 0)) : Met l yX5_choose (.code yX5_choose cX5_choose 2 none :: G) ({ frames := 4, cells := 0, slots := 0, locals := 69 }) (va_Pc [.ref h0] (pw D sz [(h0, .inr (5, [t0, .int y1, .int y2, .ref qr, t4, t5, .ref qf, .int y7, t8, t9, t10, .int y11])), (qf, .inl (kf, 13, .inl ff)), (qr, .inr (6, fs))] [(kf, .int)])) (va_Qv (fun (u : (Nat → Int32) × (Int32)) => True) (fun (u : (Nat → Int32) × (Int32)) => qw D (va_A [(h0, .inr (5, [t0, .int y1, .int y2, .ref qr, t4, t5, .ref qf, .int y7, t8, t9, t10, .int y11])), (qf, .inl (kf, 13, .inl ff)), (qr, .inr (6, fs))] sz) [(h0, .inr (5, [t0, .int 0, .int 0, .ref qr, t4, t5, .ref qf, .int 0, t8, t9, t10, .int u.2])), (qf, .inl (kf, 13, .inl u.1)), (qr, .inr (6, fs))] []) (va_A [(h0, .inr (5, [t0, .int y1, .int y2, .ref qr, t4, t5, .ref qf, .int y7, t8, t9, t10, .int y11])), (qf, .inl (kf, 13, .inl ff)), (qr, .inr (6, fs))] sz)) 0 0 (va_A [(h0, .inr (5, [t0, .int y1, .int y2, .ref qr, t4, t5, .ref qf, .int y7, t8, t9, t10, .int y11])), (qf, .inl (kf, 13, .inl ff)), (qr, .inr (6, fs))] sz) := by
  refine Met.ofW (cc := cX5_choose) (maxL := 2) (ret := none) (by decide) rfl ?_
  intro p e s m args below meth c s₁ B hml hv
  obtain ⟨rfl, hsz, hP, hK, hD0, hN⟩ := hv
  have hx := B.exec
  have hb := B.bytes
  have hr := B.returns
  have hts := atoms_spec (ws := (.code yX5_choose cX5_choose 2 none :: G)) B.pre
  have hown : s.vm.findClass RX5 = some m.cls := findClass_of_methodNamed B.named
  have hlocks := B.notSynchronized
  subst hsz
  have hD := hD0.self (sz := s.heap.size)
  generalize hAe : va_A [(h0, .inr (5, [t0, .int y1, .int y2, .ref qr, t4, t5, .ref qf, .int y7, t8, t9, t10, .int y11])), (qf, .inl (kf, 13, .inl ff)), (qr, .inr (6, fs))] s.heap.size = A at hD ⊢
  have hA : ∀ q : Nat, s.heap.size ≤ q → A q := fun q h => by rw [← hAe]; exact Or.inr h
  have hS : va_S A s.heap s.heap [] := va_S.rf
  have hP : va_P D vwCl [(h0, .inr (5, [t0, .int y1, .int y2, .ref qr, t4, t5, .ref qf, .int y7, t8, t9, t10, .int y11])), (qf, .inl (kf, 13, .inl ff)), (qr, .inr (6, fs))] s.heap := hP
  have hl := lv_entry ([.ref h0]) (n := 2) (Nat.le_of_ble_eq_true rfl)
  rw [lg_entry_eq]
  generalize (lg_sl ([.ref h0]) ++ List.replicate (2 - (lg_sl ([.ref h0])).length) Slot.unset).toArray = ls at hl ⊢
  have hl : lv_has ls 2 [(0, .ref h0)] := hl
  refine lv_aload_n hx hb dX5_choose_0 rfl (lv_at hl 0 rfl) ?_
  refine lv_dup hx hb dX5_choose_1 rfl ?_
  refine va_get (D := D) (ci := 5) (v := .int y11) (C := RX5) (T := TX5) (N := 12) hx hb hts (fun w h => List.mem_cons_of_mem _ (inG5 w h)) hown hK hP 0 rfl rfl 11 (by decide) (hts _ (List.mem_cons_of_mem _ gw_106)) (fun _ h9 => h9) rfl dX5_choose_2 ?_
  refine lv_iconst (v := 1) hx hb dX5_choose_5 (by decide) ?_
  refine lv_iadd hx hb dX5_choose_6 ?_
  refine va_put (D := D) (ci := 5) (v := .int (y11 + 1)) (ty := .int) (C := RX5) (T := TX5) (N := 12) hx hb hts (fun w h => List.mem_cons_of_mem _ (inG5 w h)) tyX5 tyX5_ok nmX5 hown hK hP hD hS 0 rfl rfl 11 (by decide) (hts _ (List.mem_cons_of_mem _ gw_106)) (fun _ h9 => h9) rfl (by decide +kernel) rfl rfl (Nat.le_of_ble_eq_true rfl) dX5_choose_7 (fun H locs hP hD hS => ?_)
  have hP : va_P D vwCl [(h0, .inr (5, [t0, .int y1, .int y2, .ref qr, t4, t5, .ref qf, .int y7, t8, t9, t10, .int (y11 + 1)])), (qf, .inl (kf, 13, .inl ff)), (qr, .inr (6, fs))] H := hP
  have hD : va_D A [(h0, .inr (5, [t0, .int y1, .int y2, .ref qr, t4, t5, .ref qf, .int y7, t8, t9, t10, .int (y11 + 1)])), (qf, .inl (kf, 13, .inl ff)), (qr, .inr (6, fs))] := hD
  refine lv_aload_n hx hb dX5_choose_10 rfl (lv_at hl 0 rfl) ?_
  refine lv_iconst (v := 0) hx hb dX5_choose_11 (by decide) ?_
  refine va_put (D := D) (ci := 5) (v := .int 0) (ty := .int) (C := RX5) (T := TX5) (N := 12) hx hb hts (fun w h => List.mem_cons_of_mem _ (inG5 w h)) tyX5 tyX5_ok nmX5 hown hK hP hD hS 0 rfl rfl 7 (by decide) (hts _ (List.mem_cons_of_mem _ gw_101)) (fun _ h9 => h9) rfl (by decide +kernel) rfl rfl (Nat.le_of_ble_eq_true rfl) dX5_choose_12 (fun H locs hP hD hS => ?_)
  have hP : va_P D vwCl [(h0, .inr (5, [t0, .int y1, .int y2, .ref qr, t4, t5, .ref qf, .int 0, t8, t9, t10, .int (y11 + 1)])), (qf, .inl (kf, 13, .inl ff)), (qr, .inr (6, fs))] H := hP
  have hD : va_D A [(h0, .inr (5, [t0, .int y1, .int y2, .ref qr, t4, t5, .ref qf, .int 0, t8, t9, t10, .int (y11 + 1)])), (qf, .inl (kf, 13, .inl ff)), (qr, .inr (6, fs))] := hD
  refine lv_iconst (v := 0) hx hb dX5_choose_15 (by decide) ?_
  refine lv_istore_n (lv' := [(1, .int 0), (0, .ref h0)]) hx hb dX5_choose_16 rfl hl (by decide) rfl (fun ls hl => ?_)
  have lp17 : ∀ (n i1 : Nat) (f_1 : Nat → Int32) (H : Heap) (locs : List Loc) (ls : Array Slot), i1 ≤ 12 → 12 < i1 + n → va_P D vwCl [(h0, .inr (5, [t0, .int y1, .int y2, .ref qr, t4, t5, .ref qf, .int 0, t8, t9, t10, .int (y11 + 1)])), (qf, .inl (kf, 13, .inl f_1)), (qr, .inr (6, fs))] H → va_D A [(h0, .inr (5, [t0, .int y1, .int y2, .ref qr, t4, t5, .ref qf, .int 0, t8, t9, t10, .int (y11 + 1)])), (qf, .inl (kf, 13, .inl f_1)), (qr, .inr (6, fs))] → va_S A s.heap H locs → lv_has ls 2 [(1, .int (nI i1)), (0, .ref h0)] → W p l e ({ frames := 4, cells := 0, slots := 0, locals := 69 } : Room) s m (([.ref h0] : List Value).toArray) below meth c H locs 0 0 (MQ below (va_Qv (fun (u : (Nat → Int32) × (Int32)) => True) (fun (u : (Nat → Int32) × (Int32)) => qw D A [(h0, .inr (5, [t0, .int 0, .int 0, .ref qr, t4, t5, .ref qf, .int 0, t8, t9, t10, .int u.2])), (qf, .inl (kf, 13, .inl u.1)), (qr, .inr (6, fs))] []) A) (([.ref h0] : List Value).toArray) s 0 0 A) (F0 m 17 ls []) := by
    intro n
    induction n with
    | zero => intro i1 f_1 H locs ls hi hn; exact absurd hn (by omega)
    | succ n ih17 =>
      intro i1 f_1 H locs ls hi_2 hn_3 hP hD hS hl
      refine lv_iload_n hx hb dX5_choose_17 rfl (lv_at hl 0 rfl) ?_
      refine lv_bipush (v := 12) hx hb dX5_choose_18 (by decide) ?_
      refine lv_icmp_ge (tgt := 62) hx hb dX5_choose_20 (by decide) (fun c_5 => ?_) (fun c_5 => ?_)
      · skip
        have hc_5 := ge_of (i := i1) 12 c_5 rfl (by omega) (by omega)
        refine lv_aload_n hx hb dX5_choose_62 rfl (lv_at hl 1 rfl) ?_
        refine va_get (D := D) (ci := 5) (v := .ref qf) (C := RX5) (T := TX5) (N := 12) hx hb hts (fun w h => List.mem_cons_of_mem _ (inG5 w h)) hown hK hP 0 rfl rfl 6 (by decide) (hts _ (List.mem_cons_of_mem _ gw_100)) (fun _ h9 => h9) rfl dX5_choose_63 ?_
        refine lv_bipush (v := 12) hx hb dX5_choose_66 (by decide) ?_
        refine lv_aload_n hx hb dX5_choose_68 rfl (lv_at hl 1 rfl) ?_
        refine va_get (D := D) (ci := 5) (v := .int 0) (C := RX5) (T := TX5) (N := 12) hx hb hts (fun w h => List.mem_cons_of_mem _ (inG5 w h)) hown hK hP 0 rfl rfl 7 (by decide) (hts _ (List.mem_cons_of_mem _ gw_101)) (fun _ h9 => h9) rfl dX5_choose_69 ?_
        refine va_iast hx hb hK hP hD hS 1 0 rfl rfl (vp_in_nI (n := 12) (N := 13) (by omega) (by omega)) dX5_choose_72 (fun H locs hP hD hS => ?_)
        obtain ⟨f_6, hP, hD⟩ : ∃ f : Nat → Int32, va_P D vwCl [(h0, .inr (5, [t0, .int y1, .int y2, .ref qr, t4, t5, .ref qf, .int 0, t8, t9, t10, .int (y11 + 1)])), (qf, .inl (kf, 13, .inl f)), (qr, .inr (6, fs))] H ∧ va_D A [(h0, .inr (5, [t0, .int y1, .int y2, .ref qr, t4, t5, .ref qf, .int 0, t8, t9, t10, .int (y11 + 1)])), (qf, .inl (kf, 13, .inl f)), (qr, .inr (6, fs))] := ⟨_, hP, hD⟩
        refine lv_aload_n hx hb dX5_choose_73 rfl (lv_at hl 1 rfl) ?_
        refine fr_v (wr := [(qf, .inl (kf, 13, .inl f_6)), (qr, .inr (6, fs))]) (va_runV (As := []) (rest := []) ⟨hx, hb, hml, hown, hts⟩ (c_X5_pick l D H.size h0 t0 qr t4 t5 qf t8 t9 t10 y1 y2 (y11 + 1) ) (cwV 0 hts (gV (fun w h => List.mem_cons_of_mem _ h) gw_110 gw_111 gw_112 gw_113 gw_109) rfl rfl rfl (by decide +kernel) ⟨Nat.le_of_ble_eq_true rfl, Nat.le_of_ble_eq_true rfl⟩) (pw_V [0] [] hP hD hK hN rfl rfl (by decide) rfl (ci := 5) (q0 := 0) rfl rfl) rfl rfl hl.1 rfl (lv_room (Nat.le_of_ble_eq_true rfl)) dX5_choose_74 ⟨Nat.le_of_ble_eq_true rfl, Nat.le_of_ble_eq_true rfl⟩) hP hD hK hS hA [0] [1, 2] rfl rfl (by decide) (by decide) (fun u_7 H locs hw_9 hP hD hK hS => ?_)
        try dsimp only at hw_9
        have hP : va_P D vwCl [(qf, .inl (kf, 13, .inl f_6)), (qr, .inr (6, fs)), (h0, .inr (5, [t0, .int 0, .int 0, .ref qr, t4, t5, .ref qf, .int 0, t8, t9, t10, .int (y11 + 1)]))] H := hP
        have hD : va_D A [(qf, .inl (kf, 13, .inl f_6)), (qr, .inr (6, fs)), (h0, .inr (5, [t0, .int 0, .int 0, .ref qr, t4, t5, .ref qf, .int 0, t8, t9, t10, .int (y11 + 1)]))] := hD
        have hK : va_K D vwCl [(kf, .int)] s := hK
        refine W.widen (k := 0) (n := 0) (Nat.le_of_ble_eq_true rfl) (Nat.le_of_ble_eq_true rfl) ?_
        have hP9 := hP.sub (ws' := [(h0, .inr (5, [t0, .int 0, .int 0, .ref qr, t4, t5, .ref qf, .int 0, t8, t9, t10, .int (y11 + 1)])), (qf, .inl (kf, 13, .inl f_6)), (qr, .inr (6, fs))]) [2, 0, 1] rfl
        have hD9 := hD.sub (ws' := [(h0, .inr (5, [t0, .int 0, .int 0, .ref qr, t4, t5, .ref qf, .int 0, t8, t9, t10, .int (y11 + 1)])), (qf, .inl (kf, 13, .inl f_6)), (qr, .inr (6, fs))]) [2, 0, 1] (by decide) rfl
        have hK9 := hK.sub (tys' := []) [] rfl
        refine W.widen (k := 0) (n := 0) (Nat.le_of_ble_eq_true rfl) (Nat.le_of_ble_eq_true rfl) ?_
        exact W.vret hx hb hr (fun t ht hW => ⟨⟨(f_6, (y11 + 1)), rfl, (by first | trivial | rfl), by rw [ht]; exact hP9, va_K.moved hW.alike hK9, hD9⟩, hS.F ht⟩) hS.2.2 dX5_choose_77
      · skip
        have hc_5 := lt_of (i := i1) 12 c_5 rfl (by omega)
        refine lv_aload_n hx hb dX5_choose_23 rfl (lv_at hl 1 rfl) ?_
        refine va_get (D := D) (ci := 5) (v := .ref qf) (C := RX5) (T := TX5) (N := 12) hx hb hts (fun w h => List.mem_cons_of_mem _ (inG5 w h)) hown hK hP 0 rfl rfl 6 (by decide) (hts _ (List.mem_cons_of_mem _ gw_100)) (fun _ h9 => h9) rfl dX5_choose_24 ?_
        refine lv_iload_n hx hb dX5_choose_27 rfl (lv_at hl 0 rfl) ?_
        refine lv_aload_n hx hb dX5_choose_28 rfl (lv_at hl 1 rfl) ?_
        refine va_get (D := D) (ci := 5) (v := .int 0) (C := RX5) (T := TX5) (N := 12) hx hb hts (fun w h => List.mem_cons_of_mem _ (inG5 w h)) hown hK hP 0 rfl rfl 7 (by decide) (hts _ (List.mem_cons_of_mem _ gw_101)) (fun _ h9 => h9) rfl dX5_choose_29 ?_
        refine va_iast hx hb hK hP hD hS 1 0 rfl rfl (vp_in_nI (n := i1) (N := 13) (by omega) (by omega)) dX5_choose_32 (fun H locs hP hD hS => ?_)
        obtain ⟨f_10, hP, hD⟩ : ∃ f : Nat → Int32, va_P D vwCl [(h0, .inr (5, [t0, .int y1, .int y2, .ref qr, t4, t5, .ref qf, .int 0, t8, t9, t10, .int (y11 + 1)])), (qf, .inl (kf, 13, .inl f)), (qr, .inr (6, fs))] H ∧ va_D A [(h0, .inr (5, [t0, .int y1, .int y2, .ref qr, t4, t5, .ref qf, .int 0, t8, t9, t10, .int (y11 + 1)])), (qf, .inl (kf, 13, .inl f)), (qr, .inr (6, fs))] := ⟨_, hP, hD⟩
        refine lv_aload_n hx hb dX5_choose_33 rfl (lv_at hl 1 rfl) ?_
        refine va_get (D := D) (ci := 5) (v := .ref qr) (C := RX5) (T := TX5) (N := 12) hx hb hts (fun w h => List.mem_cons_of_mem _ (inG5 w h)) hown hK hP 0 rfl rfl 3 (by decide) (hts _ (List.mem_cons_of_mem _ gw_107)) (fun _ h9 => h9) rfl dX5_choose_34 ?_
        refine lv_iconst (v := 1) hx hb dX5_choose_37 (by decide) ?_
        refine lv_iload_n hx hb dX5_choose_38 rfl (lv_at hl 0 rfl) ?_
        refine lv_ishl hx hb dX5_choose_39 ?_
        refine fr_i (wr := [(h0, .inr (5, [t0, .int y1, .int y2, .ref qr, t4, t5, .ref qf, .int 0, t8, t9, t10, .int (y11 + 1)])), (qf, .inl (kf, 13, .inl f_10))]) (va_runV (As := [.int (1 <<< ((nI i1) &&& 31))]) (rest := []) ⟨hx, hb, hml, hown, hts⟩ (c_X6_areAble l D H.size qr (1 <<< ((nI i1) &&& 31)) fs hf6) (cwV 1 hts (gV (fun w h => List.mem_cons_of_mem _ h) gw_114 gw_92 gw_93 gw_94 gw_90) rfl rfl rfl (by decide +kernel) ⟨Nat.le_of_ble_eq_true rfl, Nat.le_of_ble_eq_true rfl⟩) (pw_V [2] [] hP hD hK hN rfl rfl (by decide) rfl (ci := 6) (q0 := 2) rfl rfl) rfl rfl hl.1 rfl (lv_room (Nat.le_of_ble_eq_true rfl)) dX5_choose_40 ⟨Nat.le_of_ble_eq_true rfl, Nat.le_of_ble_eq_true rfl⟩) hP hD hK hS hA [2] [0, 1] rfl rfl (by decide) (by decide) (fun r_12 u_11 H locs hw_13 hP hD hK hS => ?_)
        try dsimp only at hw_13
        have hP : va_P D vwCl [(h0, .inr (5, [t0, .int y1, .int y2, .ref qr, t4, t5, .ref qf, .int 0, t8, t9, t10, .int (y11 + 1)])), (qf, .inl (kf, 13, .inl f_10)), (qr, .inr (6, fs))] H := hP
        have hD : va_D A [(h0, .inr (5, [t0, .int y1, .int y2, .ref qr, t4, t5, .ref qf, .int 0, t8, t9, t10, .int (y11 + 1)])), (qf, .inl (kf, 13, .inl f_10)), (qr, .inr (6, fs))] := hD
        have hK : va_K D vwCl [(kf, .int)] s := hK
        refine W.widen (k := 0) (n := 0) (Nat.le_of_ble_eq_true rfl) (Nat.le_of_ble_eq_true rfl) ?_
        refine tI (y := if (1 <<< ((nI i1) &&& 31)) &&& (-1) = 0 then 1 else 0) hw_13 ?_
        refine lv_if_eq (tgt := 56) hx hb dX5_choose_43 (by decide) (fun c_14 => ?_) (fun c_14 => absurd (able1 i1 (by omega)) c_14)
        refine lv_iinc (v := (nI (i1 + 1))) (lv' := [(1, .int (nI (i1 + 1))), (0, .ref h0)]) hx hb dX5_choose_56 hl (k := 0) rfl (nI_1 _) (by decide) rfl (fun ls hl => ?_)
        refine lv_goto (tgt := 17) hx hb dX5_choose_59 (by decide) ?_
        exact ih17 (i1 + 1) _ _ _ _ (by omega) (by omega) (hP.sub [0, 1, 2] rfl) (hD.sub [0, 1, 2] (by decide) rfl) hS (lv_sub hl [0, 1] rfl)
  exact lp17 (12 + 1) 0 _ _ _ _ (by omega) (by omega) hP hD hS (lv_sub hl [0, 1] rfl)
end
section
theorem dX8_lookRound_0 : decode cX8_lookRound 0 = .ok (.aload_n 0, 1) := by decide +kernel
theorem dX8_lookRound_1 : decode cX8_lookRound 1 = .ok (.getfield 38, 3) := by decide +kernel
theorem dX8_lookRound_4 : decode cX8_lookRound 4 = .ok (.invokevirtual 369, 3) := by decide +kernel
theorem dX8_lookRound_7 : decode cX8_lookRound 7 = .ok (.iconst 0, 1) := by decide +kernel
theorem dX8_lookRound_8 : decode cX8_lookRound 8 = .ok (.istore_n 1, 1) := by decide +kernel
theorem dX8_lookRound_9 : decode cX8_lookRound 9 = .ok (.iload_n 1, 1) := by decide +kernel
theorem dX8_lookRound_10 : decode cX8_lookRound 10 = .ok (.aload_n 0, 1) := by decide +kernel
theorem dX8_lookRound_11 : decode cX8_lookRound 11 = .ok (.getfield 61, 3) := by decide +kernel
theorem dX8_lookRound_14 : decode cX8_lookRound 14 = .ok (.if_icmp .ge 75, 3) := by decide +kernel
theorem dX8_lookRound_89 : decode cX8_lookRound 89 = .ok (.aload_n 0, 1) := by decide +kernel
theorem dX8_lookRound_90 : decode cX8_lookRound 90 = .ok (.getfield 38, 3) := by decide +kernel
theorem dX8_lookRound_93 : decode cX8_lookRound 93 = .ok (.invokevirtual 382, 3) := by decide +kernel
theorem dX8_lookRound_96 : decode cX8_lookRound 96 = .ok (.return_, 1) := by decide +kernel
theorem dX8_makePlan_0 : decode cX8_makePlan 0 = .ok (.aload_n 0, 1) := by decide +kernel
theorem dX8_makePlan_1 : decode cX8_makePlan 1 = .ok (.getfield 53, 3) := by decide +kernel
theorem dX8_makePlan_4 : decode cX8_makePlan 4 = .ok (.ifnonnull 21, 3) := by decide +kernel
theorem dX8_makePlan_7 : decode cX8_makePlan 7 = .ok (.new 249, 3) := by decide +kernel
theorem dX8_makePlan_10 : decode cX8_makePlan 10 = .ok (.dup, 1) := by decide +kernel
theorem dX8_makePlan_11 : decode cX8_makePlan 11 = .ok (.aload_n 0, 1) := by decide +kernel
theorem dX8_makePlan_12 : decode cX8_makePlan 12 = .ok (.getfield 38, 3) := by decide +kernel
theorem dX8_makePlan_15 : decode cX8_makePlan 15 = .ok (.aload_n 0, 1) := by decide +kernel
theorem dX8_makePlan_16 : decode cX8_makePlan 16 = .ok (.getfield 31, 3) := by decide +kernel
theorem dX8_makePlan_19 : decode cX8_makePlan 19 = .ok (.invokespecial 388, 3) := by decide +kernel
theorem dX8_makePlan_22 : decode cX8_makePlan 22 = .ok (.goto 7, 3) := by decide +kernel
theorem dX8_makePlan_29 : decode cX8_makePlan 29 = .ok (.astore_n 1, 1) := by decide +kernel
theorem dX8_makePlan_30 : decode cX8_makePlan 30 = .ok (.aload_n 0, 1) := by decide +kernel
theorem dX8_makePlan_31 : decode cX8_makePlan 31 = .ok (.aload_n 1, 1) := by decide +kernel
theorem dX8_makePlan_32 : decode cX8_makePlan 32 = .ok (.putfield 53, 3) := by decide +kernel
theorem dX8_makePlan_35 : decode cX8_makePlan 35 = .ok (.aload_n 0, 1) := by decide +kernel
theorem dX8_makePlan_36 : decode cX8_makePlan 36 = .ok (.invokevirtual 222, 3) := by decide +kernel
theorem dX8_makePlan_39 : decode cX8_makePlan 39 = .ok (.aload_n 1, 1) := by decide +kernel
theorem dX8_makePlan_40 : decode cX8_makePlan 40 = .ok (.invokevirtual 391, 3) := by decide +kernel
theorem dX8_makePlan_43 : decode cX8_makePlan 43 = .ok (.aload_n 1, 1) := by decide +kernel
theorem dX8_makePlan_44 : decode cX8_makePlan 44 = .ok (.areturn, 1) := by decide +kernel
theorem dX8_makePlan_25 : decode cX8_makePlan 25 = .ok (.aload_n 0, 1) := by decide +kernel
theorem dX8_makePlan_26 : decode cX8_makePlan 26 = .ok (.getfield 53, 3) := by decide +kernel
set_option maxHeartbeats 4000000 in
set_option maxRecDepth 100000 in
theorem c_X8_lookRound (l : Launch) (D : va_G) (sz : Nat) (h0 : Nat) (fs : List Value) (qr : Nat) (qb : Nat) (qk : Nat) (s2 : Value) (s3 : Value) (s4 : Value) (s5 : Value) (x6 : Int32) (x7 : Int32) (kb : ClassId) (kk : ClassId) (fb : Nat → Int32) (fk : Nat → Int32) (hf4 : fs[4]? = some (.ref qr)) (hf9 : fs[9]? = some (.int 0)) : Met l yX8_lookRound (.code yX8_lookRound cX8_lookRound 4 none :: G) ({ frames := 6, cells := 0, slots := 0, locals := 95 }) (va_Pc [.ref h0] (pw D sz [(h0, .inr (8, fs)), (qr, .inr (6, [.ref qb, .ref qk, s2, s3, s4, s5, .int x6, .int x7])), (qb, .inl (kb, 12, .inl fb)), (qk, .inl (kk, 12, .inl fk))] [(kb, .int), (kk, .int)])) (va_Qv (fun (u : (Nat → Int32) × (Nat → Int32)) => True) (fun (u : (Nat → Int32) × (Nat → Int32)) => qw D (va_A [(h0, .inr (8, fs)), (qr, .inr (6, [.ref qb, .ref qk, s2, s3, s4, s5, .int x6, .int x7])), (qb, .inl (kb, 12, .inl fb)), (qk, .inl (kk, 12, .inl fk))] sz) [(h0, .inr (8, fs)), (qr, .inr (6, [.ref qb, .ref qk, s2, s3, s4, s5, .int 0, .int 0])), (qb, .inl (kb, 12, .inl u.1)), (qk, .inl (kk, 12, .inl u.2))] []) (va_A [(h0, .inr (8, fs)), (qr, .inr (6, [.ref qb, .ref qk, s2, s3, s4, s5, .int x6, .int x7])), (qb, .inl (kb, 12, .inl fb)), (qk, .inl (kk, 12, .inl fk))] sz)) 0 0 (va_A [(h0, .inr (8, fs)), (qr, .inr (6, [.ref qb, .ref qk, s2, s3, s4, s5, .int x6, .int x7])), (qb, .inl (kb, 12, .inl fb)), (qk, .inl (kk, 12, .inl fk))] sz) := by
  refine Met.ofW (cc := cX8_lookRound) (maxL := 4) (ret := none) (by decide) rfl ?_
  intro p e s m args below meth c s₁ B hml hv
  obtain ⟨rfl, hsz, hP, hK, hD0, hN⟩ := hv
  have hx := B.exec
  have hb := B.bytes
  have hr := B.returns
  have hts := atoms_spec (ws := (.code yX8_lookRound cX8_lookRound 4 none :: G)) B.pre
  have hown : s.vm.findClass RX8 = some m.cls := findClass_of_methodNamed B.named
  have hlocks := B.notSynchronized
  subst hsz
  have hD := hD0.self (sz := s.heap.size)
  generalize hAe : va_A [(h0, .inr (8, fs)), (qr, .inr (6, [.ref qb, .ref qk, s2, s3, s4, s5, .int x6, .int x7])), (qb, .inl (kb, 12, .inl fb)), (qk, .inl (kk, 12, .inl fk))] s.heap.size = A at hD ⊢
  have hA : ∀ q : Nat, s.heap.size ≤ q → A q := fun q h => by rw [← hAe]; exact Or.inr h
  have hS : va_S A s.heap s.heap [] := va_S.rf
  have hP : va_P D vwCl [(h0, .inr (8, fs)), (qr, .inr (6, [.ref qb, .ref qk, s2, s3, s4, s5, .int x6, .int x7])), (qb, .inl (kb, 12, .inl fb)), (qk, .inl (kk, 12, .inl fk))] s.heap := hP
  have hl := lv_entry ([.ref h0]) (n := 4) (Nat.le_of_ble_eq_true rfl)
  rw [lg_entry_eq]
  generalize (lg_sl ([.ref h0]) ++ List.replicate (4 - (lg_sl ([.ref h0])).length) Slot.unset).toArray = ls at hl ⊢
  have hl : lv_has ls 4 [(0, .ref h0)] := hl
  refine lv_aload_n hx hb dX8_lookRound_0 rfl (lv_at hl 0 rfl) ?_
  refine va_get (D := D) (ci := 8) (v := .ref qr) (C := RX8) (T := TX8) (N := 19) hx hb hts (fun w h => List.mem_cons_of_mem _ (inG8 w h)) hown hK hP 0 rfl rfl 4 (by decide) (hts _ (List.mem_cons_of_mem _ gw_115)) (fun _ h9 => h9) hf4 dX8_lookRound_1 ?_
  refine fr_v (wr := [(h0, .inr (8, fs))]) (va_runV (As := []) (rest := []) ⟨hx, hb, hml, hown, hts⟩ (c_X6_clear l D s.heap.size qr qb qk s2 s3 s4 s5 x6 x7 kb kk fb fk ) (cwV 0 hts (gV (fun w h => List.mem_cons_of_mem _ h) gw_117 gw_118 gw_119 gw_94 gw_116) rfl rfl rfl (by decide +kernel) ⟨Nat.le_of_ble_eq_true rfl, Nat.le_of_ble_eq_true rfl⟩) (pw_V [1, 2, 3] [0, 1] hP hD hK hN rfl rfl (by decide) rfl (ci := 6) (q0 := 1) rfl rfl) rfl rfl hl.1 rfl (lv_room (Nat.le_of_ble_eq_true rfl)) dX8_lookRound_4 ⟨Nat.le_of_ble_eq_true rfl, Nat.le_of_ble_eq_true rfl⟩) hP hD hK hS hA [1, 2, 3] [0] rfl rfl (by decide) (by decide) (fun u_1 H locs hw_3 hP hD hK hS => ?_)
  obtain ⟨ufb_4, ufk_5⟩ := u_1
  try dsimp only at hw_3
  have hP : va_P D vwCl [(h0, .inr (8, fs)), (qr, .inr (6, [.ref qb, .ref qk, s2, s3, s4, s5, .int 0, .int 0])), (qb, .inl (kb, 12, .inl ufb_4)), (qk, .inl (kk, 12, .inl ufk_5))] H := hP
  have hD : va_D A [(h0, .inr (8, fs)), (qr, .inr (6, [.ref qb, .ref qk, s2, s3, s4, s5, .int 0, .int 0])), (qb, .inl (kb, 12, .inl ufb_4)), (qk, .inl (kk, 12, .inl ufk_5))] := hD
  have hK : va_K D vwCl [(kb, .int), (kk, .int)] s := hK
  refine W.widen (k := 0) (n := 0) (Nat.le_of_ble_eq_true rfl) (Nat.le_of_ble_eq_true rfl) ?_
  refine lv_iconst (v := 0) hx hb dX8_lookRound_7 (by decide) ?_
  refine lv_istore_n (lv' := [(1, .int 0), (0, .ref h0)]) hx hb dX8_lookRound_8 rfl hl (by decide) rfl (fun ls hl => ?_)
  refine lv_iload_n hx hb dX8_lookRound_9 rfl (lv_at hl 0 rfl) ?_
  refine lv_aload_n hx hb dX8_lookRound_10 rfl (lv_at hl 1 rfl) ?_
  refine va_get (D := D) (ci := 8) (v := .int 0) (C := RX8) (T := TX8) (N := 19) hx hb hts (fun w h => List.mem_cons_of_mem _ (inG8 w h)) hown hK hP 0 rfl rfl 9 (by decide) (hts _ (List.mem_cons_of_mem _ gw_5)) (fun _ h9 => h9) hf9 dX8_lookRound_11 ?_
  refine lv_icmp_ge (tgt := 89) hx hb dX8_lookRound_14 (by decide) (fun c_6 => ?_) (fun c_6 => absurd (by decide) c_6)
  refine lv_aload_n hx hb dX8_lookRound_89 rfl (lv_at hl 1 rfl) ?_
  refine va_get (D := D) (ci := 8) (v := .ref qr) (C := RX8) (T := TX8) (N := 19) hx hb hts (fun w h => List.mem_cons_of_mem _ (inG8 w h)) hown hK hP 0 rfl rfl 4 (by decide) (hts _ (List.mem_cons_of_mem _ gw_115)) (fun _ h9 => h9) hf4 dX8_lookRound_90 ?_
  refine fr_v (wr := [(h0, .inr (8, fs)), (qb, .inl (kb, 12, .inl ufb_4)), (qk, .inl (kk, 12, .inl ufk_5))]) (va_runV (As := []) (rest := []) ⟨hx, hb, hml, hown, hts⟩ (c_X6_link l D H.size qr ([.ref qb, .ref qk, s2, s3, s4, s5, .int 0, .int 0]) rfl) (cwV 0 hts (gV (fun w h => List.mem_cons_of_mem _ h) gw_121 gw_122 gw_123 gw_94 gw_120) rfl rfl rfl (by decide +kernel) ⟨Nat.le_of_ble_eq_true rfl, Nat.le_of_ble_eq_true rfl⟩) (pw_V [1] [] hP hD hK hN rfl rfl (by decide) rfl (ci := 6) (q0 := 1) rfl rfl) rfl rfl hl.1 rfl (lv_room (Nat.le_of_ble_eq_true rfl)) dX8_lookRound_93 ⟨Nat.le_of_ble_eq_true rfl, Nat.le_of_ble_eq_true rfl⟩) hP hD hK hS hA [1] [0, 2, 3] rfl rfl (by decide) (by decide) (fun u_7 H locs hw_9 hP hD hK hS => ?_)
  try dsimp only at hw_9
  have hP : va_P D vwCl [(h0, .inr (8, fs)), (qb, .inl (kb, 12, .inl ufb_4)), (qk, .inl (kk, 12, .inl ufk_5)), (qr, .inr (6, [.ref qb, .ref qk, s2, s3, s4, s5, .int 0, .int 0]))] H := hP
  have hD : va_D A [(h0, .inr (8, fs)), (qb, .inl (kb, 12, .inl ufb_4)), (qk, .inl (kk, 12, .inl ufk_5)), (qr, .inr (6, [.ref qb, .ref qk, s2, s3, s4, s5, .int 0, .int 0]))] := hD
  have hK : va_K D vwCl [(kb, .int), (kk, .int)] s := hK
  refine W.widen (k := 0) (n := 0) (Nat.le_of_ble_eq_true rfl) (Nat.le_of_ble_eq_true rfl) ?_
  have hP9 := hP.sub (ws' := [(h0, .inr (8, fs)), (qr, .inr (6, [.ref qb, .ref qk, s2, s3, s4, s5, .int 0, .int 0])), (qb, .inl (kb, 12, .inl ufb_4)), (qk, .inl (kk, 12, .inl ufk_5))]) [0, 3, 1, 2] rfl
  have hD9 := hD.sub (ws' := [(h0, .inr (8, fs)), (qr, .inr (6, [.ref qb, .ref qk, s2, s3, s4, s5, .int 0, .int 0])), (qb, .inl (kb, 12, .inl ufb_4)), (qk, .inl (kk, 12, .inl ufk_5))]) [0, 3, 1, 2] (by decide) rfl
  have hK9 := hK.sub (tys' := []) [] rfl
  refine W.widen (k := 0) (n := 0) (Nat.le_of_ble_eq_true rfl) (Nat.le_of_ble_eq_true rfl) ?_
  exact W.vret hx hb hr (fun t ht hW => ⟨⟨(ufb_4, ufk_5), rfl, (by first | trivial | rfl), by rw [ht]; exact hP9, va_K.moved hW.alike hK9, hD9⟩, hS.F ht⟩) hS.2.2 dX8_lookRound_96
set_option maxHeartbeats 4000000 in
set_option maxRecDepth 100000 in
theorem c_X8_makePlan (l : Launch) (D : va_G) (sz : Nat) (h0 : Nat) (qo : Nat) (qr : Nat) (v0 : Value) (v1 : Value) (v2 : Value) (v5 : Value) (v6 : Value) (v8 : Value) (v10 : Value) (v11 : Value) (v12 : Value) (v13 : Value) (v14 : Value) (v15 : Value) (v16 : Value) (v17 : Value) (v18 : Value) (qb : Nat) (qk : Nat) (s2 : Value) (s3 : Value) (s4 : Value) (s5 : Value) (x6 : Int32) (x7 : Int32) (kb : ClassId) (kk : ClassId) (fb : Nat → Int32) (fk : Nat → Int32) : Met l yX8_makePlan (.code yX8_makePlan cX8_makePlan 2 (some (.object "OddShoes$Planner")) :: G) ({ frames := 8, cells := 7, slots := 11399, locals := 124 }) (va_Pc [.ref h0] (pw D sz [(h0, .inr (8, [v0, v1, v2, .ref qo, .ref qr, v5, v6, .null, v8, .int 0, v10, v11, v12, v13, v14, v15, v16, v17, v18])), (qr, .inr (6, [.ref qb, .ref qk, s2, s3, s4, s5, .int x6, .int x7])), (qb, .inl (kb, 12, .inl fb)), (qk, .inl (kk, 12, .inl fk))] [(kb, .int), (kk, .int)])) (va_Qq (fun (r : Option Nat) (u : (Nat) × (Nat) × (Nat) × (Nat) × (Nat) × (Nat) × (Nat) × (ClassId) × (Nat → Int32) × (Nat → Int32) × (Nat → Int32) × (Int32)) => r = some u.1) (fun (u : (Nat) × (Nat) × (Nat) × (Nat) × (Nat) × (Nat) × (Nat) × (ClassId) × (Nat → Int32) × (Nat → Int32) × (Nat → Int32) × (Int32)) => qw D (va_A [(h0, .inr (8, [v0, v1, v2, .ref qo, .ref qr, v5, v6, .null, v8, .int 0, v10, v11, v12, v13, v14, v15, v16, v17, v18])), (qr, .inr (6, [.ref qb, .ref qk, s2, s3, s4, s5, .int x6, .int x7])), (qb, .inl (kb, 12, .inl fb)), (qk, .inl (kk, 12, .inl fk))] sz) [(h0, .inr (8, [v0, v1, v2, .ref qo, .ref qr, v5, v6, .ref u.1, v8, .int 0, v10, v11, v12, v13, v14, v15, v16, v17, v18])), (qr, .inr (6, [.ref qb, .ref qk, s2, s3, s4, s5, .int 0, .int 0])), (qb, .inl (kb, 12, .inl u.2.2.2.2.2.2.2.2.1)), (qk, .inl (kk, 12, .inl u.2.2.2.2.2.2.2.2.2.1)), (u.1, .inr (5, [.ref u.2.2.2.2.2.2.1, .int 0, .int 0, .ref qr, .ref qo, .ref u.2.1, .ref u.2.2.1, .int 0, .ref u.2.2.2.1, .ref u.2.2.2.2.1, .ref u.2.2.2.2.2.1, .int u.2.2.2.2.2.2.2.2.2.2.2])), (u.2.2.1, .inl (u.2.2.2.2.2.2.2.1, 13, .inl u.2.2.2.2.2.2.2.2.2.2.1))] [(u.2.2.2.2.2.2.2.1, .int)]) (va_A [(h0, .inr (8, [v0, v1, v2, .ref qo, .ref qr, v5, v6, .null, v8, .int 0, v10, v11, v12, v13, v14, v15, v16, v17, v18])), (qr, .inr (6, [.ref qb, .ref qk, s2, s3, s4, s5, .int x6, .int x7])), (qb, .inl (kb, 12, .inl fb)), (qk, .inl (kk, 12, .inl fk))] sz)) 7 11399 (va_A [(h0, .inr (8, [v0, v1, v2, .ref qo, .ref qr, v5, v6, .null, v8, .int 0, v10, v11, v12, v13, v14, v15, v16, v17, v18])), (qr, .inr (6, [.ref qb, .ref qk, s2, s3, s4, s5, .int x6, .int x7])), (qb, .inl (kb, 12, .inl fb)), (qk, .inl (kk, 12, .inl fk))] sz) := by
  refine Met.ofW (cc := cX8_makePlan) (maxL := 2) (ret := (some (.object "OddShoes$Planner"))) (by decide) rfl ?_
  intro p e s m args below meth c s₁ B hml hv
  obtain ⟨rfl, hsz, hP, hK, hD0, hN⟩ := hv
  have hx := B.exec
  have hb := B.bytes
  have hr := B.returns
  have hts := atoms_spec (ws := (.code yX8_makePlan cX8_makePlan 2 (some (.object "OddShoes$Planner")) :: G)) B.pre
  have hown : s.vm.findClass RX8 = some m.cls := findClass_of_methodNamed B.named
  have hlocks := B.notSynchronized
  subst hsz
  have hD := hD0.self (sz := s.heap.size)
  generalize hAe : va_A [(h0, .inr (8, [v0, v1, v2, .ref qo, .ref qr, v5, v6, .null, v8, .int 0, v10, v11, v12, v13, v14, v15, v16, v17, v18])), (qr, .inr (6, [.ref qb, .ref qk, s2, s3, s4, s5, .int x6, .int x7])), (qb, .inl (kb, 12, .inl fb)), (qk, .inl (kk, 12, .inl fk))] s.heap.size = A at hD ⊢
  have hA : ∀ q : Nat, s.heap.size ≤ q → A q := fun q h => by rw [← hAe]; exact Or.inr h
  have hS : va_S A s.heap s.heap [] := va_S.rf
  have hP : va_P D vwCl [(h0, .inr (8, [v0, v1, v2, .ref qo, .ref qr, v5, v6, .null, v8, .int 0, v10, v11, v12, v13, v14, v15, v16, v17, v18])), (qr, .inr (6, [.ref qb, .ref qk, s2, s3, s4, s5, .int x6, .int x7])), (qb, .inl (kb, 12, .inl fb)), (qk, .inl (kk, 12, .inl fk))] s.heap := hP
  have hl := lv_entry ([.ref h0]) (n := 2) (Nat.le_of_ble_eq_true rfl)
  rw [lg_entry_eq]
  generalize (lg_sl ([.ref h0]) ++ List.replicate (2 - (lg_sl ([.ref h0])).length) Slot.unset).toArray = ls at hl ⊢
  have hl : lv_has ls 2 [(0, .ref h0)] := hl
  refine lv_aload_n hx hb dX8_makePlan_0 rfl (lv_at hl 0 rfl) ?_
  refine va_get (D := D) (ci := 8) (v := .null) (C := RX8) (T := TX8) (N := 19) hx hb hts (fun w h => List.mem_cons_of_mem _ (inG8 w h)) hown hK hP 0 rfl rfl 7 (by decide) (hts _ (List.mem_cons_of_mem _ gw_124)) (fun _ h9 => h9) rfl dX8_makePlan_1 ?_
  refine lv_ifnonnullN hx hb dX8_makePlan_4 ?_
  refine va_new (ci := 5) (fs := [.null, .int 0, .int 0, .null, .null, .null, .null, .int 0, .null, .null, .null, .int 0]) (C := RX5) (T := TX5) (N := 12) hx hb hts (fun w h => List.mem_cons_of_mem _ (inG5 w h)) tyX5 tyX5_ok hown (hts _ (List.mem_cons_of_mem _ gw_125)) (hts _ (List.mem_cons_of_mem _ gw_126)) (hts _ (List.mem_cons_of_mem _ gw_113)) hK hP hD hS hA rfl dvX5 (Nat.le_of_ble_eq_true rfl) (Nat.le_of_ble_eq_true rfl) dX8_makePlan_7 (fun q_1 H hP hD hS => ?_)
  have hP : va_P D vwCl [(h0, .inr (8, [v0, v1, v2, .ref qo, .ref qr, v5, v6, .null, v8, .int 0, v10, v11, v12, v13, v14, v15, v16, v17, v18])), (qr, .inr (6, [.ref qb, .ref qk, s2, s3, s4, s5, .int x6, .int x7])), (qb, .inl (kb, 12, .inl fb)), (qk, .inl (kk, 12, .inl fk)), (q_1, .inr (5, [.null, .int 0, .int 0, .null, .null, .null, .null, .int 0, .null, .null, .null, .int 0]))] H := hP
  have hD : va_D A [(h0, .inr (8, [v0, v1, v2, .ref qo, .ref qr, v5, v6, .null, v8, .int 0, v10, v11, v12, v13, v14, v15, v16, v17, v18])), (qr, .inr (6, [.ref qb, .ref qk, s2, s3, s4, s5, .int x6, .int x7])), (qb, .inl (kb, 12, .inl fb)), (qk, .inl (kk, 12, .inl fk)), (q_1, .inr (5, [.null, .int 0, .int 0, .null, .null, .null, .null, .int 0, .null, .null, .null, .int 0]))] := hD
  refine W.widen (k := 1) (n := 12) (Nat.le_of_ble_eq_true rfl) (Nat.le_of_ble_eq_true rfl) ?_
  refine lv_dup hx hb dX8_makePlan_10 rfl ?_
  refine lv_aload_n hx hb dX8_makePlan_11 rfl (lv_at hl 0 rfl) ?_
  refine va_get (D := D) (ci := 8) (v := .ref qr) (C := RX8) (T := TX8) (N := 19) hx hb hts (fun w h => List.mem_cons_of_mem _ (inG8 w h)) hown hK hP 0 rfl rfl 4 (by decide) (hts _ (List.mem_cons_of_mem _ gw_115)) (fun _ h9 => h9) rfl dX8_makePlan_12 ?_
  refine lv_aload_n hx hb dX8_makePlan_15 rfl (lv_at hl 0 rfl) ?_
  refine va_get (D := D) (ci := 8) (v := .ref qo) (C := RX8) (T := TX8) (N := 19) hx hb hts (fun w h => List.mem_cons_of_mem _ (inG8 w h)) hown hK hP 0 rfl rfl 3 (by decide) (hts _ (List.mem_cons_of_mem _ gw_127)) (fun _ h9 => h9) rfl dX8_makePlan_16 ?_
  refine fr_v (wr := [(h0, .inr (8, [v0, v1, v2, .ref qo, .ref qr, v5, v6, .null, v8, .int 0, v10, v11, v12, v13, v14, v15, v16, v17, v18])), (qr, .inr (6, [.ref qb, .ref qk, s2, s3, s4, s5, .int x6, .int x7])), (qb, .inl (kb, 12, .inl fb)), (qk, .inl (kk, 12, .inl fk))]) (va_runI (As := [.ref qr, .ref qo]) (rest := [.ref q_1]) ⟨hx, hb, hml, hown, hts⟩ (c_X5_init l D H.size q_1 qr qo ) (cwI 2 hts (gI (fun w h => List.mem_cons_of_mem _ h) gw_128) rfl rfl rfl (hts _ (List.mem_cons_of_mem _ gw_113)) (hts _ (List.mem_cons_of_mem _ gw_129)) (hts _ (List.mem_cons_of_mem _ gw_130)) rfl (by decide +kernel) ⟨Nat.le_of_ble_eq_true rfl, Nat.le_of_ble_eq_true rfl⟩) (pw_S [4] [] hP hD hK hN rfl rfl (by decide) rfl) rfl rfl hl.1 rfl (lv_room (Nat.le_of_ble_eq_true rfl)) dX8_makePlan_19 ⟨Nat.le_of_ble_eq_true rfl, Nat.le_of_ble_eq_true rfl⟩) hP hD hK hS hA [4] [0, 1, 2, 3] rfl rfl (by decide) (by decide) (fun u_2 H locs hw_4 hP hD hK hS => ?_)
  obtain ⟨ua_5, ub_6, uc_7, ud_8, ue_9, uf_10, ug_11⟩ := u_2
  try dsimp only at hw_4
  have hP : va_P D vwCl [(h0, .inr (8, [v0, v1, v2, .ref qo, .ref qr, v5, v6, .null, v8, .int 0, v10, v11, v12, v13, v14, v15, v16, v17, v18])), (qr, .inr (6, [.ref qb, .ref qk, s2, s3, s4, s5, .int x6, .int x7])), (qb, .inl (kb, 12, .inl fb)), (qk, .inl (kk, 12, .inl fk)), (q_1, .inr (5, [.ref ua_5, .int 0, .int 0, .ref qr, .ref qo, .ref ub_6, .ref uc_7, .int 0, .ref ud_8, .ref ue_9, .ref uf_10, .int 0])), (uc_7, .inl (ug_11, 13, .inl (fun _ => 0)))] H := hP
  have hD : va_D A [(h0, .inr (8, [v0, v1, v2, .ref qo, .ref qr, v5, v6, .null, v8, .int 0, v10, v11, v12, v13, v14, v15, v16, v17, v18])), (qr, .inr (6, [.ref qb, .ref qk, s2, s3, s4, s5, .int x6, .int x7])), (qb, .inl (kb, 12, .inl fb)), (qk, .inl (kk, 12, .inl fk)), (q_1, .inr (5, [.ref ua_5, .int 0, .int 0, .ref qr, .ref qo, .ref ub_6, .ref uc_7, .int 0, .ref ud_8, .ref ue_9, .ref uf_10, .int 0])), (uc_7, .inl (ug_11, 13, .inl (fun _ => 0)))] := hD
  have hK : va_K D vwCl [(kb, .int), (kk, .int), (ug_11, .int)] s := hK
  refine W.widen (k := 7) (n := 11399) (Nat.le_of_ble_eq_true rfl) (Nat.le_of_ble_eq_true rfl) ?_
  refine lv_goto (tgt := 29) hx hb dX8_makePlan_22 (by decide) ?_
  refine lv_astore_n (lv' := [(1, .ref q_1), (0, .ref h0)]) hx hb dX8_makePlan_29 rfl hl (by decide) rfl (fun ls hl => ?_)
  refine lv_aload_n hx hb dX8_makePlan_30 rfl (lv_at hl 1 rfl) ?_
  refine lv_aload_n hx hb dX8_makePlan_31 rfl (lv_at hl 0 rfl) ?_
  refine va_put (D := D) (ci := 8) (v := .ref q_1) (ty := .object "OddShoes$Planner") (C := RX8) (T := TX8) (N := 19) hx hb hts (fun w h => List.mem_cons_of_mem _ (inG8 w h)) tyX8 tyX8_ok nmX8 hown hK hP hD hS 0 rfl rfl 7 (by decide) (hts _ (List.mem_cons_of_mem _ gw_124)) (fun _ h9 => h9) rfl (by decide +kernel) rfl rfl (Nat.le_of_ble_eq_true rfl) dX8_makePlan_32 (fun H locs hP hD hS => ?_)
  have hP : va_P D vwCl [(h0, .inr (8, [v0, v1, v2, .ref qo, .ref qr, v5, v6, .ref q_1, v8, .int 0, v10, v11, v12, v13, v14, v15, v16, v17, v18])), (qr, .inr (6, [.ref qb, .ref qk, s2, s3, s4, s5, .int x6, .int x7])), (qb, .inl (kb, 12, .inl fb)), (qk, .inl (kk, 12, .inl fk)), (q_1, .inr (5, [.ref ua_5, .int 0, .int 0, .ref qr, .ref qo, .ref ub_6, .ref uc_7, .int 0, .ref ud_8, .ref ue_9, .ref uf_10, .int 0])), (uc_7, .inl (ug_11, 13, .inl (fun _ => 0)))] H := hP
  have hD : va_D A [(h0, .inr (8, [v0, v1, v2, .ref qo, .ref qr, v5, v6, .ref q_1, v8, .int 0, v10, v11, v12, v13, v14, v15, v16, v17, v18])), (qr, .inr (6, [.ref qb, .ref qk, s2, s3, s4, s5, .int x6, .int x7])), (qb, .inl (kb, 12, .inl fb)), (qk, .inl (kk, 12, .inl fk)), (q_1, .inr (5, [.ref ua_5, .int 0, .int 0, .ref qr, .ref qo, .ref ub_6, .ref uc_7, .int 0, .ref ud_8, .ref ue_9, .ref uf_10, .int 0])), (uc_7, .inl (ug_11, 13, .inl (fun _ => 0)))] := hD
  refine lv_aload_n hx hb dX8_makePlan_35 rfl (lv_at hl 1 rfl) ?_
  refine fr_v (wr := [(q_1, .inr (5, [.ref ua_5, .int 0, .int 0, .ref qr, .ref qo, .ref ub_6, .ref uc_7, .int 0, .ref ud_8, .ref ue_9, .ref uf_10, .int 0])), (uc_7, .inl (ug_11, 13, .inl (fun _ => 0)))]) (va_runV (As := []) (rest := []) ⟨hx, hb, hml, hown, hts⟩ (c_X8_lookRound l D H.size h0 ([v0, v1, v2, .ref qo, .ref qr, v5, v6, .ref q_1, v8, .int 0, v10, v11, v12, v13, v14, v15, v16, v17, v18]) qr qb qk s2 s3 s4 s5 x6 x7 kb kk fb fk rfl rfl) (cwV 0 hts (gV (fun w h => List.mem_cons_of_mem _ h) gw_132 gw_133 gw_134 gw_135 gw_131) rfl rfl rfl (by decide +kernel) ⟨Nat.le_of_ble_eq_true rfl, Nat.le_of_ble_eq_true rfl⟩) (pw_V [0, 1, 2, 3] [0, 1] hP hD hK hN rfl rfl (by decide) rfl (ci := 8) (q0 := 0) rfl rfl) rfl rfl hl.1 rfl (lv_room (Nat.le_of_ble_eq_true rfl)) dX8_makePlan_36 ⟨Nat.le_of_ble_eq_true rfl, Nat.le_of_ble_eq_true rfl⟩) hP hD hK hS hA [0, 1, 2, 3] [4, 5] rfl rfl (by decide) (by decide) (fun u_12 H locs hw_14 hP hD hK hS => ?_)
  obtain ⟨ufb_15, ufk_16⟩ := u_12
  try dsimp only at hw_14
  have hP : va_P D vwCl [(q_1, .inr (5, [.ref ua_5, .int 0, .int 0, .ref qr, .ref qo, .ref ub_6, .ref uc_7, .int 0, .ref ud_8, .ref ue_9, .ref uf_10, .int 0])), (uc_7, .inl (ug_11, 13, .inl (fun _ => 0))), (h0, .inr (8, [v0, v1, v2, .ref qo, .ref qr, v5, v6, .ref q_1, v8, .int 0, v10, v11, v12, v13, v14, v15, v16, v17, v18])), (qr, .inr (6, [.ref qb, .ref qk, s2, s3, s4, s5, .int 0, .int 0])), (qb, .inl (kb, 12, .inl ufb_15)), (qk, .inl (kk, 12, .inl ufk_16))] H := hP
  have hD : va_D A [(q_1, .inr (5, [.ref ua_5, .int 0, .int 0, .ref qr, .ref qo, .ref ub_6, .ref uc_7, .int 0, .ref ud_8, .ref ue_9, .ref uf_10, .int 0])), (uc_7, .inl (ug_11, 13, .inl (fun _ => 0))), (h0, .inr (8, [v0, v1, v2, .ref qo, .ref qr, v5, v6, .ref q_1, v8, .int 0, v10, v11, v12, v13, v14, v15, v16, v17, v18])), (qr, .inr (6, [.ref qb, .ref qk, s2, s3, s4, s5, .int 0, .int 0])), (qb, .inl (kb, 12, .inl ufb_15)), (qk, .inl (kk, 12, .inl ufk_16))] := hD
  have hK : va_K D vwCl [(kb, .int), (kk, .int), (ug_11, .int)] s := hK
  refine W.widen (k := 7) (n := 11399) (Nat.le_of_ble_eq_true rfl) (Nat.le_of_ble_eq_true rfl) ?_
  refine lv_aload_n hx hb dX8_makePlan_39 rfl (lv_at hl 0 rfl) ?_
  refine fr_v (wr := [(h0, .inr (8, [v0, v1, v2, .ref qo, .ref qr, v5, v6, .ref q_1, v8, .int 0, v10, v11, v12, v13, v14, v15, v16, v17, v18])), (qb, .inl (kb, 12, .inl ufb_15)), (qk, .inl (kk, 12, .inl ufk_16))]) (va_runV (As := []) (rest := []) ⟨hx, hb, hml, hown, hts⟩ (c_X5_choose l D H.size q_1 (.ref ua_5) qr (.ref qo) (.ref ub_6) uc_7 (.ref ud_8) (.ref ue_9) (.ref uf_10) 0 0 0 0 ug_11 (fun _ => 0) ([.ref qb, .ref qk, s2, s3, s4, s5, .int 0, .int 0]) rfl) (cwV 0 hts (gV (fun w h => List.mem_cons_of_mem _ h) gw_137 gw_138 gw_139 gw_113 gw_136) rfl rfl rfl (by decide +kernel) ⟨Nat.le_of_ble_eq_true rfl, Nat.le_of_ble_eq_true rfl⟩) (pw_V [0, 1, 3] [2] hP hD hK hN rfl rfl (by decide) rfl (ci := 5) (q0 := 0) rfl rfl) rfl rfl hl.1 rfl (lv_room (Nat.le_of_ble_eq_true rfl)) dX8_makePlan_40 ⟨Nat.le_of_ble_eq_true rfl, Nat.le_of_ble_eq_true rfl⟩) hP hD hK hS hA [0, 1, 3] [2, 4, 5] rfl rfl (by decide) (by decide) (fun u_17 H locs hw_19 hP hD hK hS => ?_)
  obtain ⟨uff_20, ux_21⟩ := u_17
  try dsimp only at hw_19
  have hP : va_P D vwCl [(h0, .inr (8, [v0, v1, v2, .ref qo, .ref qr, v5, v6, .ref q_1, v8, .int 0, v10, v11, v12, v13, v14, v15, v16, v17, v18])), (qb, .inl (kb, 12, .inl ufb_15)), (qk, .inl (kk, 12, .inl ufk_16)), (q_1, .inr (5, [.ref ua_5, .int 0, .int 0, .ref qr, .ref qo, .ref ub_6, .ref uc_7, .int 0, .ref ud_8, .ref ue_9, .ref uf_10, .int ux_21])), (uc_7, .inl (ug_11, 13, .inl uff_20)), (qr, .inr (6, [.ref qb, .ref qk, s2, s3, s4, s5, .int 0, .int 0]))] H := hP
  have hD : va_D A [(h0, .inr (8, [v0, v1, v2, .ref qo, .ref qr, v5, v6, .ref q_1, v8, .int 0, v10, v11, v12, v13, v14, v15, v16, v17, v18])), (qb, .inl (kb, 12, .inl ufb_15)), (qk, .inl (kk, 12, .inl ufk_16)), (q_1, .inr (5, [.ref ua_5, .int 0, .int 0, .ref qr, .ref qo, .ref ub_6, .ref uc_7, .int 0, .ref ud_8, .ref ue_9, .ref uf_10, .int ux_21])), (uc_7, .inl (ug_11, 13, .inl uff_20)), (qr, .inr (6, [.ref qb, .ref qk, s2, s3, s4, s5, .int 0, .int 0]))] := hD
  have hK : va_K D vwCl [(kb, .int), (kk, .int), (ug_11, .int)] s := hK
  refine W.widen (k := 7) (n := 11399) (Nat.le_of_ble_eq_true rfl) (Nat.le_of_ble_eq_true rfl) ?_
  refine lv_aload_n hx hb dX8_makePlan_43 rfl (lv_at hl 0 rfl) ?_
  have hP9 := hP.sub (ws' := [(h0, .inr (8, [v0, v1, v2, .ref qo, .ref qr, v5, v6, .ref q_1, v8, .int 0, v10, v11, v12, v13, v14, v15, v16, v17, v18])), (qr, .inr (6, [.ref qb, .ref qk, s2, s3, s4, s5, .int 0, .int 0])), (qb, .inl (kb, 12, .inl ufb_15)), (qk, .inl (kk, 12, .inl ufk_16)), (q_1, .inr (5, [.ref ua_5, .int 0, .int 0, .ref qr, .ref qo, .ref ub_6, .ref uc_7, .int 0, .ref ud_8, .ref ue_9, .ref uf_10, .int ux_21])), (uc_7, .inl (ug_11, 13, .inl uff_20))]) [0, 5, 1, 2, 3, 4] rfl
  have hD9 := hD.sub (ws' := [(h0, .inr (8, [v0, v1, v2, .ref qo, .ref qr, v5, v6, .ref q_1, v8, .int 0, v10, v11, v12, v13, v14, v15, v16, v17, v18])), (qr, .inr (6, [.ref qb, .ref qk, s2, s3, s4, s5, .int 0, .int 0])), (qb, .inl (kb, 12, .inl ufb_15)), (qk, .inl (kk, 12, .inl ufk_16)), (q_1, .inr (5, [.ref ua_5, .int 0, .int 0, .ref qr, .ref qo, .ref ub_6, .ref uc_7, .int 0, .ref ud_8, .ref ue_9, .ref uf_10, .int ux_21])), (uc_7, .inl (ug_11, 13, .inl uff_20))]) [0, 5, 1, 2, 3, 4] (by decide) rfl
  have hK9 := hK.sub (tys' := [(ug_11, .int)]) [2] rfl
  refine W.widen (k := 7) (n := 11399) (Nat.le_of_ble_eq_true rfl) (Nat.le_of_ble_eq_true rfl) ?_
  exact W.aret (v := .ref q_1) hx hb hr (Or.inl ⟨_, rfl⟩) (Or.inr ⟨_, rfl⟩) (fun t ht hW => ⟨⟨some q_1, (q_1, ub_6, uc_7, ud_8, ue_9, uf_10, ua_5, ug_11, ufb_15, ufk_16, uff_20, ux_21), rfl, rfl, by rw [ht]; exact hP9, va_K.moved hW.alike hK9, hD9⟩, hS.F ht⟩) hS.2.2 dX8_makePlan_44
set_option maxHeartbeats 4000000 in
set_option maxRecDepth 100000 in
theorem c_X8_makePlan2 (l : Launch) (D : va_G) (sz : Nat) (h0 : Nat) (qo : Nat) (qr : Nat) (qn : Nat) (v0 : Value) (v1 : Value) (v2 : Value) (v5 : Value) (v6 : Value) (v8 : Value) (v10 : Value) (v11 : Value) (v12 : Value) (v13 : Value) (v14 : Value) (v15 : Value) (v16 : Value) (v17 : Value) (v18 : Value) (qb : Nat) (qk : Nat) (s2 : Value) (s3 : Value) (s4 : Value) (s5 : Value) (x6 : Int32) (x7 : Int32) (kb : ClassId) (kk : ClassId) (fb : Nat → Int32) (fk : Nat → Int32) (z0 : Nat) (z5 : Nat) (qf : Nat) (z8 : Nat) (z9 : Nat) (z10 : Nat) (y1 : Int32) (y2 : Int32) (y7 : Int32) (y11 : Int32) (kf : ClassId) (ff : Nat → Int32) : Met l yX8_makePlan (.code yX8_makePlan cX8_makePlan 2 (some (.object "OddShoes$Planner")) :: G) ({ frames := 8, cells := 0, slots := 0, locals := 124 }) (va_Pc [.ref h0] (pw D sz [(h0, .inr (8, [v0, v1, v2, .ref qo, .ref qr, v5, v6, .ref qn, v8, .int 0, v10, v11, v12, v13, v14, v15, v16, v17, v18])), (qr, .inr (6, [.ref qb, .ref qk, s2, s3, s4, s5, .int x6, .int x7])), (qb, .inl (kb, 12, .inl fb)), (qk, .inl (kk, 12, .inl fk)), (qn, .inr (5, [.ref z0, .int y1, .int y2, .ref qr, .ref qo, .ref z5, .ref qf, .int y7, .ref z8, .ref z9, .ref z10, .int y11])), (qf, .inl (kf, 13, .inl ff))] [(kb, .int), (kk, .int), (kf, .int)])) (va_Qq (fun (r : Option Nat) (u : (Nat → Int32) × (Nat → Int32) × (Nat → Int32) × (Int32)) => r = some qn) (fun (u : (Nat → Int32) × (Nat → Int32) × (Nat → Int32) × (Int32)) => qw D (va_A [(h0, .inr (8, [v0, v1, v2, .ref qo, .ref qr, v5, v6, .ref qn, v8, .int 0, v10, v11, v12, v13, v14, v15, v16, v17, v18])), (qr, .inr (6, [.ref qb, .ref qk, s2, s3, s4, s5, .int x6, .int x7])), (qb, .inl (kb, 12, .inl fb)), (qk, .inl (kk, 12, .inl fk)), (qn, .inr (5, [.ref z0, .int y1, .int y2, .ref qr, .ref qo, .ref z5, .ref qf, .int y7, .ref z8, .ref z9, .ref z10, .int y11])), (qf, .inl (kf, 13, .inl ff))] sz) [(h0, .inr (8, [v0, v1, v2, .ref qo, .ref qr, v5, v6, .ref qn, v8, .int 0, v10, v11, v12, v13, v14, v15, v16, v17, v18])), (qr, .inr (6, [.ref qb, .ref qk, s2, s3, s4, s5, .int 0, .int 0])), (qb, .inl (kb, 12, .inl u.1)), (qk, .inl (kk, 12, .inl u.2.1)), (qn, .inr (5, [.ref z0, .int 0, .int 0, .ref qr, .ref qo, .ref z5, .ref qf, .int 0, .ref z8, .ref z9, .ref z10, .int u.2.2.2])), (qf, .inl (kf, 13, .inl u.2.2.1))] []) (va_A [(h0, .inr (8, [v0, v1, v2, .ref qo, .ref qr, v5, v6, .ref qn, v8, .int 0, v10, v11, v12, v13, v14, v15, v16, v17, v18])), (qr, .inr (6, [.ref qb, .ref qk, s2, s3, s4, s5, .int x6, .int x7])), (qb, .inl (kb, 12, .inl fb)), (qk, .inl (kk, 12, .inl fk)), (qn, .inr (5, [.ref z0, .int y1, .int y2, .ref qr, .ref qo, .ref z5, .ref qf, .int y7, .ref z8, .ref z9, .ref z10, .int y11])), (qf, .inl (kf, 13, .inl ff))] sz)) 0 0 (va_A [(h0, .inr (8, [v0, v1, v2, .ref qo, .ref qr, v5, v6, .ref qn, v8, .int 0, v10, v11, v12, v13, v14, v15, v16, v17, v18])), (qr, .inr (6, [.ref qb, .ref qk, s2, s3, s4, s5, .int x6, .int x7])), (qb, .inl (kb, 12, .inl fb)), (qk, .inl (kk, 12, .inl fk)), (qn, .inr (5, [.ref z0, .int y1, .int y2, .ref qr, .ref qo, .ref z5, .ref qf, .int y7, .ref z8, .ref z9, .ref z10, .int y11])), (qf, .inl (kf, 13, .inl ff))] sz) := by
  refine Met.ofW (cc := cX8_makePlan) (maxL := 2) (ret := (some (.object "OddShoes$Planner"))) (by decide) rfl ?_
  intro p e s m args below meth c s₁ B hml hv
  obtain ⟨rfl, hsz, hP, hK, hD0, hN⟩ := hv
  have hx := B.exec
  have hb := B.bytes
  have hr := B.returns
  have hts := atoms_spec (ws := (.code yX8_makePlan cX8_makePlan 2 (some (.object "OddShoes$Planner")) :: G)) B.pre
  have hown : s.vm.findClass RX8 = some m.cls := findClass_of_methodNamed B.named
  have hlocks := B.notSynchronized
  subst hsz
  have hD := hD0.self (sz := s.heap.size)
  generalize hAe : va_A [(h0, .inr (8, [v0, v1, v2, .ref qo, .ref qr, v5, v6, .ref qn, v8, .int 0, v10, v11, v12, v13, v14, v15, v16, v17, v18])), (qr, .inr (6, [.ref qb, .ref qk, s2, s3, s4, s5, .int x6, .int x7])), (qb, .inl (kb, 12, .inl fb)), (qk, .inl (kk, 12, .inl fk)), (qn, .inr (5, [.ref z0, .int y1, .int y2, .ref qr, .ref qo, .ref z5, .ref qf, .int y7, .ref z8, .ref z9, .ref z10, .int y11])), (qf, .inl (kf, 13, .inl ff))] s.heap.size = A at hD ⊢
  have hA : ∀ q : Nat, s.heap.size ≤ q → A q := fun q h => by rw [← hAe]; exact Or.inr h
  have hS : va_S A s.heap s.heap [] := va_S.rf
  have hP : va_P D vwCl [(h0, .inr (8, [v0, v1, v2, .ref qo, .ref qr, v5, v6, .ref qn, v8, .int 0, v10, v11, v12, v13, v14, v15, v16, v17, v18])), (qr, .inr (6, [.ref qb, .ref qk, s2, s3, s4, s5, .int x6, .int x7])), (qb, .inl (kb, 12, .inl fb)), (qk, .inl (kk, 12, .inl fk)), (qn, .inr (5, [.ref z0, .int y1, .int y2, .ref qr, .ref qo, .ref z5, .ref qf, .int y7, .ref z8, .ref z9, .ref z10, .int y11])), (qf, .inl (kf, 13, .inl ff))] s.heap := hP
  have hl := lv_entry ([.ref h0]) (n := 2) (Nat.le_of_ble_eq_true rfl)
  rw [lg_entry_eq]
  generalize (lg_sl ([.ref h0]) ++ List.replicate (2 - (lg_sl ([.ref h0])).length) Slot.unset).toArray = ls at hl ⊢
  have hl : lv_has ls 2 [(0, .ref h0)] := hl
  refine lv_aload_n hx hb dX8_makePlan_0 rfl (lv_at hl 0 rfl) ?_
  refine va_get (D := D) (ci := 8) (v := .ref qn) (C := RX8) (T := TX8) (N := 19) hx hb hts (fun w h => List.mem_cons_of_mem _ (inG8 w h)) hown hK hP 0 rfl rfl 7 (by decide) (hts _ (List.mem_cons_of_mem _ gw_124)) (fun _ h9 => h9) rfl dX8_makePlan_1 ?_
  refine lv_ifnonnull (tgt := 25) hx hb dX8_makePlan_4 (by decide) ?_
  refine lv_aload_n hx hb dX8_makePlan_25 rfl (lv_at hl 0 rfl) ?_
  refine va_get (D := D) (ci := 8) (v := .ref qn) (C := RX8) (T := TX8) (N := 19) hx hb hts (fun w h => List.mem_cons_of_mem _ (inG8 w h)) hown hK hP 0 rfl rfl 7 (by decide) (hts _ (List.mem_cons_of_mem _ gw_124)) (fun _ h9 => h9) rfl dX8_makePlan_26 ?_
  refine lv_astore_n (lv' := [(1, .ref qn), (0, .ref h0)]) hx hb dX8_makePlan_29 rfl hl (by decide) rfl (fun ls hl => ?_)
  refine lv_aload_n hx hb dX8_makePlan_30 rfl (lv_at hl 1 rfl) ?_
  refine lv_aload_n hx hb dX8_makePlan_31 rfl (lv_at hl 0 rfl) ?_
  refine va_put (D := D) (ci := 8) (v := .ref qn) (ty := .object "OddShoes$Planner") (C := RX8) (T := TX8) (N := 19) hx hb hts (fun w h => List.mem_cons_of_mem _ (inG8 w h)) tyX8 tyX8_ok nmX8 hown hK hP hD hS 0 rfl rfl 7 (by decide) (hts _ (List.mem_cons_of_mem _ gw_124)) (fun _ h9 => h9) rfl (by decide +kernel) rfl rfl (Nat.le_of_ble_eq_true rfl) dX8_makePlan_32 (fun H locs hP hD hS => ?_)
  have hP : va_P D vwCl [(h0, .inr (8, [v0, v1, v2, .ref qo, .ref qr, v5, v6, .ref qn, v8, .int 0, v10, v11, v12, v13, v14, v15, v16, v17, v18])), (qr, .inr (6, [.ref qb, .ref qk, s2, s3, s4, s5, .int x6, .int x7])), (qb, .inl (kb, 12, .inl fb)), (qk, .inl (kk, 12, .inl fk)), (qn, .inr (5, [.ref z0, .int y1, .int y2, .ref qr, .ref qo, .ref z5, .ref qf, .int y7, .ref z8, .ref z9, .ref z10, .int y11])), (qf, .inl (kf, 13, .inl ff))] H := hP
  have hD : va_D A [(h0, .inr (8, [v0, v1, v2, .ref qo, .ref qr, v5, v6, .ref qn, v8, .int 0, v10, v11, v12, v13, v14, v15, v16, v17, v18])), (qr, .inr (6, [.ref qb, .ref qk, s2, s3, s4, s5, .int x6, .int x7])), (qb, .inl (kb, 12, .inl fb)), (qk, .inl (kk, 12, .inl fk)), (qn, .inr (5, [.ref z0, .int y1, .int y2, .ref qr, .ref qo, .ref z5, .ref qf, .int y7, .ref z8, .ref z9, .ref z10, .int y11])), (qf, .inl (kf, 13, .inl ff))] := hD
  refine lv_aload_n hx hb dX8_makePlan_35 rfl (lv_at hl 1 rfl) ?_
  refine fr_v (wr := [(qn, .inr (5, [.ref z0, .int y1, .int y2, .ref qr, .ref qo, .ref z5, .ref qf, .int y7, .ref z8, .ref z9, .ref z10, .int y11])), (qf, .inl (kf, 13, .inl ff))]) (va_runV (As := []) (rest := []) ⟨hx, hb, hml, hown, hts⟩ (c_X8_lookRound l D H.size h0 ([v0, v1, v2, .ref qo, .ref qr, v5, v6, .ref qn, v8, .int 0, v10, v11, v12, v13, v14, v15, v16, v17, v18]) qr qb qk s2 s3 s4 s5 x6 x7 kb kk fb fk rfl rfl) (cwV 0 hts (gV (fun w h => List.mem_cons_of_mem _ h) gw_132 gw_133 gw_134 gw_135 gw_131) rfl rfl rfl (by decide +kernel) ⟨Nat.le_of_ble_eq_true rfl, Nat.le_of_ble_eq_true rfl⟩) (pw_V [0, 1, 2, 3] [0, 1] hP hD hK hN rfl rfl (by decide) rfl (ci := 8) (q0 := 0) rfl rfl) rfl rfl hl.1 rfl (lv_room (Nat.le_of_ble_eq_true rfl)) dX8_makePlan_36 ⟨Nat.le_of_ble_eq_true rfl, Nat.le_of_ble_eq_true rfl⟩) hP hD hK hS hA [0, 1, 2, 3] [4, 5] rfl rfl (by decide) (by decide) (fun u_1 H locs hw_3 hP hD hK hS => ?_)
  obtain ⟨ufb_4, ufk_5⟩ := u_1
  try dsimp only at hw_3
  have hP : va_P D vwCl [(qn, .inr (5, [.ref z0, .int y1, .int y2, .ref qr, .ref qo, .ref z5, .ref qf, .int y7, .ref z8, .ref z9, .ref z10, .int y11])), (qf, .inl (kf, 13, .inl ff)), (h0, .inr (8, [v0, v1, v2, .ref qo, .ref qr, v5, v6, .ref qn, v8, .int 0, v10, v11, v12, v13, v14, v15, v16, v17, v18])), (qr, .inr (6, [.ref qb, .ref qk, s2, s3, s4, s5, .int 0, .int 0])), (qb, .inl (kb, 12, .inl ufb_4)), (qk, .inl (kk, 12, .inl ufk_5))] H := hP
  have hD : va_D A [(qn, .inr (5, [.ref z0, .int y1, .int y2, .ref qr, .ref qo, .ref z5, .ref qf, .int y7, .ref z8, .ref z9, .ref z10, .int y11])), (qf, .inl (kf, 13, .inl ff)), (h0, .inr (8, [v0, v1, v2, .ref qo, .ref qr, v5, v6, .ref qn, v8, .int 0, v10, v11, v12, v13, v14, v15, v16, v17, v18])), (qr, .inr (6, [.ref qb, .ref qk, s2, s3, s4, s5, .int 0, .int 0])), (qb, .inl (kb, 12, .inl ufb_4)), (qk, .inl (kk, 12, .inl ufk_5))] := hD
  have hK : va_K D vwCl [(kb, .int), (kk, .int), (kf, .int)] s := hK
  refine W.widen (k := 0) (n := 0) (Nat.le_of_ble_eq_true rfl) (Nat.le_of_ble_eq_true rfl) ?_
  refine lv_aload_n hx hb dX8_makePlan_39 rfl (lv_at hl 0 rfl) ?_
  refine fr_v (wr := [(h0, .inr (8, [v0, v1, v2, .ref qo, .ref qr, v5, v6, .ref qn, v8, .int 0, v10, v11, v12, v13, v14, v15, v16, v17, v18])), (qb, .inl (kb, 12, .inl ufb_4)), (qk, .inl (kk, 12, .inl ufk_5))]) (va_runV (As := []) (rest := []) ⟨hx, hb, hml, hown, hts⟩ (c_X5_choose l D H.size qn (.ref z0) qr (.ref qo) (.ref z5) qf (.ref z8) (.ref z9) (.ref z10) y1 y2 y7 y11 kf ff ([.ref qb, .ref qk, s2, s3, s4, s5, .int 0, .int 0]) rfl) (cwV 0 hts (gV (fun w h => List.mem_cons_of_mem _ h) gw_137 gw_138 gw_139 gw_113 gw_136) rfl rfl rfl (by decide +kernel) ⟨Nat.le_of_ble_eq_true rfl, Nat.le_of_ble_eq_true rfl⟩) (pw_V [0, 1, 3] [2] hP hD hK hN rfl rfl (by decide) rfl (ci := 5) (q0 := 0) rfl rfl) rfl rfl hl.1 rfl (lv_room (Nat.le_of_ble_eq_true rfl)) dX8_makePlan_40 ⟨Nat.le_of_ble_eq_true rfl, Nat.le_of_ble_eq_true rfl⟩) hP hD hK hS hA [0, 1, 3] [2, 4, 5] rfl rfl (by decide) (by decide) (fun u_6 H locs hw_8 hP hD hK hS => ?_)
  obtain ⟨uff_9, ux_10⟩ := u_6
  try dsimp only at hw_8
  have hP : va_P D vwCl [(h0, .inr (8, [v0, v1, v2, .ref qo, .ref qr, v5, v6, .ref qn, v8, .int 0, v10, v11, v12, v13, v14, v15, v16, v17, v18])), (qb, .inl (kb, 12, .inl ufb_4)), (qk, .inl (kk, 12, .inl ufk_5)), (qn, .inr (5, [.ref z0, .int 0, .int 0, .ref qr, .ref qo, .ref z5, .ref qf, .int 0, .ref z8, .ref z9, .ref z10, .int ux_10])), (qf, .inl (kf, 13, .inl uff_9)), (qr, .inr (6, [.ref qb, .ref qk, s2, s3, s4, s5, .int 0, .int 0]))] H := hP
  have hD : va_D A [(h0, .inr (8, [v0, v1, v2, .ref qo, .ref qr, v5, v6, .ref qn, v8, .int 0, v10, v11, v12, v13, v14, v15, v16, v17, v18])), (qb, .inl (kb, 12, .inl ufb_4)), (qk, .inl (kk, 12, .inl ufk_5)), (qn, .inr (5, [.ref z0, .int 0, .int 0, .ref qr, .ref qo, .ref z5, .ref qf, .int 0, .ref z8, .ref z9, .ref z10, .int ux_10])), (qf, .inl (kf, 13, .inl uff_9)), (qr, .inr (6, [.ref qb, .ref qk, s2, s3, s4, s5, .int 0, .int 0]))] := hD
  have hK : va_K D vwCl [(kb, .int), (kk, .int), (kf, .int)] s := hK
  refine W.widen (k := 0) (n := 0) (Nat.le_of_ble_eq_true rfl) (Nat.le_of_ble_eq_true rfl) ?_
  refine lv_aload_n hx hb dX8_makePlan_43 rfl (lv_at hl 0 rfl) ?_
  have hP9 := hP.sub (ws' := [(h0, .inr (8, [v0, v1, v2, .ref qo, .ref qr, v5, v6, .ref qn, v8, .int 0, v10, v11, v12, v13, v14, v15, v16, v17, v18])), (qr, .inr (6, [.ref qb, .ref qk, s2, s3, s4, s5, .int 0, .int 0])), (qb, .inl (kb, 12, .inl ufb_4)), (qk, .inl (kk, 12, .inl ufk_5)), (qn, .inr (5, [.ref z0, .int 0, .int 0, .ref qr, .ref qo, .ref z5, .ref qf, .int 0, .ref z8, .ref z9, .ref z10, .int ux_10])), (qf, .inl (kf, 13, .inl uff_9))]) [0, 5, 1, 2, 3, 4] rfl
  have hD9 := hD.sub (ws' := [(h0, .inr (8, [v0, v1, v2, .ref qo, .ref qr, v5, v6, .ref qn, v8, .int 0, v10, v11, v12, v13, v14, v15, v16, v17, v18])), (qr, .inr (6, [.ref qb, .ref qk, s2, s3, s4, s5, .int 0, .int 0])), (qb, .inl (kb, 12, .inl ufb_4)), (qk, .inl (kk, 12, .inl ufk_5)), (qn, .inr (5, [.ref z0, .int 0, .int 0, .ref qr, .ref qo, .ref z5, .ref qf, .int 0, .ref z8, .ref z9, .ref z10, .int ux_10])), (qf, .inl (kf, 13, .inl uff_9))]) [0, 5, 1, 2, 3, 4] (by decide) rfl
  have hK9 := hK.sub (tys' := []) [] rfl
  refine W.widen (k := 0) (n := 0) (Nat.le_of_ble_eq_true rfl) (Nat.le_of_ble_eq_true rfl) ?_
  exact W.aret (v := .ref qn) hx hb hr (Or.inl ⟨_, rfl⟩) (Or.inr ⟨_, rfl⟩) (fun t ht hW => ⟨⟨some qn, (ufb_4, ufk_5, uff_9, ux_10), rfl, rfl, by rw [ht]; exact hP9, va_K.moved hW.alike hK9, hD9⟩, hS.F ht⟩) hS.2.2 dX8_makePlan_44
end
section
theorem dX8_init_0 : decode cX8_init 0 = .ok (.aload_n 0, 1) := by decide +kernel
theorem dX8_init_1 : decode cX8_init 1 = .ok (.invokespecial 1, 3) := by decide +kernel
theorem dX8_init_4 : decode cX8_init 4 = .ok (.aload_n 0, 1) := by decide +kernel
theorem dX8_init_5 : decode cX8_init 5 = .ok (.iconst 4, 1) := by decide +kernel
theorem dX8_init_6 : decode cX8_init 6 = .ok (.anewarray 9, 3) := by decide +kernel
theorem dX8_init_9 : decode cX8_init 9 = .ok (.putfield 11, 3) := by decide +kernel
theorem dX8_init_12 : decode cX8_init 12 = .ok (.aload_n 0, 1) := by decide +kernel
theorem dX8_init_13 : decode cX8_init 13 = .ok (.bipush 12, 2) := by decide +kernel
theorem dX8_init_15 : decode cX8_init 15 = .ok (.anewarray 15, 3) := by decide +kernel
theorem dX8_init_18 : decode cX8_init 18 = .ok (.putfield 17, 3) := by decide +kernel
theorem dX8_init_21 : decode cX8_init 21 = .ok (.aload_n 0, 1) := by decide +kernel
theorem dX8_init_22 : decode cX8_init 22 = .ok (.new 21, 3) := by decide +kernel
theorem dX8_init_25 : decode cX8_init 25 = .ok (.dup, 1) := by decide +kernel
theorem dX8_init_26 : decode cX8_init 26 = .ok (.invokespecial 23, 3) := by decide +kernel
theorem dX8_init_29 : decode cX8_init 29 = .ok (.putfield 24, 3) := by decide +kernel
theorem dX8_init_32 : decode cX8_init 32 = .ok (.aload_n 0, 1) := by decide +kernel
theorem dX8_init_33 : decode cX8_init 33 = .ok (.new 28, 3) := by decide +kernel
theorem dX8_init_36 : decode cX8_init 36 = .ok (.dup, 1) := by decide +kernel
theorem dX8_init_37 : decode cX8_init 37 = .ok (.invokespecial 30, 3) := by decide +kernel
theorem dX8_init_40 : decode cX8_init 40 = .ok (.putfield 31, 3) := by decide +kernel
theorem dX8_init_43 : decode cX8_init 43 = .ok (.aload_n 0, 1) := by decide +kernel
theorem dX8_init_44 : decode cX8_init 44 = .ok (.new 35, 3) := by decide +kernel
theorem dX8_init_47 : decode cX8_init 47 = .ok (.dup, 1) := by decide +kernel
theorem dX8_init_48 : decode cX8_init 48 = .ok (.invokespecial 37, 3) := by decide +kernel
theorem dX8_init_51 : decode cX8_init 51 = .ok (.putfield 38, 3) := by decide +kernel
theorem dX8_init_54 : decode cX8_init 54 = .ok (.aload_n 0, 1) := by decide +kernel
theorem dX8_init_55 : decode cX8_init 55 = .ok (.new 42, 3) := by decide +kernel
theorem dX8_init_58 : decode cX8_init 58 = .ok (.dup, 1) := by decide +kernel
theorem dX8_init_59 : decode cX8_init 59 = .ok (.invokespecial 44, 3) := by decide +kernel
theorem dX8_init_62 : decode cX8_init 62 = .ok (.putfield 45, 3) := by decide +kernel
theorem dX8_init_65 : decode cX8_init 65 = .ok (.aload_n 0, 1) := by decide +kernel
theorem dX8_init_66 : decode cX8_init 66 = .ok (.iconst 5, 1) := by decide +kernel
theorem dX8_init_67 : decode cX8_init 67 = .ok (.newarray .int, 2) := by decide +kernel
theorem dX8_init_69 : decode cX8_init 69 = .ok (.putfield 49, 3) := by decide +kernel
theorem dX8_init_72 : decode cX8_init 72 = .ok (.aload_n 0, 1) := by decide +kernel
theorem dX8_init_73 : decode cX8_init 73 = .ok (.aconst_null, 1) := by decide +kernel
theorem dX8_init_74 : decode cX8_init 74 = .ok (.putfield 53, 3) := by decide +kernel
theorem dX8_init_77 : decode cX8_init 77 = .ok (.aload_n 0, 1) := by decide +kernel
theorem dX8_init_78 : decode cX8_init 78 = .ok (.iconst 0, 1) := by decide +kernel
theorem dX8_init_79 : decode cX8_init 79 = .ok (.putfield 57, 3) := by decide +kernel
theorem dX8_init_82 : decode cX8_init 82 = .ok (.aload_n 0, 1) := by decide +kernel
theorem dX8_init_83 : decode cX8_init 83 = .ok (.iconst 0, 1) := by decide +kernel
theorem dX8_init_84 : decode cX8_init 84 = .ok (.putfield 61, 3) := by decide +kernel
theorem dX8_init_87 : decode cX8_init 87 = .ok (.aload_n 0, 1) := by decide +kernel
theorem dX8_init_88 : decode cX8_init 88 = .ok (.iconst 0, 1) := by decide +kernel
theorem dX8_init_89 : decode cX8_init 89 = .ok (.putfield 64, 3) := by decide +kernel
theorem dX8_init_92 : decode cX8_init 92 = .ok (.aload_n 0, 1) := by decide +kernel
theorem dX8_init_93 : decode cX8_init 93 = .ok (.iconst 0, 1) := by decide +kernel
theorem dX8_init_94 : decode cX8_init 94 = .ok (.putfield 67, 3) := by decide +kernel
theorem dX8_init_97 : decode cX8_init 97 = .ok (.aload_n 0, 1) := by decide +kernel
theorem dX8_init_98 : decode cX8_init 98 = .ok (.bipush 100, 2) := by decide +kernel
theorem dX8_init_100 : decode cX8_init 100 = .ok (.putfield 70, 3) := by decide +kernel
theorem dX8_init_103 : decode cX8_init 103 = .ok (.aload_n 0, 1) := by decide +kernel
theorem dX8_init_104 : decode cX8_init 104 = .ok (.bipush 10, 2) := by decide +kernel
theorem dX8_init_106 : decode cX8_init 106 = .ok (.putfield 73, 3) := by decide +kernel
theorem dX8_init_109 : decode cX8_init 109 = .ok (.aload_n 0, 1) := by decide +kernel
theorem dX8_init_110 : decode cX8_init 110 = .ok (.iconst 0, 1) := by decide +kernel
theorem dX8_init_111 : decode cX8_init 111 = .ok (.putfield 76, 3) := by decide +kernel
theorem dX8_init_114 : decode cX8_init 114 = .ok (.aload_n 0, 1) := by decide +kernel
theorem dX8_init_115 : decode cX8_init 115 = .ok (.iconst 0, 1) := by decide +kernel
theorem dX8_init_116 : decode cX8_init 116 = .ok (.putfield 80, 3) := by decide +kernel
theorem dX8_init_119 : decode cX8_init 119 = .ok (.aload_n 0, 1) := by decide +kernel
theorem dX8_init_120 : decode cX8_init 120 = .ok (.iconst 0, 1) := by decide +kernel
theorem dX8_init_121 : decode cX8_init 121 = .ok (.putfield 83, 3) := by decide +kernel
theorem dX8_init_124 : decode cX8_init 124 = .ok (.aload_n 0, 1) := by decide +kernel
theorem dX8_init_125 : decode cX8_init 125 = .ok (.iconst 0, 1) := by decide +kernel
theorem dX8_init_126 : decode cX8_init 126 = .ok (.putfield 86, 3) := by decide +kernel
theorem dX8_init_129 : decode cX8_init 129 = .ok (.aload_n 0, 1) := by decide +kernel
theorem dX8_init_130 : decode cX8_init 130 = .ok (.iconst 0, 1) := by decide +kernel
theorem dX8_init_131 : decode cX8_init 131 = .ok (.putfield 89, 3) := by decide +kernel
theorem dX8_init_134 : decode cX8_init 134 = .ok (.return_, 1) := by decide +kernel
set_option maxHeartbeats 4000000 in
set_option maxRecDepth 100000 in
theorem c_X8_init (l : Launch) (D : va_G) (sz : Nat) (h0 : Nat) : Met l yX8_init (.code yX8_init cX8_init 1 none :: G) ({ frames := 10, cells := 27, slots := 873, locals := 173 }) (va_Pc [.ref h0] (pw D sz [(h0, .inr (8, [.null, .null, .null, .null, .null, .null, .null, .null, .int 0, .int 0, .int 0, .int 0, .int 0, .int 0, .int 0, .int 0, .int 0, .int 0, .int 0]))] [])) (va_Qv (fun (u : (Nat) × (Nat) × (Nat) × (Nat) × (Nat) × (Nat) × (Nat) × (Nat) × (Nat) × (Nat) × (Nat) × (Nat) × (Nat) × (Nat) × (Nat) × (Nat) × (Nat) × (Nat) × (Nat) × (Nat) × (Nat) × (Nat) × (Nat) × (Nat) × (ClassId) × (ClassId) × (ClassId) × (ClassId)) => True) (fun (u : (Nat) × (Nat) × (Nat) × (Nat) × (Nat) × (Nat) × (Nat) × (Nat) × (Nat) × (Nat) × (Nat) × (Nat) × (Nat) × (Nat) × (Nat) × (Nat) × (Nat) × (Nat) × (Nat) × (Nat) × (Nat) × (Nat) × (Nat) × (Nat) × (ClassId) × (ClassId) × (ClassId) × (ClassId)) => qw D (va_A [(h0, .inr (8, [.null, .null, .null, .null, .null, .null, .null, .null, .int 0, .int 0, .int 0, .int 0, .int 0, .int 0, .int 0, .int 0, .int 0, .int 0, .int 0]))] sz) [(h0, .inr (8, [.ref u.1, .ref u.2.1, .ref u.2.2.1, .ref u.2.2.2.1, .ref u.2.2.2.2.1, .ref u.2.2.2.2.2.1, .ref u.2.2.2.2.2.2.1, .null, .int 0, .int 0, .int 0, .int 0, .int 100, .int 10, .int 0, .int 0, .int 0, .int 0, .int 0])), (u.1, .inl (u.2.2.2.2.2.2.2.2.2.2.2.2.2.2.2.2.2.2.2.2.2.2.2.2.1, 4, .inr (.inr (.inr (.inr (fun _ => none)))))), (u.2.1, .inl (u.2.2.2.2.2.2.2.2.2.2.2.2.2.2.2.2.2.2.2.2.2.2.2.2.2.1, 12, .inr (.inr (.inr (.inr (fun _ => none)))))), (u.2.2.1, .inr (1, [.int 0, .ref u.2.2.2.2.2.2.2.1, .ref u.2.2.2.2.2.2.2.2.1, .ref u.2.2.2.2.2.2.2.2.2.1, .ref u.2.2.2.2.2.2.2.2.2.2.1, .ref u.2.2.2.2.2.2.2.2.2.2.2.1, .ref u.2.2.2.2.2.2.2.2.2.2.2.2.1])), (u.2.2.2.2.1, .inr (6, [.ref u.2.2.2.2.2.2.2.2.2.2.2.2.2.1, .ref u.2.2.2.2.2.2.2.2.2.2.2.2.2.2.1, .ref u.2.2.2.2.2.2.2.2.2.2.2.2.2.2.2.1, .ref u.2.2.2.2.2.2.2.2.2.2.2.2.2.2.2.2.1, .ref u.2.2.2.2.2.2.2.2.2.2.2.2.2.2.2.2.2.1, .ref u.2.2.2.2.2.2.2.2.2.2.2.2.2.2.2.2.2.2.1, .int 0, .int 0])), (u.2.2.2.2.2.2.2.2.2.2.2.2.2.1, .inl (u.2.2.2.2.2.2.2.2.2.2.2.2.2.2.2.2.2.2.2.2.2.2.2.2.2.2.1, 12, .inl (fun _ => 0))), (u.2.2.2.2.2.2.2.2.2.2.2.2.2.2.1, .inl (u.2.2.2.2.2.2.2.2.2.2.2.2.2.2.2.2.2.2.2.2.2.2.2.2.2.2.2, 12, .inl (fun _ => 0))), (u.2.2.2.2.2.1, .inr (4, [.ref u.2.2.2.2.2.2.2.2.2.2.2.2.2.2.2.2.2.2.2.1, .ref u.2.2.2.2.2.2.2.2.2.2.2.2.2.2.2.2.2.2.2.2.1, .ref u.2.2.2.2.2.2.2.2.2.2.2.2.2.2.2.2.2.2.2.2.2.1, .ref u.2.2.2.2.2.2.2.2.2.2.2.2.2.2.2.2.2.2.2.2.2.2.1, .ref u.2.2.2.2.2.2.2.2.2.2.2.2.2.2.2.2.2.2.2.2.2.2.2.1, .int 0, .int 0, .int 0, .int 0, .int 0]))] [(u.2.2.2.2.2.2.2.2.2.2.2.2.2.2.2.2.2.2.2.2.2.2.2.2.1, .object RX0), (u.2.2.2.2.2.2.2.2.2.2.2.2.2.2.2.2.2.2.2.2.2.2.2.2.2.1, .object RX3), (u.2.2.2.2.2.2.2.2.2.2.2.2.2.2.2.2.2.2.2.2.2.2.2.2.2.2.1, .int), (u.2.2.2.2.2.2.2.2.2.2.2.2.2.2.2.2.2.2.2.2.2.2.2.2.2.2.2, .int)]) (va_A [(h0, .inr (8, [.null, .null, .null, .null, .null, .null, .null, .null, .int 0, .int 0, .int 0, .int 0, .int 0, .int 0, .int 0, .int 0, .int 0, .int 0, .int 0]))] sz)) 27 873 (va_A [(h0, .inr (8, [.null, .null, .null, .null, .null, .null, .null, .null, .int 0, .int 0, .int 0, .int 0, .int 0, .int 0, .int 0, .int 0, .int 0, .int 0, .int 0]))] sz) := by
  refine Met.ofW (cc := cX8_init) (maxL := 1) (ret := none) (by decide) rfl ?_
  intro p e s m args below meth c s₁ B hml hv
  obtain ⟨rfl, hsz, hP, hK, hD0, hN⟩ := hv
  have hx := B.exec
  have hb := B.bytes
  have hr := B.returns
  have hts := atoms_spec (ws := (.code yX8_init cX8_init 1 none :: G)) B.pre
  have hown : s.vm.findClass RX8 = some m.cls := findClass_of_methodNamed B.named
  have hlocks := B.notSynchronized
  have hin : meth.name = "<init>" := (name_of_methodNamed B.named B.method).1
  subst hsz
  have hD := hD0.self (sz := s.heap.size)
  generalize hAe : va_A [(h0, .inr (8, [.null, .null, .null, .null, .null, .null, .null, .null, .int 0, .int 0, .int 0, .int 0, .int 0, .int 0, .int 0, .int 0, .int 0, .int 0, .int 0]))] s.heap.size = A at hD ⊢
  have hA : ∀ q : Nat, s.heap.size ≤ q → A q := fun q h => by rw [← hAe]; exact Or.inr h
  have hS : va_S A s.heap s.heap [] := va_S.rf
  have hP : va_P D vwCl [(h0, .inr (8, [.null, .null, .null, .null, .null, .null, .null, .null, .int 0, .int 0, .int 0, .int 0, .int 0, .int 0, .int 0, .int 0, .int 0, .int 0, .int 0]))] s.heap := hP
  have hl := lv_entry ([.ref h0]) (n := 1) (Nat.le_of_ble_eq_true rfl)
  rw [lg_entry_eq]
  generalize (lg_sl ([.ref h0]) ++ List.replicate (1 - (lg_sl ([.ref h0])).length) Slot.unset).toArray = ls at hl ⊢
  have hl : lv_has ls 1 [(0, .ref h0)] := hl
  refine lv_aload_n hx hb dX8_init_0 rfl (lv_at hl 0 rfl) ?_
  refine W.objInit hx hb hown (hts _ (List.mem_cons_of_mem _ gw_140)) (hts _ (List.mem_cons_of_mem _ gw_12)) (hts _ (List.mem_cons_of_mem _ gw_13)) rfl (by rw [hml]; exact hl.1) rfl dX8_init_1 (Nat.le_of_ble_eq_true rfl) (Nat.le_of_ble_eq_true rfl) ?_
  refine W.eq (g2 := F0 m 4 ls []) rfl ?_
  refine lv_aload_n hx hb dX8_init_4 rfl (lv_at hl 0 rfl) ?_
  refine lv_iconst (v := 4) hx hb dX8_init_5 (by decide) ?_
  refine va_newq (C := RX0) (N' := 4) hx hb hown (hts _ (List.mem_cons_of_mem _ gw_141)) hN.2.2.2.2.1 hK hP hD hS hA (by decide) (by decide +kernel) (by decide) (Nat.le_of_ble_eq_true rfl) (Nat.le_of_ble_eq_true rfl) dX8_init_6 (fun q_1 cA_2 H hK hP hD hS => ?_)
  have hP : va_P D vwCl [(h0, .inr (8, [.null, .null, .null, .null, .null, .null, .null, .null, .int 0, .int 0, .int 0, .int 0, .int 0, .int 0, .int 0, .int 0, .int 0, .int 0, .int 0])), (q_1, .inl (cA_2, 4, .inr (.inr (.inr (.inr (fun _ => none))))))] H := hP
  have hD : va_D A [(h0, .inr (8, [.null, .null, .null, .null, .null, .null, .null, .null, .int 0, .int 0, .int 0, .int 0, .int 0, .int 0, .int 0, .int 0, .int 0, .int 0, .int 0])), (q_1, .inl (cA_2, 4, .inr (.inr (.inr (.inr (fun _ => none))))))] := hD
  have hK : va_K D vwCl [(cA_2, .object RX0)] s := hK
  refine W.widen (k := 1) (n := 4) (Nat.le_of_ble_eq_true rfl) (Nat.le_of_ble_eq_true rfl) ?_
  refine va_putF (D := D) (ci := 8) (v := .ref q_1) (ty := .array (.object "OddShoes$Maker")) (C := RX8) (T := TX8) (N := 19) hx hb hts (fun w h => List.mem_cons_of_mem _ (inG8 w h)) tyX8 tyX8_ok nmX8 hown hK hP hD hS 0 rfl rfl 0 (by decide) (hts _ (List.mem_cons_of_mem _ gw_142)) (fun _ h9 => h9) rfl hin rfl (by decide +kernel) rfl rfl (Nat.le_of_ble_eq_true rfl) dX8_init_9 (fun H locs hP hD hS => ?_)
  have hP : va_P D vwCl [(h0, .inr (8, [.ref q_1, .null, .null, .null, .null, .null, .null, .null, .int 0, .int 0, .int 0, .int 0, .int 0, .int 0, .int 0, .int 0, .int 0, .int 0, .int 0])), (q_1, .inl (cA_2, 4, .inr (.inr (.inr (.inr (fun _ => none))))))] H := hP
  have hD : va_D A [(h0, .inr (8, [.ref q_1, .null, .null, .null, .null, .null, .null, .null, .int 0, .int 0, .int 0, .int 0, .int 0, .int 0, .int 0, .int 0, .int 0, .int 0, .int 0])), (q_1, .inl (cA_2, 4, .inr (.inr (.inr (.inr (fun _ => none))))))] := hD
  refine lv_aload_n hx hb dX8_init_12 rfl (lv_at hl 0 rfl) ?_
  refine lv_bipush (v := 12) hx hb dX8_init_13 (by decide) ?_
  refine va_newq (C := RX3) (N' := 12) hx hb hown (hts _ (List.mem_cons_of_mem _ gw_143)) hN.2.2.2.2.2.1 hK hP hD hS hA (by decide) (by decide +kernel) (by decide) (Nat.le_of_ble_eq_true rfl) (Nat.le_of_ble_eq_true rfl) dX8_init_15 (fun q_3 cA_4 H hK hP hD hS => ?_)
  have hP : va_P D vwCl [(h0, .inr (8, [.ref q_1, .null, .null, .null, .null, .null, .null, .null, .int 0, .int 0, .int 0, .int 0, .int 0, .int 0, .int 0, .int 0, .int 0, .int 0, .int 0])), (q_1, .inl (cA_2, 4, .inr (.inr (.inr (.inr (fun _ => none)))))), (q_3, .inl (cA_4, 12, .inr (.inr (.inr (.inr (fun _ => none))))))] H := hP
  have hD : va_D A [(h0, .inr (8, [.ref q_1, .null, .null, .null, .null, .null, .null, .null, .int 0, .int 0, .int 0, .int 0, .int 0, .int 0, .int 0, .int 0, .int 0, .int 0, .int 0])), (q_1, .inl (cA_2, 4, .inr (.inr (.inr (.inr (fun _ => none)))))), (q_3, .inl (cA_4, 12, .inr (.inr (.inr (.inr (fun _ => none))))))] := hD
  have hK : va_K D vwCl [(cA_2, .object RX0), (cA_4, .object RX3)] s := hK
  refine W.widen (k := 2) (n := 16) (Nat.le_of_ble_eq_true rfl) (Nat.le_of_ble_eq_true rfl) ?_
  refine va_putF (D := D) (ci := 8) (v := .ref q_3) (ty := .array (.object "OddShoes$Person")) (C := RX8) (T := TX8) (N := 19) hx hb hts (fun w h => List.mem_cons_of_mem _ (inG8 w h)) tyX8 tyX8_ok nmX8 hown hK hP hD hS 0 rfl rfl 1 (by decide) (hts _ (List.mem_cons_of_mem _ gw_144)) (fun _ h9 => h9) rfl hin rfl (by decide +kernel) rfl rfl (Nat.le_of_ble_eq_true rfl) dX8_init_18 (fun H locs hP hD hS => ?_)
  have hP : va_P D vwCl [(h0, .inr (8, [.ref q_1, .ref q_3, .null, .null, .null, .null, .null, .null, .int 0, .int 0, .int 0, .int 0, .int 0, .int 0, .int 0, .int 0, .int 0, .int 0, .int 0])), (q_1, .inl (cA_2, 4, .inr (.inr (.inr (.inr (fun _ => none)))))), (q_3, .inl (cA_4, 12, .inr (.inr (.inr (.inr (fun _ => none))))))] H := hP
  have hD : va_D A [(h0, .inr (8, [.ref q_1, .ref q_3, .null, .null, .null, .null, .null, .null, .int 0, .int 0, .int 0, .int 0, .int 0, .int 0, .int 0, .int 0, .int 0, .int 0, .int 0])), (q_1, .inl (cA_2, 4, .inr (.inr (.inr (.inr (fun _ => none)))))), (q_3, .inl (cA_4, 12, .inr (.inr (.inr (.inr (fun _ => none))))))] := hD
  refine lv_aload_n hx hb dX8_init_21 rfl (lv_at hl 0 rfl) ?_
  refine va_new (ci := 1) (fs := [.int 0, .null, .null, .null, .null, .null, .null]) (C := RX1) (T := TX1) (N := 7) hx hb hts (fun w h => List.mem_cons_of_mem _ (inG1 w h)) tyX1 tyX1_ok hown (hts _ (List.mem_cons_of_mem _ gw_145)) (hts _ (List.mem_cons_of_mem _ gw_146)) (hts _ (List.mem_cons_of_mem _ gw_65)) hK hP hD hS hA rfl dvX1 (Nat.le_of_ble_eq_true rfl) (Nat.le_of_ble_eq_true rfl) dX8_init_22 (fun q_5 H hP hD hS => ?_)
  have hP : va_P D vwCl [(h0, .inr (8, [.ref q_1, .ref q_3, .null, .null, .null, .null, .null, .null, .int 0, .int 0, .int 0, .int 0, .int 0, .int 0, .int 0, .int 0, .int 0, .int 0, .int 0])), (q_1, .inl (cA_2, 4, .inr (.inr (.inr (.inr (fun _ => none)))))), (q_3, .inl (cA_4, 12, .inr (.inr (.inr (.inr (fun _ => none)))))), (q_5, .inr (1, [.int 0, .null, .null, .null, .null, .null, .null]))] H := hP
  have hD : va_D A [(h0, .inr (8, [.ref q_1, .ref q_3, .null, .null, .null, .null, .null, .null, .int 0, .int 0, .int 0, .int 0, .int 0, .int 0, .int 0, .int 0, .int 0, .int 0, .int 0])), (q_1, .inl (cA_2, 4, .inr (.inr (.inr (.inr (fun _ => none)))))), (q_3, .inl (cA_4, 12, .inr (.inr (.inr (.inr (fun _ => none)))))), (q_5, .inr (1, [.int 0, .null, .null, .null, .null, .null, .null]))] := hD
  refine W.widen (k := 3) (n := 23) (Nat.le_of_ble_eq_true rfl) (Nat.le_of_ble_eq_true rfl) ?_
  refine lv_dup hx hb dX8_init_25 rfl ?_
  refine fr_v (wr := [(h0, .inr (8, [.ref q_1, .ref q_3, .null, .null, .null, .null, .null, .null, .int 0, .int 0, .int 0, .int 0, .int 0, .int 0, .int 0, .int 0, .int 0, .int 0, .int 0])), (q_1, .inl (cA_2, 4, .inr (.inr (.inr (.inr (fun _ => none)))))), (q_3, .inl (cA_4, 12, .inr (.inr (.inr (.inr (fun _ => none))))))]) (va_runI (As := []) (rest := [.ref q_5, .ref h0]) ⟨hx, hb, hml, hown, hts⟩ (c_X1_init l D H.size q_5 ) (cwI 0 hts (gI (fun w h => List.mem_cons_of_mem _ h) gw_147) rfl rfl rfl (hts _ (List.mem_cons_of_mem _ gw_65)) (hts _ (List.mem_cons_of_mem _ gw_148)) (hts _ (List.mem_cons_of_mem _ gw_149)) rfl (by decide +kernel) ⟨Nat.le_of_ble_eq_true rfl, Nat.le_of_ble_eq_true rfl⟩) (pw_S [3] [] hP hD hK hN rfl rfl (by decide) rfl) rfl rfl hl.1 rfl (lv_room (Nat.le_of_ble_eq_true rfl)) dX8_init_26 ⟨Nat.le_of_ble_eq_true rfl, Nat.le_of_ble_eq_true rfl⟩) hP hD hK hS hA [3] [0, 1, 2] rfl rfl (by decide) (by decide) (fun u_6 H locs hw_8 hP hD hK hS => ?_)
  obtain ⟨ua_9, ub_10, uc_11, ud_12, ue_13, uf_14⟩ := u_6
  try dsimp only at hw_8
  have hP : va_P D vwCl [(h0, .inr (8, [.ref q_1, .ref q_3, .null, .null, .null, .null, .null, .null, .int 0, .int 0, .int 0, .int 0, .int 0, .int 0, .int 0, .int 0, .int 0, .int 0, .int 0])), (q_1, .inl (cA_2, 4, .inr (.inr (.inr (.inr (fun _ => none)))))), (q_3, .inl (cA_4, 12, .inr (.inr (.inr (.inr (fun _ => none)))))), (q_5, .inr (1, [.int 0, .ref ua_9, .ref ub_10, .ref uc_11, .ref ud_12, .ref ue_13, .ref uf_14]))] H := hP
  have hD : va_D A [(h0, .inr (8, [.ref q_1, .ref q_3, .null, .null, .null, .null, .null, .null, .int 0, .int 0, .int 0, .int 0, .int 0, .int 0, .int 0, .int 0, .int 0, .int 0, .int 0])), (q_1, .inl (cA_2, 4, .inr (.inr (.inr (.inr (fun _ => none)))))), (q_3, .inl (cA_4, 12, .inr (.inr (.inr (.inr (fun _ => none)))))), (q_5, .inr (1, [.int 0, .ref ua_9, .ref ub_10, .ref uc_11, .ref ud_12, .ref ue_13, .ref uf_14]))] := hD
  have hK : va_K D vwCl [(cA_2, .object RX0), (cA_4, .object RX3)] s := hK
  refine W.widen (k := 9) (n := 523) (Nat.le_of_ble_eq_true rfl) (Nat.le_of_ble_eq_true rfl) ?_
  refine va_putF (D := D) (ci := 8) (v := .ref q_5) (ty := .object "OddShoes$Measures") (C := RX8) (T := TX8) (N := 19) hx hb hts (fun w h => List.mem_cons_of_mem _ (inG8 w h)) tyX8 tyX8_ok nmX8 hown hK hP hD hS 0 rfl rfl 2 (by decide) (hts _ (List.mem_cons_of_mem _ gw_150)) (fun _ h9 => h9) rfl hin rfl (by decide +kernel) rfl rfl (Nat.le_of_ble_eq_true rfl) dX8_init_29 (fun H locs hP hD hS => ?_)
  have hP : va_P D vwCl [(h0, .inr (8, [.ref q_1, .ref q_3, .ref q_5, .null, .null, .null, .null, .null, .int 0, .int 0, .int 0, .int 0, .int 0, .int 0, .int 0, .int 0, .int 0, .int 0, .int 0])), (q_1, .inl (cA_2, 4, .inr (.inr (.inr (.inr (fun _ => none)))))), (q_3, .inl (cA_4, 12, .inr (.inr (.inr (.inr (fun _ => none)))))), (q_5, .inr (1, [.int 0, .ref ua_9, .ref ub_10, .ref uc_11, .ref ud_12, .ref ue_13, .ref uf_14]))] H := hP
  have hD : va_D A [(h0, .inr (8, [.ref q_1, .ref q_3, .ref q_5, .null, .null, .null, .null, .null, .int 0, .int 0, .int 0, .int 0, .int 0, .int 0, .int 0, .int 0, .int 0, .int 0, .int 0])), (q_1, .inl (cA_2, 4, .inr (.inr (.inr (.inr (fun _ => none)))))), (q_3, .inl (cA_4, 12, .inr (.inr (.inr (.inr (fun _ => none)))))), (q_5, .inr (1, [.int 0, .ref ua_9, .ref ub_10, .ref uc_11, .ref ud_12, .ref ue_13, .ref uf_14]))] := hD
  refine lv_aload_n hx hb dX8_init_32 rfl (lv_at hl 0 rfl) ?_
  refine va_new (ci := 2) (fs := [.null, .null, .null]) (C := RX2) (T := TX2) (N := 3) hx hb hts (fun w h => List.mem_cons_of_mem _ (inG2 w h)) tyX2 tyX2_ok hown (hts _ (List.mem_cons_of_mem _ gw_151)) (hts _ (List.mem_cons_of_mem _ gw_152)) (hts _ (List.mem_cons_of_mem _ gw_153)) hK hP hD hS hA rfl dvX2 (Nat.le_of_ble_eq_true rfl) (Nat.le_of_ble_eq_true rfl) dX8_init_33 (fun q_15 H hP hD hS => ?_)
  have hP : va_P D vwCl [(h0, .inr (8, [.ref q_1, .ref q_3, .ref q_5, .null, .null, .null, .null, .null, .int 0, .int 0, .int 0, .int 0, .int 0, .int 0, .int 0, .int 0, .int 0, .int 0, .int 0])), (q_1, .inl (cA_2, 4, .inr (.inr (.inr (.inr (fun _ => none)))))), (q_3, .inl (cA_4, 12, .inr (.inr (.inr (.inr (fun _ => none)))))), (q_5, .inr (1, [.int 0, .ref ua_9, .ref ub_10, .ref uc_11, .ref ud_12, .ref ue_13, .ref uf_14])), (q_15, .inr (2, [.null, .null, .null]))] H := hP
  have hD : va_D A [(h0, .inr (8, [.ref q_1, .ref q_3, .ref q_5, .null, .null, .null, .null, .null, .int 0, .int 0, .int 0, .int 0, .int 0, .int 0, .int 0, .int 0, .int 0, .int 0, .int 0])), (q_1, .inl (cA_2, 4, .inr (.inr (.inr (.inr (fun _ => none)))))), (q_3, .inl (cA_4, 12, .inr (.inr (.inr (.inr (fun _ => none)))))), (q_5, .inr (1, [.int 0, .ref ua_9, .ref ub_10, .ref uc_11, .ref ud_12, .ref ue_13, .ref uf_14])), (q_15, .inr (2, [.null, .null, .null]))] := hD
  refine W.widen (k := 10) (n := 526) (Nat.le_of_ble_eq_true rfl) (Nat.le_of_ble_eq_true rfl) ?_
  refine lv_dup hx hb dX8_init_36 rfl ?_
  refine fr_v (wr := [(h0, .inr (8, [.ref q_1, .ref q_3, .ref q_5, .null, .null, .null, .null, .null, .int 0, .int 0, .int 0, .int 0, .int 0, .int 0, .int 0, .int 0, .int 0, .int 0, .int 0])), (q_1, .inl (cA_2, 4, .inr (.inr (.inr (.inr (fun _ => none)))))), (q_3, .inl (cA_4, 12, .inr (.inr (.inr (.inr (fun _ => none)))))), (q_5, .inr (1, [.int 0, .ref ua_9, .ref ub_10, .ref uc_11, .ref ud_12, .ref ue_13, .ref uf_14]))]) (va_runIN (As := []) (rest := [.ref q_15, .ref h0]) ⟨hx, hb, hml, hown, hts⟩ (c_X2_init l D H.size q_15 ) ⟨va_cnB 0 hts (gI (fun w h => List.mem_cons_of_mem _ h) gw_154) rfl rfl rfl hN.1 (hts _ (List.mem_cons_of_mem _ gw_153)) (by decide +kernel) ⟨Nat.le_of_ble_eq_true rfl, Nat.le_of_ble_eq_true rfl⟩, rfl, (hts _ (List.mem_cons_of_mem _ gw_155))⟩ (pw_S [4] [] hP hD hK hN rfl rfl (by decide) rfl) rfl rfl hl.1 rfl (lv_room (Nat.le_of_ble_eq_true rfl)) dX8_init_37 ⟨Nat.le_of_ble_eq_true rfl, Nat.le_of_ble_eq_true rfl⟩) hP hD hK hS hA [4] [0, 1, 2, 3] rfl rfl (by decide) (by decide) (fun u_16 H locs hw_18 hP hD hK hS => ?_)
  try dsimp only at hw_18
  have hP : va_P D vwCl [(h0, .inr (8, [.ref q_1, .ref q_3, .ref q_5, .null, .null, .null, .null, .null, .int 0, .int 0, .int 0, .int 0, .int 0, .int 0, .int 0, .int 0, .int 0, .int 0, .int 0])), (q_1, .inl (cA_2, 4, .inr (.inr (.inr (.inr (fun _ => none)))))), (q_3, .inl (cA_4, 12, .inr (.inr (.inr (.inr (fun _ => none)))))), (q_5, .inr (1, [.int 0, .ref ua_9, .ref ub_10, .ref uc_11, .ref ud_12, .ref ue_13, .ref uf_14]))] H := hP
  have hD : va_D A [(h0, .inr (8, [.ref q_1, .ref q_3, .ref q_5, .null, .null, .null, .null, .null, .int 0, .int 0, .int 0, .int 0, .int 0, .int 0, .int 0, .int 0, .int 0, .int 0, .int 0])), (q_1, .inl (cA_2, 4, .inr (.inr (.inr (.inr (fun _ => none)))))), (q_3, .inl (cA_4, 12, .inr (.inr (.inr (.inr (fun _ => none)))))), (q_5, .inr (1, [.int 0, .ref ua_9, .ref ub_10, .ref uc_11, .ref ud_12, .ref ue_13, .ref uf_14]))] := hD
  have hK : va_K D vwCl [(cA_2, .object RX0), (cA_4, .object RX3)] s := hK
  refine W.widen (k := 13) (n := 622) (Nat.le_of_ble_eq_true rfl) (Nat.le_of_ble_eq_true rfl) ?_
  refine va_putF (D := D) (ci := 8) (v := .ref q_15) (ty := .object "OddShoes$Offers") (C := RX8) (T := TX8) (N := 19) hx hb hts (fun w h => List.mem_cons_of_mem _ (inG8 w h)) tyX8 tyX8_ok nmX8 hown hK hP hD hS 0 rfl rfl 3 (by decide) (hts _ (List.mem_cons_of_mem _ gw_127)) (fun _ h9 => h9) rfl hin rfl (by decide +kernel) rfl rfl (Nat.le_of_ble_eq_true rfl) dX8_init_40 (fun H locs hP hD hS => ?_)
  have hP : va_P D vwCl [(h0, .inr (8, [.ref q_1, .ref q_3, .ref q_5, .ref q_15, .null, .null, .null, .null, .int 0, .int 0, .int 0, .int 0, .int 0, .int 0, .int 0, .int 0, .int 0, .int 0, .int 0])), (q_1, .inl (cA_2, 4, .inr (.inr (.inr (.inr (fun _ => none)))))), (q_3, .inl (cA_4, 12, .inr (.inr (.inr (.inr (fun _ => none)))))), (q_5, .inr (1, [.int 0, .ref ua_9, .ref ub_10, .ref uc_11, .ref ud_12, .ref ue_13, .ref uf_14]))] H := hP
  have hD : va_D A [(h0, .inr (8, [.ref q_1, .ref q_3, .ref q_5, .ref q_15, .null, .null, .null, .null, .int 0, .int 0, .int 0, .int 0, .int 0, .int 0, .int 0, .int 0, .int 0, .int 0, .int 0])), (q_1, .inl (cA_2, 4, .inr (.inr (.inr (.inr (fun _ => none)))))), (q_3, .inl (cA_4, 12, .inr (.inr (.inr (.inr (fun _ => none)))))), (q_5, .inr (1, [.int 0, .ref ua_9, .ref ub_10, .ref uc_11, .ref ud_12, .ref ue_13, .ref uf_14]))] := hD
  refine lv_aload_n hx hb dX8_init_43 rfl (lv_at hl 0 rfl) ?_
  refine va_new (ci := 6) (fs := [.null, .null, .null, .null, .null, .null, .int 0, .int 0]) (C := RX6) (T := TX6) (N := 8) hx hb hts (fun w h => List.mem_cons_of_mem _ (inG6 w h)) tyX6 tyX6_ok hown (hts _ (List.mem_cons_of_mem _ gw_156)) (hts _ (List.mem_cons_of_mem _ gw_157)) (hts _ (List.mem_cons_of_mem _ gw_94)) hK hP hD hS hA rfl dvX6 (Nat.le_of_ble_eq_true rfl) (Nat.le_of_ble_eq_true rfl) dX8_init_44 (fun q_19 H hP hD hS => ?_)
  have hP : va_P D vwCl [(h0, .inr (8, [.ref q_1, .ref q_3, .ref q_5, .ref q_15, .null, .null, .null, .null, .int 0, .int 0, .int 0, .int 0, .int 0, .int 0, .int 0, .int 0, .int 0, .int 0, .int 0])), (q_1, .inl (cA_2, 4, .inr (.inr (.inr (.inr (fun _ => none)))))), (q_3, .inl (cA_4, 12, .inr (.inr (.inr (.inr (fun _ => none)))))), (q_5, .inr (1, [.int 0, .ref ua_9, .ref ub_10, .ref uc_11, .ref ud_12, .ref ue_13, .ref uf_14])), (q_19, .inr (6, [.null, .null, .null, .null, .null, .null, .int 0, .int 0]))] H := hP
  have hD : va_D A [(h0, .inr (8, [.ref q_1, .ref q_3, .ref q_5, .ref q_15, .null, .null, .null, .null, .int 0, .int 0, .int 0, .int 0, .int 0, .int 0, .int 0, .int 0, .int 0, .int 0, .int 0])), (q_1, .inl (cA_2, 4, .inr (.inr (.inr (.inr (fun _ => none)))))), (q_3, .inl (cA_4, 12, .inr (.inr (.inr (.inr (fun _ => none)))))), (q_5, .inr (1, [.int 0, .ref ua_9, .ref ub_10, .ref uc_11, .ref ud_12, .ref ue_13, .ref uf_14])), (q_19, .inr (6, [.null, .null, .null, .null, .null, .null, .int 0, .int 0]))] := hD
  refine W.widen (k := 14) (n := 630) (Nat.le_of_ble_eq_true rfl) (Nat.le_of_ble_eq_true rfl) ?_
  refine lv_dup hx hb dX8_init_47 rfl ?_
  refine fr_v (wr := [(h0, .inr (8, [.ref q_1, .ref q_3, .ref q_5, .ref q_15, .null, .null, .null, .null, .int 0, .int 0, .int 0, .int 0, .int 0, .int 0, .int 0, .int 0, .int 0, .int 0, .int 0])), (q_1, .inl (cA_2, 4, .inr (.inr (.inr (.inr (fun _ => none)))))), (q_3, .inl (cA_4, 12, .inr (.inr (.inr (.inr (fun _ => none)))))), (q_5, .inr (1, [.int 0, .ref ua_9, .ref ub_10, .ref uc_11, .ref ud_12, .ref ue_13, .ref uf_14]))]) (va_runIN (As := []) (rest := [.ref q_19, .ref h0]) ⟨hx, hb, hml, hown, hts⟩ (c_X6_init l D H.size q_19 ) ⟨va_cnB 0 hts (gI (fun w h => List.mem_cons_of_mem _ h) gw_158) rfl rfl rfl hN.2.1 (hts _ (List.mem_cons_of_mem _ gw_94)) (by decide +kernel) ⟨Nat.le_of_ble_eq_true rfl, Nat.le_of_ble_eq_true rfl⟩, rfl, (hts _ (List.mem_cons_of_mem _ gw_159))⟩ (pw_S [4] [] hP hD hK hN rfl rfl (by decide) rfl) rfl rfl hl.1 rfl (lv_room (Nat.le_of_ble_eq_true rfl)) dX8_init_48 ⟨Nat.le_of_ble_eq_true rfl, Nat.le_of_ble_eq_true rfl⟩) hP hD hK hS hA [4] [0, 1, 2, 3] rfl rfl (by decide) (by decide) (fun u_20 H locs hw_22 hP hD hK hS => ?_)
  obtain ⟨ua_23, ub_24, uc_25, ud_26, ue_27, uf_28, ug_29, uh_30⟩ := u_20
  try dsimp only at hw_22
  have hP : va_P D vwCl [(h0, .inr (8, [.ref q_1, .ref q_3, .ref q_5, .ref q_15, .null, .null, .null, .null, .int 0, .int 0, .int 0, .int 0, .int 0, .int 0, .int 0, .int 0, .int 0, .int 0, .int 0])), (q_1, .inl (cA_2, 4, .inr (.inr (.inr (.inr (fun _ => none)))))), (q_3, .inl (cA_4, 12, .inr (.inr (.inr (.inr (fun _ => none)))))), (q_5, .inr (1, [.int 0, .ref ua_9, .ref ub_10, .ref uc_11, .ref ud_12, .ref ue_13, .ref uf_14])), (q_19, .inr (6, [.ref ua_23, .ref ub_24, .ref uc_25, .ref ud_26, .ref ue_27, .ref uf_28, .int 0, .int 0])), (ua_23, .inl (ug_29, 12, .inl (fun _ => 0))), (ub_24, .inl (uh_30, 12, .inl (fun _ => 0)))] H := hP
  have hD : va_D A [(h0, .inr (8, [.ref q_1, .ref q_3, .ref q_5, .ref q_15, .null, .null, .null, .null, .int 0, .int 0, .int 0, .int 0, .int 0, .int 0, .int 0, .int 0, .int 0, .int 0, .int 0])), (q_1, .inl (cA_2, 4, .inr (.inr (.inr (.inr (fun _ => none)))))), (q_3, .inl (cA_4, 12, .inr (.inr (.inr (.inr (fun _ => none)))))), (q_5, .inr (1, [.int 0, .ref ua_9, .ref ub_10, .ref uc_11, .ref ud_12, .ref ue_13, .ref uf_14])), (q_19, .inr (6, [.ref ua_23, .ref ub_24, .ref uc_25, .ref ud_26, .ref ue_27, .ref uf_28, .int 0, .int 0])), (ua_23, .inl (ug_29, 12, .inl (fun _ => 0))), (ub_24, .inl (uh_30, 12, .inl (fun _ => 0)))] := hD
  have hK : va_K D vwCl [(cA_2, .object RX0), (cA_4, .object RX3), (ug_29, .int), (uh_30, .int)] s := hK
  refine W.widen (k := 20) (n := 702) (Nat.le_of_ble_eq_true rfl) (Nat.le_of_ble_eq_true rfl) ?_
  refine va_putF (D := D) (ci := 8) (v := .ref q_19) (ty := .object "OddShoes$Rings") (C := RX8) (T := TX8) (N := 19) hx hb hts (fun w h => List.mem_cons_of_mem _ (inG8 w h)) tyX8 tyX8_ok nmX8 hown hK hP hD hS 0 rfl rfl 4 (by decide) (hts _ (List.mem_cons_of_mem _ gw_115)) (fun _ h9 => h9) rfl hin rfl (by decide +kernel) rfl rfl (Nat.le_of_ble_eq_true rfl) dX8_init_51 (fun H locs hP hD hS => ?_)
  have hP : va_P D vwCl [(h0, .inr (8, [.ref q_1, .ref q_3, .ref q_5, .ref q_15, .ref q_19, .null, .null, .null, .int 0, .int 0, .int 0, .int 0, .int 0, .int 0, .int 0, .int 0, .int 0, .int 0, .int 0])), (q_1, .inl (cA_2, 4, .inr (.inr (.inr (.inr (fun _ => none)))))), (q_3, .inl (cA_4, 12, .inr (.inr (.inr (.inr (fun _ => none)))))), (q_5, .inr (1, [.int 0, .ref ua_9, .ref ub_10, .ref uc_11, .ref ud_12, .ref ue_13, .ref uf_14])), (q_19, .inr (6, [.ref ua_23, .ref ub_24, .ref uc_25, .ref ud_26, .ref ue_27, .ref uf_28, .int 0, .int 0])), (ua_23, .inl (ug_29, 12, .inl (fun _ => 0))), (ub_24, .inl (uh_30, 12, .inl (fun _ => 0)))] H := hP
  have hD : va_D A [(h0, .inr (8, [.ref q_1, .ref q_3, .ref q_5, .ref q_15, .ref q_19, .null, .null, .null, .int 0, .int 0, .int 0, .int 0, .int 0, .int 0, .int 0, .int 0, .int 0, .int 0, .int 0])), (q_1, .inl (cA_2, 4, .inr (.inr (.inr (.inr (fun _ => none)))))), (q_3, .inl (cA_4, 12, .inr (.inr (.inr (.inr (fun _ => none)))))), (q_5, .inr (1, [.int 0, .ref ua_9, .ref ub_10, .ref uc_11, .ref ud_12, .ref ue_13, .ref uf_14])), (q_19, .inr (6, [.ref ua_23, .ref ub_24, .ref uc_25, .ref ud_26, .ref ue_27, .ref uf_28, .int 0, .int 0])), (ua_23, .inl (ug_29, 12, .inl (fun _ => 0))), (ub_24, .inl (uh_30, 12, .inl (fun _ => 0)))] := hD
  refine lv_aload_n hx hb dX8_init_54 rfl (lv_at hl 0 rfl) ?_
  refine va_new (ci := 4) (fs := [.null, .null, .null, .null, .null, .int 0, .int 0, .int 0, .int 0, .int 0]) (C := RX4) (T := TX4) (N := 10) hx hb hts (fun w h => List.mem_cons_of_mem _ (inG4 w h)) tyX4 tyX4_ok hown (hts _ (List.mem_cons_of_mem _ gw_160)) (hts _ (List.mem_cons_of_mem _ gw_161)) (hts _ (List.mem_cons_of_mem _ gw_162)) hK hP hD hS hA rfl dvX4 (Nat.le_of_ble_eq_true rfl) (Nat.le_of_ble_eq_true rfl) dX8_init_55 (fun q_31 H hP hD hS => ?_)
  have hP : va_P D vwCl [(h0, .inr (8, [.ref q_1, .ref q_3, .ref q_5, .ref q_15, .ref q_19, .null, .null, .null, .int 0, .int 0, .int 0, .int 0, .int 0, .int 0, .int 0, .int 0, .int 0, .int 0, .int 0])), (q_1, .inl (cA_2, 4, .inr (.inr (.inr (.inr (fun _ => none)))))), (q_3, .inl (cA_4, 12, .inr (.inr (.inr (.inr (fun _ => none)))))), (q_5, .inr (1, [.int 0, .ref ua_9, .ref ub_10, .ref uc_11, .ref ud_12, .ref ue_13, .ref uf_14])), (q_19, .inr (6, [.ref ua_23, .ref ub_24, .ref uc_25, .ref ud_26, .ref ue_27, .ref uf_28, .int 0, .int 0])), (ua_23, .inl (ug_29, 12, .inl (fun _ => 0))), (ub_24, .inl (uh_30, 12, .inl (fun _ => 0))), (q_31, .inr (4, [.null, .null, .null, .null, .null, .int 0, .int 0, .int 0, .int 0, .int 0]))] H := hP
  have hD : va_D A [(h0, .inr (8, [.ref q_1, .ref q_3, .ref q_5, .ref q_15, .ref q_19, .null, .null, .null, .int 0, .int 0, .int 0, .int 0, .int 0, .int 0, .int 0, .int 0, .int 0, .int 0, .int 0])), (q_1, .inl (cA_2, 4, .inr (.inr (.inr (.inr (fun _ => none)))))), (q_3, .inl (cA_4, 12, .inr (.inr (.inr (.inr (fun _ => none)))))), (q_5, .inr (1, [.int 0, .ref ua_9, .ref ub_10, .ref uc_11, .ref ud_12, .ref ue_13, .ref uf_14])), (q_19, .inr (6, [.ref ua_23, .ref ub_24, .ref uc_25, .ref ud_26, .ref ue_27, .ref uf_28, .int 0, .int 0])), (ua_23, .inl (ug_29, 12, .inl (fun _ => 0))), (ub_24, .inl (uh_30, 12, .inl (fun _ => 0))), (q_31, .inr (4, [.null, .null, .null, .null, .null, .int 0, .int 0, .int 0, .int 0, .int 0]))] := hD
  refine W.widen (k := 21) (n := 712) (Nat.le_of_ble_eq_true rfl) (Nat.le_of_ble_eq_true rfl) ?_
  refine lv_dup hx hb dX8_init_58 rfl ?_
  refine fr_v (wr := [(h0, .inr (8, [.ref q_1, .ref q_3, .ref q_5, .ref q_15, .ref q_19, .null, .null, .null, .int 0, .int 0, .int 0, .int 0, .int 0, .int 0, .int 0, .int 0, .int 0, .int 0, .int 0])), (q_1, .inl (cA_2, 4, .inr (.inr (.inr (.inr (fun _ => none)))))), (q_3, .inl (cA_4, 12, .inr (.inr (.inr (.inr (fun _ => none)))))), (q_5, .inr (1, [.int 0, .ref ua_9, .ref ub_10, .ref uc_11, .ref ud_12, .ref ue_13, .ref uf_14])), (q_19, .inr (6, [.ref ua_23, .ref ub_24, .ref uc_25, .ref ud_26, .ref ue_27, .ref uf_28, .int 0, .int 0])), (ua_23, .inl (ug_29, 12, .inl (fun _ => 0))), (ub_24, .inl (uh_30, 12, .inl (fun _ => 0)))]) (va_runIN (As := []) (rest := [.ref q_31, .ref h0]) ⟨hx, hb, hml, hown, hts⟩ (c_X4_init l D H.size q_31 ) ⟨va_cnB 0 hts (gI (fun w h => List.mem_cons_of_mem _ h) gw_163) rfl rfl rfl hN.2.2.1 (hts _ (List.mem_cons_of_mem _ gw_162)) (by decide +kernel) ⟨Nat.le_of_ble_eq_true rfl, Nat.le_of_ble_eq_true rfl⟩, rfl, (hts _ (List.mem_cons_of_mem _ gw_164))⟩ (pw_S [7] [] hP hD hK hN rfl rfl (by decide) rfl) rfl rfl hl.1 rfl (lv_room (Nat.le_of_ble_eq_true rfl)) dX8_init_59 ⟨Nat.le_of_ble_eq_true rfl, Nat.le_of_ble_eq_true rfl⟩) hP hD hK hS hA [7] [0, 1, 2, 3, 4, 5, 6] rfl rfl (by decide) (by decide) (fun u_32 H locs hw_34 hP hD hK hS => ?_)
  obtain ⟨ua_35, ub_36, uc_37, ud_38, ue_39⟩ := u_32
  try dsimp only at hw_34
  have hP : va_P D vwCl [(h0, .inr (8, [.ref q_1, .ref q_3, .ref q_5, .ref q_15, .ref q_19, .null, .null, .null, .int 0, .int 0, .int 0, .int 0, .int 0, .int 0, .int 0, .int 0, .int 0, .int 0, .int 0])), (q_1, .inl (cA_2, 4, .inr (.inr (.inr (.inr (fun _ => none)))))), (q_3, .inl (cA_4, 12, .inr (.inr (.inr (.inr (fun _ => none)))))), (q_5, .inr (1, [.int 0, .ref ua_9, .ref ub_10, .ref uc_11, .ref ud_12, .ref ue_13, .ref uf_14])), (q_19, .inr (6, [.ref ua_23, .ref ub_24, .ref uc_25, .ref ud_26, .ref ue_27, .ref uf_28, .int 0, .int 0])), (ua_23, .inl (ug_29, 12, .inl (fun _ => 0))), (ub_24, .inl (uh_30, 12, .inl (fun _ => 0))), (q_31, .inr (4, [.ref ua_35, .ref ub_36, .ref uc_37, .ref ud_38, .ref ue_39, .int 0, .int 0, .int 0, .int 0, .int 0]))] H := hP
  have hD : va_D A [(h0, .inr (8, [.ref q_1, .ref q_3, .ref q_5, .ref q_15, .ref q_19, .null, .null, .null, .int 0, .int 0, .int 0, .int 0, .int 0, .int 0, .int 0, .int 0, .int 0, .int 0, .int 0])), (q_1, .inl (cA_2, 4, .inr (.inr (.inr (.inr (fun _ => none)))))), (q_3, .inl (cA_4, 12, .inr (.inr (.inr (.inr (fun _ => none)))))), (q_5, .inr (1, [.int 0, .ref ua_9, .ref ub_10, .ref uc_11, .ref ud_12, .ref ue_13, .ref uf_14])), (q_19, .inr (6, [.ref ua_23, .ref ub_24, .ref uc_25, .ref ud_26, .ref ue_27, .ref uf_28, .int 0, .int 0])), (ua_23, .inl (ug_29, 12, .inl (fun _ => 0))), (ub_24, .inl (uh_30, 12, .inl (fun _ => 0))), (q_31, .inr (4, [.ref ua_35, .ref ub_36, .ref uc_37, .ref ud_38, .ref ue_39, .int 0, .int 0, .int 0, .int 0, .int 0]))] := hD
  have hK : va_K D vwCl [(cA_2, .object RX0), (cA_4, .object RX3), (ug_29, .int), (uh_30, .int)] s := hK
  refine W.widen (k := 26) (n := 868) (Nat.le_of_ble_eq_true rfl) (Nat.le_of_ble_eq_true rfl) ?_
  refine va_putF (D := D) (ci := 8) (v := .ref q_31) (ty := .object "OddShoes$Plan") (C := RX8) (T := TX8) (N := 19) hx hb hts (fun w h => List.mem_cons_of_mem _ (inG8 w h)) tyX8 tyX8_ok nmX8 hown hK hP hD hS 0 rfl rfl 5 (by decide) (hts _ (List.mem_cons_of_mem _ gw_165)) (fun _ h9 => h9) rfl hin rfl (by decide +kernel) rfl rfl (Nat.le_of_ble_eq_true rfl) dX8_init_62 (fun H locs hP hD hS => ?_)
  have hP : va_P D vwCl [(h0, .inr (8, [.ref q_1, .ref q_3, .ref q_5, .ref q_15, .ref q_19, .ref q_31, .null, .null, .int 0, .int 0, .int 0, .int 0, .int 0, .int 0, .int 0, .int 0, .int 0, .int 0, .int 0])), (q_1, .inl (cA_2, 4, .inr (.inr (.inr (.inr (fun _ => none)))))), (q_3, .inl (cA_4, 12, .inr (.inr (.inr (.inr (fun _ => none)))))), (q_5, .inr (1, [.int 0, .ref ua_9, .ref ub_10, .ref uc_11, .ref ud_12, .ref ue_13, .ref uf_14])), (q_19, .inr (6, [.ref ua_23, .ref ub_24, .ref uc_25, .ref ud_26, .ref ue_27, .ref uf_28, .int 0, .int 0])), (ua_23, .inl (ug_29, 12, .inl (fun _ => 0))), (ub_24, .inl (uh_30, 12, .inl (fun _ => 0))), (q_31, .inr (4, [.ref ua_35, .ref ub_36, .ref uc_37, .ref ud_38, .ref ue_39, .int 0, .int 0, .int 0, .int 0, .int 0]))] H := hP
  have hD : va_D A [(h0, .inr (8, [.ref q_1, .ref q_3, .ref q_5, .ref q_15, .ref q_19, .ref q_31, .null, .null, .int 0, .int 0, .int 0, .int 0, .int 0, .int 0, .int 0, .int 0, .int 0, .int 0, .int 0])), (q_1, .inl (cA_2, 4, .inr (.inr (.inr (.inr (fun _ => none)))))), (q_3, .inl (cA_4, 12, .inr (.inr (.inr (.inr (fun _ => none)))))), (q_5, .inr (1, [.int 0, .ref ua_9, .ref ub_10, .ref uc_11, .ref ud_12, .ref ue_13, .ref uf_14])), (q_19, .inr (6, [.ref ua_23, .ref ub_24, .ref uc_25, .ref ud_26, .ref ue_27, .ref uf_28, .int 0, .int 0])), (ua_23, .inl (ug_29, 12, .inl (fun _ => 0))), (ub_24, .inl (uh_30, 12, .inl (fun _ => 0))), (q_31, .inr (4, [.ref ua_35, .ref ub_36, .ref uc_37, .ref ud_38, .ref ue_39, .int 0, .int 0, .int 0, .int 0, .int 0]))] := hD
  refine lv_aload_n hx hb dX8_init_65 rfl (lv_at hl 0 rfl) ?_
  refine lv_iconst (v := 5) hx hb dX8_init_66 (by decide) ?_
  refine va_newa (atype := .int) (ty := .int) (N' := 5) (a0 := (5, .inl (fun _ => 0))) hx hb (hts _ (List.mem_cons_of_mem _ gw_14)) rfl hK hP hD hS hA (fun _ => rfl) (by decide) (by decide +kernel) (by decide) (Nat.le_of_ble_eq_true rfl) (Nat.le_of_ble_eq_true rfl) dX8_init_67 (fun q_40 cA_41 H hK hP hD hS => ?_)
  have hP : va_P D vwCl [(h0, .inr (8, [.ref q_1, .ref q_3, .ref q_5, .ref q_15, .ref q_19, .ref q_31, .null, .null, .int 0, .int 0, .int 0, .int 0, .int 0, .int 0, .int 0, .int 0, .int 0, .int 0, .int 0])), (q_1, .inl (cA_2, 4, .inr (.inr (.inr (.inr (fun _ => none)))))), (q_3, .inl (cA_4, 12, .inr (.inr (.inr (.inr (fun _ => none)))))), (q_5, .inr (1, [.int 0, .ref ua_9, .ref ub_10, .ref uc_11, .ref ud_12, .ref ue_13, .ref uf_14])), (q_19, .inr (6, [.ref ua_23, .ref ub_24, .ref uc_25, .ref ud_26, .ref ue_27, .ref uf_28, .int 0, .int 0])), (ua_23, .inl (ug_29, 12, .inl (fun _ => 0))), (ub_24, .inl (uh_30, 12, .inl (fun _ => 0))), (q_31, .inr (4, [.ref ua_35, .ref ub_36, .ref uc_37, .ref ud_38, .ref ue_39, .int 0, .int 0, .int 0, .int 0, .int 0])), (q_40, .inl (cA_41, 5, .inl (fun _ => 0)))] H := hP
  have hD : va_D A [(h0, .inr (8, [.ref q_1, .ref q_3, .ref q_5, .ref q_15, .ref q_19, .ref q_31, .null, .null, .int 0, .int 0, .int 0, .int 0, .int 0, .int 0, .int 0, .int 0, .int 0, .int 0, .int 0])), (q_1, .inl (cA_2, 4, .inr (.inr (.inr (.inr (fun _ => none)))))), (q_3, .inl (cA_4, 12, .inr (.inr (.inr (.inr (fun _ => none)))))), (q_5, .inr (1, [.int 0, .ref ua_9, .ref ub_10, .ref uc_11, .ref ud_12, .ref ue_13, .ref uf_14])), (q_19, .inr (6, [.ref ua_23, .ref ub_24, .ref uc_25, .ref ud_26, .ref ue_27, .ref uf_28, .int 0, .int 0])), (ua_23, .inl (ug_29, 12, .inl (fun _ => 0))), (ub_24, .inl (uh_30, 12, .inl (fun _ => 0))), (q_31, .inr (4, [.ref ua_35, .ref ub_36, .ref uc_37, .ref ud_38, .ref ue_39, .int 0, .int 0, .int 0, .int 0, .int 0])), (q_40, .inl (cA_41, 5, .inl (fun _ => 0)))] := hD
  have hK : va_K D vwCl [(cA_2, .object RX0), (cA_4, .object RX3), (ug_29, .int), (uh_30, .int), (cA_41, .int)] s := hK
  refine W.widen (k := 27) (n := 873) (Nat.le_of_ble_eq_true rfl) (Nat.le_of_ble_eq_true rfl) ?_
  refine va_putF (D := D) (ci := 8) (v := .ref q_40) (ty := .array .int) (C := RX8) (T := TX8) (N := 19) hx hb hts (fun w h => List.mem_cons_of_mem _ (inG8 w h)) tyX8 tyX8_ok nmX8 hown hK hP hD hS 0 rfl rfl 6 (by decide) (hts _ (List.mem_cons_of_mem _ gw_166)) (fun _ h9 => h9) rfl hin rfl (by decide +kernel) rfl rfl (Nat.le_of_ble_eq_true rfl) dX8_init_69 (fun H locs hP hD hS => ?_)
  have hP : va_P D vwCl [(h0, .inr (8, [.ref q_1, .ref q_3, .ref q_5, .ref q_15, .ref q_19, .ref q_31, .ref q_40, .null, .int 0, .int 0, .int 0, .int 0, .int 0, .int 0, .int 0, .int 0, .int 0, .int 0, .int 0])), (q_1, .inl (cA_2, 4, .inr (.inr (.inr (.inr (fun _ => none)))))), (q_3, .inl (cA_4, 12, .inr (.inr (.inr (.inr (fun _ => none)))))), (q_5, .inr (1, [.int 0, .ref ua_9, .ref ub_10, .ref uc_11, .ref ud_12, .ref ue_13, .ref uf_14])), (q_19, .inr (6, [.ref ua_23, .ref ub_24, .ref uc_25, .ref ud_26, .ref ue_27, .ref uf_28, .int 0, .int 0])), (ua_23, .inl (ug_29, 12, .inl (fun _ => 0))), (ub_24, .inl (uh_30, 12, .inl (fun _ => 0))), (q_31, .inr (4, [.ref ua_35, .ref ub_36, .ref uc_37, .ref ud_38, .ref ue_39, .int 0, .int 0, .int 0, .int 0, .int 0])), (q_40, .inl (cA_41, 5, .inl (fun _ => 0)))] H := hP
  have hD : va_D A [(h0, .inr (8, [.ref q_1, .ref q_3, .ref q_5, .ref q_15, .ref q_19, .ref q_31, .ref q_40, .null, .int 0, .int 0, .int 0, .int 0, .int 0, .int 0, .int 0, .int 0, .int 0, .int 0, .int 0])), (q_1, .inl (cA_2, 4, .inr (.inr (.inr (.inr (fun _ => none)))))), (q_3, .inl (cA_4, 12, .inr (.inr (.inr (.inr (fun _ => none)))))), (q_5, .inr (1, [.int 0, .ref ua_9, .ref ub_10, .ref uc_11, .ref ud_12, .ref ue_13, .ref uf_14])), (q_19, .inr (6, [.ref ua_23, .ref ub_24, .ref uc_25, .ref ud_26, .ref ue_27, .ref uf_28, .int 0, .int 0])), (ua_23, .inl (ug_29, 12, .inl (fun _ => 0))), (ub_24, .inl (uh_30, 12, .inl (fun _ => 0))), (q_31, .inr (4, [.ref ua_35, .ref ub_36, .ref uc_37, .ref ud_38, .ref ue_39, .int 0, .int 0, .int 0, .int 0, .int 0])), (q_40, .inl (cA_41, 5, .inl (fun _ => 0)))] := hD
  refine lv_aload_n hx hb dX8_init_72 rfl (lv_at hl 0 rfl) ?_
  refine lv_null hx hb dX8_init_73 ?_
  refine va_put (D := D) (ci := 8) (v := .null) (ty := .object "OddShoes$Planner") (C := RX8) (T := TX8) (N := 19) hx hb hts (fun w h => List.mem_cons_of_mem _ (inG8 w h)) tyX8 tyX8_ok nmX8 hown hK hP hD hS 0 rfl rfl 7 (by decide) (hts _ (List.mem_cons_of_mem _ gw_124)) (fun _ h9 => h9) rfl (by decide +kernel) rfl rfl (Nat.le_of_ble_eq_true rfl) dX8_init_74 (fun H locs hP hD hS => ?_)
  have hP : va_P D vwCl [(h0, .inr (8, [.ref q_1, .ref q_3, .ref q_5, .ref q_15, .ref q_19, .ref q_31, .ref q_40, .null, .int 0, .int 0, .int 0, .int 0, .int 0, .int 0, .int 0, .int 0, .int 0, .int 0, .int 0])), (q_1, .inl (cA_2, 4, .inr (.inr (.inr (.inr (fun _ => none)))))), (q_3, .inl (cA_4, 12, .inr (.inr (.inr (.inr (fun _ => none)))))), (q_5, .inr (1, [.int 0, .ref ua_9, .ref ub_10, .ref uc_11, .ref ud_12, .ref ue_13, .ref uf_14])), (q_19, .inr (6, [.ref ua_23, .ref ub_24, .ref uc_25, .ref ud_26, .ref ue_27, .ref uf_28, .int 0, .int 0])), (ua_23, .inl (ug_29, 12, .inl (fun _ => 0))), (ub_24, .inl (uh_30, 12, .inl (fun _ => 0))), (q_31, .inr (4, [.ref ua_35, .ref ub_36, .ref uc_37, .ref ud_38, .ref ue_39, .int 0, .int 0, .int 0, .int 0, .int 0])), (q_40, .inl (cA_41, 5, .inl (fun _ => 0)))] H := hP
  have hD : va_D A [(h0, .inr (8, [.ref q_1, .ref q_3, .ref q_5, .ref q_15, .ref q_19, .ref q_31, .ref q_40, .null, .int 0, .int 0, .int 0, .int 0, .int 0, .int 0, .int 0, .int 0, .int 0, .int 0, .int 0])), (q_1, .inl (cA_2, 4, .inr (.inr (.inr (.inr (fun _ => none)))))), (q_3, .inl (cA_4, 12, .inr (.inr (.inr (.inr (fun _ => none)))))), (q_5, .inr (1, [.int 0, .ref ua_9, .ref ub_10, .ref uc_11, .ref ud_12, .ref ue_13, .ref uf_14])), (q_19, .inr (6, [.ref ua_23, .ref ub_24, .ref uc_25, .ref ud_26, .ref ue_27, .ref uf_28, .int 0, .int 0])), (ua_23, .inl (ug_29, 12, .inl (fun _ => 0))), (ub_24, .inl (uh_30, 12, .inl (fun _ => 0))), (q_31, .inr (4, [.ref ua_35, .ref ub_36, .ref uc_37, .ref ud_38, .ref ue_39, .int 0, .int 0, .int 0, .int 0, .int 0])), (q_40, .inl (cA_41, 5, .inl (fun _ => 0)))] := hD
  refine lv_aload_n hx hb dX8_init_77 rfl (lv_at hl 0 rfl) ?_
  refine lv_iconst (v := 0) hx hb dX8_init_78 (by decide) ?_
  refine va_put (D := D) (ci := 8) (v := .int 0) (ty := .int) (C := RX8) (T := TX8) (N := 19) hx hb hts (fun w h => List.mem_cons_of_mem _ (inG8 w h)) tyX8 tyX8_ok nmX8 hown hK hP hD hS 0 rfl rfl 8 (by decide) (hts _ (List.mem_cons_of_mem _ gw_4)) (fun _ h9 => h9) rfl (by decide +kernel) rfl rfl (Nat.le_of_ble_eq_true rfl) dX8_init_79 (fun H locs hP hD hS => ?_)
  have hP : va_P D vwCl [(h0, .inr (8, [.ref q_1, .ref q_3, .ref q_5, .ref q_15, .ref q_19, .ref q_31, .ref q_40, .null, .int 0, .int 0, .int 0, .int 0, .int 0, .int 0, .int 0, .int 0, .int 0, .int 0, .int 0])), (q_1, .inl (cA_2, 4, .inr (.inr (.inr (.inr (fun _ => none)))))), (q_3, .inl (cA_4, 12, .inr (.inr (.inr (.inr (fun _ => none)))))), (q_5, .inr (1, [.int 0, .ref ua_9, .ref ub_10, .ref uc_11, .ref ud_12, .ref ue_13, .ref uf_14])), (q_19, .inr (6, [.ref ua_23, .ref ub_24, .ref uc_25, .ref ud_26, .ref ue_27, .ref uf_28, .int 0, .int 0])), (ua_23, .inl (ug_29, 12, .inl (fun _ => 0))), (ub_24, .inl (uh_30, 12, .inl (fun _ => 0))), (q_31, .inr (4, [.ref ua_35, .ref ub_36, .ref uc_37, .ref ud_38, .ref ue_39, .int 0, .int 0, .int 0, .int 0, .int 0])), (q_40, .inl (cA_41, 5, .inl (fun _ => 0)))] H := hP
  have hD : va_D A [(h0, .inr (8, [.ref q_1, .ref q_3, .ref q_5, .ref q_15, .ref q_19, .ref q_31, .ref q_40, .null, .int 0, .int 0, .int 0, .int 0, .int 0, .int 0, .int 0, .int 0, .int 0, .int 0, .int 0])), (q_1, .inl (cA_2, 4, .inr (.inr (.inr (.inr (fun _ => none)))))), (q_3, .inl (cA_4, 12, .inr (.inr (.inr (.inr (fun _ => none)))))), (q_5, .inr (1, [.int 0, .ref ua_9, .ref ub_10, .ref uc_11, .ref ud_12, .ref ue_13, .ref uf_14])), (q_19, .inr (6, [.ref ua_23, .ref ub_24, .ref uc_25, .ref ud_26, .ref ue_27, .ref uf_28, .int 0, .int 0])), (ua_23, .inl (ug_29, 12, .inl (fun _ => 0))), (ub_24, .inl (uh_30, 12, .inl (fun _ => 0))), (q_31, .inr (4, [.ref ua_35, .ref ub_36, .ref uc_37, .ref ud_38, .ref ue_39, .int 0, .int 0, .int 0, .int 0, .int 0])), (q_40, .inl (cA_41, 5, .inl (fun _ => 0)))] := hD
  refine lv_aload_n hx hb dX8_init_82 rfl (lv_at hl 0 rfl) ?_
  refine lv_iconst (v := 0) hx hb dX8_init_83 (by decide) ?_
  refine va_put (D := D) (ci := 8) (v := .int 0) (ty := .int) (C := RX8) (T := TX8) (N := 19) hx hb hts (fun w h => List.mem_cons_of_mem _ (inG8 w h)) tyX8 tyX8_ok nmX8 hown hK hP hD hS 0 rfl rfl 9 (by decide) (hts _ (List.mem_cons_of_mem _ gw_5)) (fun _ h9 => h9) rfl (by decide +kernel) rfl rfl (Nat.le_of_ble_eq_true rfl) dX8_init_84 (fun H locs hP hD hS => ?_)
  have hP : va_P D vwCl [(h0, .inr (8, [.ref q_1, .ref q_3, .ref q_5, .ref q_15, .ref q_19, .ref q_31, .ref q_40, .null, .int 0, .int 0, .int 0, .int 0, .int 0, .int 0, .int 0, .int 0, .int 0, .int 0, .int 0])), (q_1, .inl (cA_2, 4, .inr (.inr (.inr (.inr (fun _ => none)))))), (q_3, .inl (cA_4, 12, .inr (.inr (.inr (.inr (fun _ => none)))))), (q_5, .inr (1, [.int 0, .ref ua_9, .ref ub_10, .ref uc_11, .ref ud_12, .ref ue_13, .ref uf_14])), (q_19, .inr (6, [.ref ua_23, .ref ub_24, .ref uc_25, .ref ud_26, .ref ue_27, .ref uf_28, .int 0, .int 0])), (ua_23, .inl (ug_29, 12, .inl (fun _ => 0))), (ub_24, .inl (uh_30, 12, .inl (fun _ => 0))), (q_31, .inr (4, [.ref ua_35, .ref ub_36, .ref uc_37, .ref ud_38, .ref ue_39, .int 0, .int 0, .int 0, .int 0, .int 0])), (q_40, .inl (cA_41, 5, .inl (fun _ => 0)))] H := hP
  have hD : va_D A [(h0, .inr (8, [.ref q_1, .ref q_3, .ref q_5, .ref q_15, .ref q_19, .ref q_31, .ref q_40, .null, .int 0, .int 0, .int 0, .int 0, .int 0, .int 0, .int 0, .int 0, .int 0, .int 0, .int 0])), (q_1, .inl (cA_2, 4, .inr (.inr (.inr (.inr (fun _ => none)))))), (q_3, .inl (cA_4, 12, .inr (.inr (.inr (.inr (fun _ => none)))))), (q_5, .inr (1, [.int 0, .ref ua_9, .ref ub_10, .ref uc_11, .ref ud_12, .ref ue_13, .ref uf_14])), (q_19, .inr (6, [.ref ua_23, .ref ub_24, .ref uc_25, .ref ud_26, .ref ue_27, .ref uf_28, .int 0, .int 0])), (ua_23, .inl (ug_29, 12, .inl (fun _ => 0))), (ub_24, .inl (uh_30, 12, .inl (fun _ => 0))), (q_31, .inr (4, [.ref ua_35, .ref ub_36, .ref uc_37, .ref ud_38, .ref ue_39, .int 0, .int 0, .int 0, .int 0, .int 0])), (q_40, .inl (cA_41, 5, .inl (fun _ => 0)))] := hD
  refine lv_aload_n hx hb dX8_init_87 rfl (lv_at hl 0 rfl) ?_
  refine lv_iconst (v := 0) hx hb dX8_init_88 (by decide) ?_
  refine va_put (D := D) (ci := 8) (v := .int 0) (ty := .int) (C := RX8) (T := TX8) (N := 19) hx hb hts (fun w h => List.mem_cons_of_mem _ (inG8 w h)) tyX8 tyX8_ok nmX8 hown hK hP hD hS 0 rfl rfl 10 (by decide) (hts _ (List.mem_cons_of_mem _ gw_167)) (fun _ h9 => h9) rfl (by decide +kernel) rfl rfl (Nat.le_of_ble_eq_true rfl) dX8_init_89 (fun H locs hP hD hS => ?_)
  have hP : va_P D vwCl [(h0, .inr (8, [.ref q_1, .ref q_3, .ref q_5, .ref q_15, .ref q_19, .ref q_31, .ref q_40, .null, .int 0, .int 0, .int 0, .int 0, .int 0, .int 0, .int 0, .int 0, .int 0, .int 0, .int 0])), (q_1, .inl (cA_2, 4, .inr (.inr (.inr (.inr (fun _ => none)))))), (q_3, .inl (cA_4, 12, .inr (.inr (.inr (.inr (fun _ => none)))))), (q_5, .inr (1, [.int 0, .ref ua_9, .ref ub_10, .ref uc_11, .ref ud_12, .ref ue_13, .ref uf_14])), (q_19, .inr (6, [.ref ua_23, .ref ub_24, .ref uc_25, .ref ud_26, .ref ue_27, .ref uf_28, .int 0, .int 0])), (ua_23, .inl (ug_29, 12, .inl (fun _ => 0))), (ub_24, .inl (uh_30, 12, .inl (fun _ => 0))), (q_31, .inr (4, [.ref ua_35, .ref ub_36, .ref uc_37, .ref ud_38, .ref ue_39, .int 0, .int 0, .int 0, .int 0, .int 0])), (q_40, .inl (cA_41, 5, .inl (fun _ => 0)))] H := hP
  have hD : va_D A [(h0, .inr (8, [.ref q_1, .ref q_3, .ref q_5, .ref q_15, .ref q_19, .ref q_31, .ref q_40, .null, .int 0, .int 0, .int 0, .int 0, .int 0, .int 0, .int 0, .int 0, .int 0, .int 0, .int 0])), (q_1, .inl (cA_2, 4, .inr (.inr (.inr (.inr (fun _ => none)))))), (q_3, .inl (cA_4, 12, .inr (.inr (.inr (.inr (fun _ => none)))))), (q_5, .inr (1, [.int 0, .ref ua_9, .ref ub_10, .ref uc_11, .ref ud_12, .ref ue_13, .ref uf_14])), (q_19, .inr (6, [.ref ua_23, .ref ub_24, .ref uc_25, .ref ud_26, .ref ue_27, .ref uf_28, .int 0, .int 0])), (ua_23, .inl (ug_29, 12, .inl (fun _ => 0))), (ub_24, .inl (uh_30, 12, .inl (fun _ => 0))), (q_31, .inr (4, [.ref ua_35, .ref ub_36, .ref uc_37, .ref ud_38, .ref ue_39, .int 0, .int 0, .int 0, .int 0, .int 0])), (q_40, .inl (cA_41, 5, .inl (fun _ => 0)))] := hD
  refine lv_aload_n hx hb dX8_init_92 rfl (lv_at hl 0 rfl) ?_
  refine lv_iconst (v := 0) hx hb dX8_init_93 (by decide) ?_
  refine va_put (D := D) (ci := 8) (v := .int 0) (ty := .int) (C := RX8) (T := TX8) (N := 19) hx hb hts (fun w h => List.mem_cons_of_mem _ (inG8 w h)) tyX8 tyX8_ok nmX8 hown hK hP hD hS 0 rfl rfl 11 (by decide) (hts _ (List.mem_cons_of_mem _ gw_7)) (fun _ h9 => h9) rfl (by decide +kernel) rfl rfl (Nat.le_of_ble_eq_true rfl) dX8_init_94 (fun H locs hP hD hS => ?_)
  have hP : va_P D vwCl [(h0, .inr (8, [.ref q_1, .ref q_3, .ref q_5, .ref q_15, .ref q_19, .ref q_31, .ref q_40, .null, .int 0, .int 0, .int 0, .int 0, .int 0, .int 0, .int 0, .int 0, .int 0, .int 0, .int 0])), (q_1, .inl (cA_2, 4, .inr (.inr (.inr (.inr (fun _ => none)))))), (q_3, .inl (cA_4, 12, .inr (.inr (.inr (.inr (fun _ => none)))))), (q_5, .inr (1, [.int 0, .ref ua_9, .ref ub_10, .ref uc_11, .ref ud_12, .ref ue_13, .ref uf_14])), (q_19, .inr (6, [.ref ua_23, .ref ub_24, .ref uc_25, .ref ud_26, .ref ue_27, .ref uf_28, .int 0, .int 0])), (ua_23, .inl (ug_29, 12, .inl (fun _ => 0))), (ub_24, .inl (uh_30, 12, .inl (fun _ => 0))), (q_31, .inr (4, [.ref ua_35, .ref ub_36, .ref uc_37, .ref ud_38, .ref ue_39, .int 0, .int 0, .int 0, .int 0, .int 0])), (q_40, .inl (cA_41, 5, .inl (fun _ => 0)))] H := hP
  have hD : va_D A [(h0, .inr (8, [.ref q_1, .ref q_3, .ref q_5, .ref q_15, .ref q_19, .ref q_31, .ref q_40, .null, .int 0, .int 0, .int 0, .int 0, .int 0, .int 0, .int 0, .int 0, .int 0, .int 0, .int 0])), (q_1, .inl (cA_2, 4, .inr (.inr (.inr (.inr (fun _ => none)))))), (q_3, .inl (cA_4, 12, .inr (.inr (.inr (.inr (fun _ => none)))))), (q_5, .inr (1, [.int 0, .ref ua_9, .ref ub_10, .ref uc_11, .ref ud_12, .ref ue_13, .ref uf_14])), (q_19, .inr (6, [.ref ua_23, .ref ub_24, .ref uc_25, .ref ud_26, .ref ue_27, .ref uf_28, .int 0, .int 0])), (ua_23, .inl (ug_29, 12, .inl (fun _ => 0))), (ub_24, .inl (uh_30, 12, .inl (fun _ => 0))), (q_31, .inr (4, [.ref ua_35, .ref ub_36, .ref uc_37, .ref ud_38, .ref ue_39, .int 0, .int 0, .int 0, .int 0, .int 0])), (q_40, .inl (cA_41, 5, .inl (fun _ => 0)))] := hD
  refine lv_aload_n hx hb dX8_init_97 rfl (lv_at hl 0 rfl) ?_
  refine lv_bipush (v := 100) hx hb dX8_init_98 (by decide) ?_
  refine va_put (D := D) (ci := 8) (v := .int 100) (ty := .int) (C := RX8) (T := TX8) (N := 19) hx hb hts (fun w h => List.mem_cons_of_mem _ (inG8 w h)) tyX8 tyX8_ok nmX8 hown hK hP hD hS 0 rfl rfl 12 (by decide) (hts _ (List.mem_cons_of_mem _ gw_168)) (fun _ h9 => h9) rfl (by decide +kernel) rfl rfl (Nat.le_of_ble_eq_true rfl) dX8_init_100 (fun H locs hP hD hS => ?_)
  have hP : va_P D vwCl [(h0, .inr (8, [.ref q_1, .ref q_3, .ref q_5, .ref q_15, .ref q_19, .ref q_31, .ref q_40, .null, .int 0, .int 0, .int 0, .int 0, .int 100, .int 0, .int 0, .int 0, .int 0, .int 0, .int 0])), (q_1, .inl (cA_2, 4, .inr (.inr (.inr (.inr (fun _ => none)))))), (q_3, .inl (cA_4, 12, .inr (.inr (.inr (.inr (fun _ => none)))))), (q_5, .inr (1, [.int 0, .ref ua_9, .ref ub_10, .ref uc_11, .ref ud_12, .ref ue_13, .ref uf_14])), (q_19, .inr (6, [.ref ua_23, .ref ub_24, .ref uc_25, .ref ud_26, .ref ue_27, .ref uf_28, .int 0, .int 0])), (ua_23, .inl (ug_29, 12, .inl (fun _ => 0))), (ub_24, .inl (uh_30, 12, .inl (fun _ => 0))), (q_31, .inr (4, [.ref ua_35, .ref ub_36, .ref uc_37, .ref ud_38, .ref ue_39, .int 0, .int 0, .int 0, .int 0, .int 0])), (q_40, .inl (cA_41, 5, .inl (fun _ => 0)))] H := hP
  have hD : va_D A [(h0, .inr (8, [.ref q_1, .ref q_3, .ref q_5, .ref q_15, .ref q_19, .ref q_31, .ref q_40, .null, .int 0, .int 0, .int 0, .int 0, .int 100, .int 0, .int 0, .int 0, .int 0, .int 0, .int 0])), (q_1, .inl (cA_2, 4, .inr (.inr (.inr (.inr (fun _ => none)))))), (q_3, .inl (cA_4, 12, .inr (.inr (.inr (.inr (fun _ => none)))))), (q_5, .inr (1, [.int 0, .ref ua_9, .ref ub_10, .ref uc_11, .ref ud_12, .ref ue_13, .ref uf_14])), (q_19, .inr (6, [.ref ua_23, .ref ub_24, .ref uc_25, .ref ud_26, .ref ue_27, .ref uf_28, .int 0, .int 0])), (ua_23, .inl (ug_29, 12, .inl (fun _ => 0))), (ub_24, .inl (uh_30, 12, .inl (fun _ => 0))), (q_31, .inr (4, [.ref ua_35, .ref ub_36, .ref uc_37, .ref ud_38, .ref ue_39, .int 0, .int 0, .int 0, .int 0, .int 0])), (q_40, .inl (cA_41, 5, .inl (fun _ => 0)))] := hD
  refine lv_aload_n hx hb dX8_init_103 rfl (lv_at hl 0 rfl) ?_
  refine lv_bipush (v := 10) hx hb dX8_init_104 (by decide) ?_
  refine va_put (D := D) (ci := 8) (v := .int 10) (ty := .int) (C := RX8) (T := TX8) (N := 19) hx hb hts (fun w h => List.mem_cons_of_mem _ (inG8 w h)) tyX8 tyX8_ok nmX8 hown hK hP hD hS 0 rfl rfl 13 (by decide) (hts _ (List.mem_cons_of_mem _ gw_169)) (fun _ h9 => h9) rfl (by decide +kernel) rfl rfl (Nat.le_of_ble_eq_true rfl) dX8_init_106 (fun H locs hP hD hS => ?_)
  have hP : va_P D vwCl [(h0, .inr (8, [.ref q_1, .ref q_3, .ref q_5, .ref q_15, .ref q_19, .ref q_31, .ref q_40, .null, .int 0, .int 0, .int 0, .int 0, .int 100, .int 10, .int 0, .int 0, .int 0, .int 0, .int 0])), (q_1, .inl (cA_2, 4, .inr (.inr (.inr (.inr (fun _ => none)))))), (q_3, .inl (cA_4, 12, .inr (.inr (.inr (.inr (fun _ => none)))))), (q_5, .inr (1, [.int 0, .ref ua_9, .ref ub_10, .ref uc_11, .ref ud_12, .ref ue_13, .ref uf_14])), (q_19, .inr (6, [.ref ua_23, .ref ub_24, .ref uc_25, .ref ud_26, .ref ue_27, .ref uf_28, .int 0, .int 0])), (ua_23, .inl (ug_29, 12, .inl (fun _ => 0))), (ub_24, .inl (uh_30, 12, .inl (fun _ => 0))), (q_31, .inr (4, [.ref ua_35, .ref ub_36, .ref uc_37, .ref ud_38, .ref ue_39, .int 0, .int 0, .int 0, .int 0, .int 0])), (q_40, .inl (cA_41, 5, .inl (fun _ => 0)))] H := hP
  have hD : va_D A [(h0, .inr (8, [.ref q_1, .ref q_3, .ref q_5, .ref q_15, .ref q_19, .ref q_31, .ref q_40, .null, .int 0, .int 0, .int 0, .int 0, .int 100, .int 10, .int 0, .int 0, .int 0, .int 0, .int 0])), (q_1, .inl (cA_2, 4, .inr (.inr (.inr (.inr (fun _ => none)))))), (q_3, .inl (cA_4, 12, .inr (.inr (.inr (.inr (fun _ => none)))))), (q_5, .inr (1, [.int 0, .ref ua_9, .ref ub_10, .ref uc_11, .ref ud_12, .ref ue_13, .ref uf_14])), (q_19, .inr (6, [.ref ua_23, .ref ub_24, .ref uc_25, .ref ud_26, .ref ue_27, .ref uf_28, .int 0, .int 0])), (ua_23, .inl (ug_29, 12, .inl (fun _ => 0))), (ub_24, .inl (uh_30, 12, .inl (fun _ => 0))), (q_31, .inr (4, [.ref ua_35, .ref ub_36, .ref uc_37, .ref ud_38, .ref ue_39, .int 0, .int 0, .int 0, .int 0, .int 0])), (q_40, .inl (cA_41, 5, .inl (fun _ => 0)))] := hD
  refine lv_aload_n hx hb dX8_init_109 rfl (lv_at hl 0 rfl) ?_
  refine lv_iconst (v := 0) hx hb dX8_init_110 (by decide) ?_
  refine va_put (D := D) (ci := 8) (v := .int 0) (ty := .boolean) (C := RX8) (T := TX8) (N := 19) hx hb hts (fun w h => List.mem_cons_of_mem _ (inG8 w h)) tyX8 tyX8_ok nmX8 hown hK hP hD hS 0 rfl rfl 14 (by decide) (hts _ (List.mem_cons_of_mem _ gw_170)) (fun _ h9 => h9) rfl (by decide +kernel) rfl rfl (Nat.le_of_ble_eq_true rfl) dX8_init_111 (fun H locs hP hD hS => ?_)
  have hP : va_P D vwCl [(h0, .inr (8, [.ref q_1, .ref q_3, .ref q_5, .ref q_15, .ref q_19, .ref q_31, .ref q_40, .null, .int 0, .int 0, .int 0, .int 0, .int 100, .int 10, .int 0, .int 0, .int 0, .int 0, .int 0])), (q_1, .inl (cA_2, 4, .inr (.inr (.inr (.inr (fun _ => none)))))), (q_3, .inl (cA_4, 12, .inr (.inr (.inr (.inr (fun _ => none)))))), (q_5, .inr (1, [.int 0, .ref ua_9, .ref ub_10, .ref uc_11, .ref ud_12, .ref ue_13, .ref uf_14])), (q_19, .inr (6, [.ref ua_23, .ref ub_24, .ref uc_25, .ref ud_26, .ref ue_27, .ref uf_28, .int 0, .int 0])), (ua_23, .inl (ug_29, 12, .inl (fun _ => 0))), (ub_24, .inl (uh_30, 12, .inl (fun _ => 0))), (q_31, .inr (4, [.ref ua_35, .ref ub_36, .ref uc_37, .ref ud_38, .ref ue_39, .int 0, .int 0, .int 0, .int 0, .int 0])), (q_40, .inl (cA_41, 5, .inl (fun _ => 0)))] H := hP
  have hD : va_D A [(h0, .inr (8, [.ref q_1, .ref q_3, .ref q_5, .ref q_15, .ref q_19, .ref q_31, .ref q_40, .null, .int 0, .int 0, .int 0, .int 0, .int 100, .int 10, .int 0, .int 0, .int 0, .int 0, .int 0])), (q_1, .inl (cA_2, 4, .inr (.inr (.inr (.inr (fun _ => none)))))), (q_3, .inl (cA_4, 12, .inr (.inr (.inr (.inr (fun _ => none)))))), (q_5, .inr (1, [.int 0, .ref ua_9, .ref ub_10, .ref uc_11, .ref ud_12, .ref ue_13, .ref uf_14])), (q_19, .inr (6, [.ref ua_23, .ref ub_24, .ref uc_25, .ref ud_26, .ref ue_27, .ref uf_28, .int 0, .int 0])), (ua_23, .inl (ug_29, 12, .inl (fun _ => 0))), (ub_24, .inl (uh_30, 12, .inl (fun _ => 0))), (q_31, .inr (4, [.ref ua_35, .ref ub_36, .ref uc_37, .ref ud_38, .ref ue_39, .int 0, .int 0, .int 0, .int 0, .int 0])), (q_40, .inl (cA_41, 5, .inl (fun _ => 0)))] := hD
  refine lv_aload_n hx hb dX8_init_114 rfl (lv_at hl 0 rfl) ?_
  refine lv_iconst (v := 0) hx hb dX8_init_115 (by decide) ?_
  refine va_put (D := D) (ci := 8) (v := .int 0) (ty := .int) (C := RX8) (T := TX8) (N := 19) hx hb hts (fun w h => List.mem_cons_of_mem _ (inG8 w h)) tyX8 tyX8_ok nmX8 hown hK hP hD hS 0 rfl rfl 15 (by decide) (hts _ (List.mem_cons_of_mem _ gw_171)) (fun _ h9 => h9) rfl (by decide +kernel) rfl rfl (Nat.le_of_ble_eq_true rfl) dX8_init_116 (fun H locs hP hD hS => ?_)
  have hP : va_P D vwCl [(h0, .inr (8, [.ref q_1, .ref q_3, .ref q_5, .ref q_15, .ref q_19, .ref q_31, .ref q_40, .null, .int 0, .int 0, .int 0, .int 0, .int 100, .int 10, .int 0, .int 0, .int 0, .int 0, .int 0])), (q_1, .inl (cA_2, 4, .inr (.inr (.inr (.inr (fun _ => none)))))), (q_3, .inl (cA_4, 12, .inr (.inr (.inr (.inr (fun _ => none)))))), (q_5, .inr (1, [.int 0, .ref ua_9, .ref ub_10, .ref uc_11, .ref ud_12, .ref ue_13, .ref uf_14])), (q_19, .inr (6, [.ref ua_23, .ref ub_24, .ref uc_25, .ref ud_26, .ref ue_27, .ref uf_28, .int 0, .int 0])), (ua_23, .inl (ug_29, 12, .inl (fun _ => 0))), (ub_24, .inl (uh_30, 12, .inl (fun _ => 0))), (q_31, .inr (4, [.ref ua_35, .ref ub_36, .ref uc_37, .ref ud_38, .ref ue_39, .int 0, .int 0, .int 0, .int 0, .int 0])), (q_40, .inl (cA_41, 5, .inl (fun _ => 0)))] H := hP
  have hD : va_D A [(h0, .inr (8, [.ref q_1, .ref q_3, .ref q_5, .ref q_15, .ref q_19, .ref q_31, .ref q_40, .null, .int 0, .int 0, .int 0, .int 0, .int 100, .int 10, .int 0, .int 0, .int 0, .int 0, .int 0])), (q_1, .inl (cA_2, 4, .inr (.inr (.inr (.inr (fun _ => none)))))), (q_3, .inl (cA_4, 12, .inr (.inr (.inr (.inr (fun _ => none)))))), (q_5, .inr (1, [.int 0, .ref ua_9, .ref ub_10, .ref uc_11, .ref ud_12, .ref ue_13, .ref uf_14])), (q_19, .inr (6, [.ref ua_23, .ref ub_24, .ref uc_25, .ref ud_26, .ref ue_27, .ref uf_28, .int 0, .int 0])), (ua_23, .inl (ug_29, 12, .inl (fun _ => 0))), (ub_24, .inl (uh_30, 12, .inl (fun _ => 0))), (q_31, .inr (4, [.ref ua_35, .ref ub_36, .ref uc_37, .ref ud_38, .ref ue_39, .int 0, .int 0, .int 0, .int 0, .int 0])), (q_40, .inl (cA_41, 5, .inl (fun _ => 0)))] := hD
  refine lv_aload_n hx hb dX8_init_119 rfl (lv_at hl 0 rfl) ?_
  refine lv_iconst (v := 0) hx hb dX8_init_120 (by decide) ?_
  refine va_put (D := D) (ci := 8) (v := .int 0) (ty := .int) (C := RX8) (T := TX8) (N := 19) hx hb hts (fun w h => List.mem_cons_of_mem _ (inG8 w h)) tyX8 tyX8_ok nmX8 hown hK hP hD hS 0 rfl rfl 16 (by decide) (hts _ (List.mem_cons_of_mem _ gw_172)) (fun _ h9 => h9) rfl (by decide +kernel) rfl rfl (Nat.le_of_ble_eq_true rfl) dX8_init_121 (fun H locs hP hD hS => ?_)
  have hP : va_P D vwCl [(h0, .inr (8, [.ref q_1, .ref q_3, .ref q_5, .ref q_15, .ref q_19, .ref q_31, .ref q_40, .null, .int 0, .int 0, .int 0, .int 0, .int 100, .int 10, .int 0, .int 0, .int 0, .int 0, .int 0])), (q_1, .inl (cA_2, 4, .inr (.inr (.inr (.inr (fun _ => none)))))), (q_3, .inl (cA_4, 12, .inr (.inr (.inr (.inr (fun _ => none)))))), (q_5, .inr (1, [.int 0, .ref ua_9, .ref ub_10, .ref uc_11, .ref ud_12, .ref ue_13, .ref uf_14])), (q_19, .inr (6, [.ref ua_23, .ref ub_24, .ref uc_25, .ref ud_26, .ref ue_27, .ref uf_28, .int 0, .int 0])), (ua_23, .inl (ug_29, 12, .inl (fun _ => 0))), (ub_24, .inl (uh_30, 12, .inl (fun _ => 0))), (q_31, .inr (4, [.ref ua_35, .ref ub_36, .ref uc_37, .ref ud_38, .ref ue_39, .int 0, .int 0, .int 0, .int 0, .int 0])), (q_40, .inl (cA_41, 5, .inl (fun _ => 0)))] H := hP
  have hD : va_D A [(h0, .inr (8, [.ref q_1, .ref q_3, .ref q_5, .ref q_15, .ref q_19, .ref q_31, .ref q_40, .null, .int 0, .int 0, .int 0, .int 0, .int 100, .int 10, .int 0, .int 0, .int 0, .int 0, .int 0])), (q_1, .inl (cA_2, 4, .inr (.inr (.inr (.inr (fun _ => none)))))), (q_3, .inl (cA_4, 12, .inr (.inr (.inr (.inr (fun _ => none)))))), (q_5, .inr (1, [.int 0, .ref ua_9, .ref ub_10, .ref uc_11, .ref ud_12, .ref ue_13, .ref uf_14])), (q_19, .inr (6, [.ref ua_23, .ref ub_24, .ref uc_25, .ref ud_26, .ref ue_27, .ref uf_28, .int 0, .int 0])), (ua_23, .inl (ug_29, 12, .inl (fun _ => 0))), (ub_24, .inl (uh_30, 12, .inl (fun _ => 0))), (q_31, .inr (4, [.ref ua_35, .ref ub_36, .ref uc_37, .ref ud_38, .ref ue_39, .int 0, .int 0, .int 0, .int 0, .int 0])), (q_40, .inl (cA_41, 5, .inl (fun _ => 0)))] := hD
  refine lv_aload_n hx hb dX8_init_124 rfl (lv_at hl 0 rfl) ?_
  refine lv_iconst (v := 0) hx hb dX8_init_125 (by decide) ?_
  refine va_put (D := D) (ci := 8) (v := .int 0) (ty := .int) (C := RX8) (T := TX8) (N := 19) hx hb hts (fun w h => List.mem_cons_of_mem _ (inG8 w h)) tyX8 tyX8_ok nmX8 hown hK hP hD hS 0 rfl rfl 17 (by decide) (hts _ (List.mem_cons_of_mem _ gw_173)) (fun _ h9 => h9) rfl (by decide +kernel) rfl rfl (Nat.le_of_ble_eq_true rfl) dX8_init_126 (fun H locs hP hD hS => ?_)
  have hP : va_P D vwCl [(h0, .inr (8, [.ref q_1, .ref q_3, .ref q_5, .ref q_15, .ref q_19, .ref q_31, .ref q_40, .null, .int 0, .int 0, .int 0, .int 0, .int 100, .int 10, .int 0, .int 0, .int 0, .int 0, .int 0])), (q_1, .inl (cA_2, 4, .inr (.inr (.inr (.inr (fun _ => none)))))), (q_3, .inl (cA_4, 12, .inr (.inr (.inr (.inr (fun _ => none)))))), (q_5, .inr (1, [.int 0, .ref ua_9, .ref ub_10, .ref uc_11, .ref ud_12, .ref ue_13, .ref uf_14])), (q_19, .inr (6, [.ref ua_23, .ref ub_24, .ref uc_25, .ref ud_26, .ref ue_27, .ref uf_28, .int 0, .int 0])), (ua_23, .inl (ug_29, 12, .inl (fun _ => 0))), (ub_24, .inl (uh_30, 12, .inl (fun _ => 0))), (q_31, .inr (4, [.ref ua_35, .ref ub_36, .ref uc_37, .ref ud_38, .ref ue_39, .int 0, .int 0, .int 0, .int 0, .int 0])), (q_40, .inl (cA_41, 5, .inl (fun _ => 0)))] H := hP
  have hD : va_D A [(h0, .inr (8, [.ref q_1, .ref q_3, .ref q_5, .ref q_15, .ref q_19, .ref q_31, .ref q_40, .null, .int 0, .int 0, .int 0, .int 0, .int 100, .int 10, .int 0, .int 0, .int 0, .int 0, .int 0])), (q_1, .inl (cA_2, 4, .inr (.inr (.inr (.inr (fun _ => none)))))), (q_3, .inl (cA_4, 12, .inr (.inr (.inr (.inr (fun _ => none)))))), (q_5, .inr (1, [.int 0, .ref ua_9, .ref ub_10, .ref uc_11, .ref ud_12, .ref ue_13, .ref uf_14])), (q_19, .inr (6, [.ref ua_23, .ref ub_24, .ref uc_25, .ref ud_26, .ref ue_27, .ref uf_28, .int 0, .int 0])), (ua_23, .inl (ug_29, 12, .inl (fun _ => 0))), (ub_24, .inl (uh_30, 12, .inl (fun _ => 0))), (q_31, .inr (4, [.ref ua_35, .ref ub_36, .ref uc_37, .ref ud_38, .ref ue_39, .int 0, .int 0, .int 0, .int 0, .int 0])), (q_40, .inl (cA_41, 5, .inl (fun _ => 0)))] := hD
  refine lv_aload_n hx hb dX8_init_129 rfl (lv_at hl 0 rfl) ?_
  refine lv_iconst (v := 0) hx hb dX8_init_130 (by decide) ?_
  refine va_put (D := D) (ci := 8) (v := .int 0) (ty := .int) (C := RX8) (T := TX8) (N := 19) hx hb hts (fun w h => List.mem_cons_of_mem _ (inG8 w h)) tyX8 tyX8_ok nmX8 hown hK hP hD hS 0 rfl rfl 18 (by decide) (hts _ (List.mem_cons_of_mem _ gw_174)) (fun _ h9 => h9) rfl (by decide +kernel) rfl rfl (Nat.le_of_ble_eq_true rfl) dX8_init_131 (fun H locs hP hD hS => ?_)
  have hP : va_P D vwCl [(h0, .inr (8, [.ref q_1, .ref q_3, .ref q_5, .ref q_15, .ref q_19, .ref q_31, .ref q_40, .null, .int 0, .int 0, .int 0, .int 0, .int 100, .int 10, .int 0, .int 0, .int 0, .int 0, .int 0])), (q_1, .inl (cA_2, 4, .inr (.inr (.inr (.inr (fun _ => none)))))), (q_3, .inl (cA_4, 12, .inr (.inr (.inr (.inr (fun _ => none)))))), (q_5, .inr (1, [.int 0, .ref ua_9, .ref ub_10, .ref uc_11, .ref ud_12, .ref ue_13, .ref uf_14])), (q_19, .inr (6, [.ref ua_23, .ref ub_24, .ref uc_25, .ref ud_26, .ref ue_27, .ref uf_28, .int 0, .int 0])), (ua_23, .inl (ug_29, 12, .inl (fun _ => 0))), (ub_24, .inl (uh_30, 12, .inl (fun _ => 0))), (q_31, .inr (4, [.ref ua_35, .ref ub_36, .ref uc_37, .ref ud_38, .ref ue_39, .int 0, .int 0, .int 0, .int 0, .int 0])), (q_40, .inl (cA_41, 5, .inl (fun _ => 0)))] H := hP
  have hD : va_D A [(h0, .inr (8, [.ref q_1, .ref q_3, .ref q_5, .ref q_15, .ref q_19, .ref q_31, .ref q_40, .null, .int 0, .int 0, .int 0, .int 0, .int 100, .int 10, .int 0, .int 0, .int 0, .int 0, .int 0])), (q_1, .inl (cA_2, 4, .inr (.inr (.inr (.inr (fun _ => none)))))), (q_3, .inl (cA_4, 12, .inr (.inr (.inr (.inr (fun _ => none)))))), (q_5, .inr (1, [.int 0, .ref ua_9, .ref ub_10, .ref uc_11, .ref ud_12, .ref ue_13, .ref uf_14])), (q_19, .inr (6, [.ref ua_23, .ref ub_24, .ref uc_25, .ref ud_26, .ref ue_27, .ref uf_28, .int 0, .int 0])), (ua_23, .inl (ug_29, 12, .inl (fun _ => 0))), (ub_24, .inl (uh_30, 12, .inl (fun _ => 0))), (q_31, .inr (4, [.ref ua_35, .ref ub_36, .ref uc_37, .ref ud_38, .ref ue_39, .int 0, .int 0, .int 0, .int 0, .int 0])), (q_40, .inl (cA_41, 5, .inl (fun _ => 0)))] := hD
  have hP9 := hP.sub (ws' := [(h0, .inr (8, [.ref q_1, .ref q_3, .ref q_5, .ref q_15, .ref q_19, .ref q_31, .ref q_40, .null, .int 0, .int 0, .int 0, .int 0, .int 100, .int 10, .int 0, .int 0, .int 0, .int 0, .int 0])), (q_1, .inl (cA_2, 4, .inr (.inr (.inr (.inr (fun _ => none)))))), (q_3, .inl (cA_4, 12, .inr (.inr (.inr (.inr (fun _ => none)))))), (q_5, .inr (1, [.int 0, .ref ua_9, .ref ub_10, .ref uc_11, .ref ud_12, .ref ue_13, .ref uf_14])), (q_19, .inr (6, [.ref ua_23, .ref ub_24, .ref uc_25, .ref ud_26, .ref ue_27, .ref uf_28, .int 0, .int 0])), (ua_23, .inl (ug_29, 12, .inl (fun _ => 0))), (ub_24, .inl (uh_30, 12, .inl (fun _ => 0))), (q_31, .inr (4, [.ref ua_35, .ref ub_36, .ref uc_37, .ref ud_38, .ref ue_39, .int 0, .int 0, .int 0, .int 0, .int 0]))]) [0, 1, 2, 3, 4, 5, 6, 7] rfl
  have hD9 := hD.sub (ws' := [(h0, .inr (8, [.ref q_1, .ref q_3, .ref q_5, .ref q_15, .ref q_19, .ref q_31, .ref q_40, .null, .int 0, .int 0, .int 0, .int 0, .int 100, .int 10, .int 0, .int 0, .int 0, .int 0, .int 0])), (q_1, .inl (cA_2, 4, .inr (.inr (.inr (.inr (fun _ => none)))))), (q_3, .inl (cA_4, 12, .inr (.inr (.inr (.inr (fun _ => none)))))), (q_5, .inr (1, [.int 0, .ref ua_9, .ref ub_10, .ref uc_11, .ref ud_12, .ref ue_13, .ref uf_14])), (q_19, .inr (6, [.ref ua_23, .ref ub_24, .ref uc_25, .ref ud_26, .ref ue_27, .ref uf_28, .int 0, .int 0])), (ua_23, .inl (ug_29, 12, .inl (fun _ => 0))), (ub_24, .inl (uh_30, 12, .inl (fun _ => 0))), (q_31, .inr (4, [.ref ua_35, .ref ub_36, .ref uc_37, .ref ud_38, .ref ue_39, .int 0, .int 0, .int 0, .int 0, .int 0]))]) [0, 1, 2, 3, 4, 5, 6, 7] (by decide) rfl
  have hK9 := hK.sub (tys' := [(cA_2, .object RX0), (cA_4, .object RX3), (ug_29, .int), (uh_30, .int)]) [0, 1, 2, 3] rfl
  refine W.widen (k := 27) (n := 873) (Nat.le_of_ble_eq_true rfl) (Nat.le_of_ble_eq_true rfl) ?_
  exact W.vret hx hb hr (fun t ht hW => ⟨⟨(q_1, q_3, q_5, q_15, q_19, q_31, q_40, ua_9, ub_10, uc_11, ud_12, ue_13, uf_14, ua_23, ub_24, uc_25, ud_26, ue_27, uf_28, ua_35, ub_36, uc_37, ud_38, ue_39, cA_2, cA_4, ug_29, uh_30), rfl, (by first | trivial | rfl), by rw [ht]; exact hP9, va_K.moved hW.alike hK9, hD9⟩, hS.F ht⟩) hS.2.2 dX8_init_134
end
section
/-! THE CLAIM OUT OF ONE WALK OF THE LAW'S BODY. Your part is whole_start (and what it stands on); all else here is the same for every law, but numbers. -/
def R_law : String := "OddShoesLaw"
def lw_P (b : Addr) (xs : List Int32) (args : Array Value) (s : State) : Prop := args = #[.ref b] ∧ s.IntsAt b xs ∧ xs.length ≤ 6 ∧ (Jvm.Cond.and given_1 narrow_1).before args s = true
def lw_Q (_ : Array Value) (s : State) (o : Outcome) (t : State) : Prop := o = .returned (some (.int 1)) ∧ Framed s o t [] 600002 7302232
def lw_Z (below : List Frame) (a : Array Value) (s : State) : State → Prop := fun t => ∃ o, t.status = .running ∧ Ended t below o ∧ lw_Q a s o t
/-- the law's own end, with 1 on the stack, nothing written that was there before, its room as the claim has it -/
theorem lw_ret {p : Program} {l : Launch} {e : Env} {s : State} {m : MethodId} {below : List Frame} {meth : Method} {c : Code} {b : Nat} (hx : p.tables.exec = Jvm.exec) (hb : c.code = code) (hr : meth.sig.returnType = ret) (hlocks : meth.locks = false) {pc : Nat} {H : Heap} {ls : Array Slot} (hdg : decode code pc = .ok (.ireturn, 1)) : W p l e room_1 s m #[Value.ref b] below meth c H [] 600002 7302232 (lw_Z below #[Value.ref b] s) (F0 m pc ls [.int 1]) := by
  intro T hT X
  obtain ⟨fs, hret, hrun, hended, hW, hframe⟩ := X.leave (v := some (.int 1)) (hlocks := hlocks) (fun h => by rw [hr] at h; cases h)
  have hmeth' : T.vm.method? m = some meth := X.method'
  refine ⟨T.setFrames fs, ?_, .returned (some (.int 1)), hrun, hended, rfl, ⟨_, rfl⟩, hW, hframe⟩
  jvm_step X.here [X.here.top, hx, hb, hdg, hmeth', hr, ret, narrow_b1]
  (try refine ⟨rfl, ?_⟩); (try refine ⟨rfl, ?_⟩)
  first | (intro acts; rw [hret _ acts rfl rfl rfl]) | rw [hret _ _ rfl rfl rfl]
  exact Steps.refl _
/-- what holds at the law's entry: the machine, the code, the tables' words (any of lw_tbl by 'hts w (by decide +kernel)'), the script of L ints xs at the cell b, what the Statement gives of the start (any of its parts by flat_of_before) -/
def lw_At (p : Program) (s : State) (m : MethodId) (meth : Method) (c : Code) (b L : Nat) (xs : Nat → Int32) : Prop :=
  p.tables.exec = Jvm.exec ∧ c.code = code ∧ meth.sig.returnType = ret ∧ c.maxLocals = 7 ∧ s.vm.findClass R_law = some m.cls ∧ (∀ w ∈ lw_tbl, w.before #[Value.ref b] s = true) ∧ va_X b L xs s s.heap ∧ b < s.heap.size ∧ meth.locks = false ∧ (Jvm.Cond.and given_1 narrow_1).before #[Value.ref b] s = true
-- ===== YOUR PART BEGINS =====
/-- YOUR PART: from the entry, for every script of at most 6 ints, the law comes to its end with true -/
theorem whole_start {p : Program} {e : Env} {s : State} {m : MethodId} {below : List Frame} {meth : Method} {c : Code} (l : Launch) {b L : Nat} {xs : Nat → Int32} (hL : L ≤ 6) (C0 : lw_At p s m meth c b L xs) : W p l e room_1 s m #[Value.ref b] below meth c s.heap [] 0 0 (lw_Z below #[Value.ref b] s) (entryFrame m ([Value.ref b] : List Value).toArray 7) := by
  sorry
-- ===== YOUR PART ENDS =====
set_option maxHeartbeats 4000000 in
theorem lw_walk (l : Launch) (b : Addr) (xs : List Int32) : MetFree l x (headSpec (Jvm.Cond.code x code maxLocals ret :: tables_1) room_1) (lw_P b xs) (fun _ _ _ _ _ => True) lw_Q := by
  refine MetFree.of_bodyS (code := code) (maxLocals := maxLocals) (ret := ret) (by decide) ?_ ?_
  · intro args s m h hn
    obtain ⟨meth, c, h1, h2, h3, h4, h5, h6, -, -⟩ := Cond.code_spec hn (atoms_spec (ws := Jvm.Cond.code x code maxLocals ret :: tables_1) h _ List.mem_cons_self)
    exact ⟨meth, c, h1, h2, h3, h4, h5, h6⟩
  · intro p e s m args below meth c s₁ B hml0 hP _
    obtain ⟨rfl, hx, hbd, hgv⟩ := hP
    obtain ⟨scr, harrAt, hlist, hof, hsmall⟩ := hx
    obtain ⟨hcb, hkn, -, -⟩ := State.arrayAt?_spec harrAt
    have hown : s.vm.findClass R_law = some m.cls := findClass_of_methodNamed B.named
    have hts0 : ∀ c ∈ (Jvm.Cond.code x code maxLocals ret :: tables_1), c.before #[Value.ref b] s = true := atoms_spec (ws := Jvm.Cond.code x code maxLocals ret :: tables_1) B.pre
    have hts : ∀ w ∈ lw_tbl, w.before #[Value.ref b] s = true := k2_hts_sels lw_privs (fun w hw => hts0 w (List.mem_cons_of_mem _ hw)) lw_privs_ok
    have hml : c.maxLocals = 7 := B.maxLocals_eq (hts0 _ List.mem_cons_self)
    have X₀ : Stand p l e room_1 s m #[Value.ref b] below meth c s₁ [] 0 0 := Stand.of_body B
    have hh0 : s₁.heap = s.heap := by rw [B.state]; rfl
    have hsz : scr.slots.size = xs.length := by rw [← Array.length_toList, hlist, List.length_map]
    have hval : ∀ j : Nat, j < xs.length → scr.slots[j]? = some (.int (xs.getD j 0)) := fun j hj => by
      rw [← Array.getElem?_toList, hlist]
      simp [hj]
    have hbl : b < s.heap.size := (Array.getElem?_eq_some_iff.mp hcb).1
    have hX : va_X b xs.length (fun j => xs.getD j 0) s s.heap := ⟨scr, hcb, hof, hkn, hsz, hval⟩
    have K : W p l e room_1 s m #[Value.ref b] below meth c s₁.heap [] 0 0 (lw_Z below #[Value.ref b] s) (entryFrame m ([Value.ref b] : List Value).toArray 7) := by
      rw [hh0]
      exact whole_start l hbd ⟨B.exec, B.bytes, B.returns, hml, hown, hts, hX, hbl, B.notSynchronized, hgv⟩
    obtain ⟨t, a1, o, b1, b2, b3⟩ := K s₁ rfl X₀
    exact ⟨t, o, a1, b1, b2, b3⟩
theorem lw_pre_spec {args : Array Value} {s : State} (h : (Jvm.Cond.and given_1 narrow_1).before args s = true) (hr : rest_1_c.before args s = true) : ∃ (b : Addr) (xs : List Int32), lw_P b xs args s := by
  have hs := flat_of_before _ h
  have hq := flat_of_before _ hr
  have hc : (Cond.count 1).before args s = true := hs _ (by decide +kernel)
  have harr : (Cond.arrayOf (.arg 0) .int).before args s = true := hs _ (by decide +kernel)
  have hle : (Cond.le (.length (.arg 0)) (.int 6)).before args s = true := hs _ (by decide +kernel)
  have hlen : (Cond.isInt (.length (.arg 0))).before args s = true := hq _ (by decide +kernel)
  have hall : (Cond.all (.arg 0) (.isInt (.elem (.arg 0) (.index 0)))).before args s = true := hq _ (by decide +kernel)
  obtain ⟨b, xs, hb, hx⟩ := State.ints_of_pre rfl harr hlen hall
  have hsm : xs.length < 2 ^ 31 := hx.choose_spec.2.2.2
  have hev : (Term.length (.arg 0)).eval args s none [] s = some (.int xs.length.toInt32) := hx.length_eval hb
  have hv := Cond.le_ints hev (show (Term.int 6).eval args s none [] s = some (.int 6) from rfl)
  have hd : xs.length.toInt32 ≤ 6 := by
    simpa [Cond.before, Cond.holds, hv] using hle
  have hN : xs.length ≤ 6 := (Int32.ofNat_le_ofNat hsm (by decide)).mp (show Int32.ofNat xs.length ≤ Int32.ofNat 6 from hd)
  exact ⟨b, xs, Cond.one_arg hc (show args[0]? = some (.ref b) from hb), hx, hN, h⟩
theorem lw_comes (l : Launch) : Comes l x (Jvm.Cond.code x code maxLocals ret :: tables_1) room_1 (fun tb e args s => Calls_1 tb e args s ∧ rest_1 tb e args s ∧ Pre_1 tb e args s)
    (fun _ _ args s o t => lw_Q args s o t) := by
  intro p e ha hc hk s m args below hf hfit hheap happ hpre
  obtain ⟨b, xs, hP⟩ := lw_pre_spec hpre.2.2 hpre.2.1
  obtain ⟨k, o, h1, h2, h3, hQ⟩ := lw_walk l b xs p e ha hc hk s m args below hf ((Spec.applies_iff_loose hf).mp happ).1 hP trivial
  exact ⟨k, o, h1, h2, h3, hQ⟩
theorem lw_frame {s t : State} {o : Outcome} {args : Array Value} (h : Framed s o t [] 600002 7302232) :
    Framed s o t (fieldLocs frame_1_writes args s ++ arrayLocs frame_1_arrays args s ++ staticLocs frame_1_statics s) 600002 7302232 := h
theorem lw_limb (L : Cond) (hL : ∀ (args : Array Value) (s t : State), L.after args s (.returned (some (.int 1))) t = true) :
    ArmFor flags0 classFile x code maxLocals ret World_1 tables_1 room_1 Calls_1 rest_1 Pre_1
      (fun tb e a s o t => postC L tb e a s o t ∧ Framed s o t (fieldLocs frame_1_writes a s ++ arrayLocs frame_1_arrays a s ++ staticLocs frame_1_statics s) 600002 7302232) := by
  intro l _ _ _ p e ha hc hk s m args below hf hfit hheap happ hpre
  obtain ⟨k, o, h1, h2, h3, rfl, hF⟩ := lw_comes l p e ha hc hk s m args below hf hfit hheap happ hpre
  exact ⟨k, _, h1, h2, h3, hL args s _, lw_frame hF⟩
theorem i_vc : Claimed_1_1 ∧ Claimed_1_2 := ⟨lw_limb limb_1_1 (fun args s t => by simp [limb_1_1, Cond.after, Cond.holds, Cond.value]), lw_limb limb_1_2 (fun args s t => Cond.after_iff.mpr (by
  first | (rw [show limb_1_2 = Cond.eq .result (.int 1) from rfl, Cond.eq_ints (x := 1) (y := 1) rfl rfl]; simp; done) | (simp [limb_1_2, Cond.value, Term.eval]; done)))⟩
end
