-- ===== PART A: goes FIRST, ahead of the names: the tables' words, and 'selects' of the private methods out of them =====
/-- a private method of a class that the tables say can be made, by its rows of tables_1 -/
def lw_okq (q : MethodName × Nat) : Prop := (q.1.cls ≠ "java/lang/invoke/MethodHandle" ∧ q.1.cls ≠ "java/lang/invoke/VarHandle") ∧ Cond.instantiable q.1.cls q.2 ∈ tables_1 ∧ Cond.privateMethod q.1 ∈ tables_1 ∧ Cond.instanceMethod q.1 ∈ tables_1
theorem lw_p0 : lw_okq (⟨"PostByEnemy", "refuse", "(I)I"⟩, 7) := ⟨⟨by decide +kernel, by decide +kernel⟩, List.mem_of_getElem? (i := 15) (by decide +kernel), List.mem_of_getElem? (i := 158) (by decide +kernel), List.mem_of_getElem? (i := 159) (by decide +kernel)⟩
theorem lw_p1 : lw_okq (⟨"PostByEnemy$Text", "letterAt", "(I)I"⟩, 2) := ⟨⟨by decide +kernel, by decide +kernel⟩, List.mem_of_getElem? (i := 103) (by decide +kernel), List.mem_of_getElem? (i := 174) (by decide +kernel), List.mem_of_getElem? (i := 175) (by decide +kernel)⟩
theorem lw_p2 : lw_okq (⟨"PostByEnemy$Duchy", "carryOn", "()V"⟩, 13) := ⟨⟨by decide +kernel, by decide +kernel⟩, List.mem_of_getElem? (i := 23) (by decide +kernel), List.mem_of_getElem? (i := 319) (by decide +kernel), List.mem_of_getElem? (i := 320) (by decide +kernel)⟩
theorem lw_p3 : lw_okq (⟨"PostByEnemy$Duchy", "giveOut", "()V"⟩, 13) := ⟨⟨by decide +kernel, by decide +kernel⟩, List.mem_of_getElem? (i := 23) (by decide +kernel), List.mem_of_getElem? (i := 337) (by decide +kernel), List.mem_of_getElem? (i := 338) (by decide +kernel)⟩
theorem lw_p4 : lw_okq (⟨"PostByEnemy$Duchy", "coolDown", "()V"⟩, 13) := ⟨⟨by decide +kernel, by decide +kernel⟩, List.mem_of_getElem? (i := 23) (by decide +kernel), List.mem_of_getElem? (i := 366) (by decide +kernel), List.mem_of_getElem? (i := 367) (by decide +kernel)⟩
theorem lw_p5 : lw_okq (⟨"PostByEnemy$Text", "digitAt", "(I)I"⟩, 2) := ⟨⟨by decide +kernel, by decide +kernel⟩, List.mem_of_getElem? (i := 103) (by decide +kernel), List.mem_of_getElem? (i := 374) (by decide +kernel), List.mem_of_getElem? (i := 375) (by decide +kernel)⟩
theorem lw_p6 : lw_okq (⟨"PostByEnemy$Text", "numberAt", "(I)I"⟩, 2) := ⟨⟨by decide +kernel, by decide +kernel⟩, List.mem_of_getElem? (i := 103) (by decide +kernel), List.mem_of_getElem? (i := 378) (by decide +kernel), List.mem_of_getElem? (i := 379) (by decide +kernel)⟩
theorem lw_p7 : lw_okq (⟨"PostByEnemy", "notWaiting", "(I)I"⟩, 7) := ⟨⟨by decide +kernel, by decide +kernel⟩, List.mem_of_getElem? (i := 15) (by decide +kernel), List.mem_of_getElem? (i := 556) (by decide +kernel), List.mem_of_getElem? (i := 557) (by decide +kernel)⟩
theorem lw_p8 : lw_okq (⟨"PostByEnemy$Thought", "slightAll", "(III)Z"⟩, 4) := ⟨⟨by decide +kernel, by decide +kernel⟩, List.mem_of_getElem? (i := 82) (by decide +kernel), List.mem_of_getElem? (i := 578) (by decide +kernel), List.mem_of_getElem? (i := 579) (by decide +kernel)⟩
theorem lw_p9 : lw_okq (⟨"PostByEnemy$Thought", "broughtTo", "(I)I"⟩, 4) := ⟨⟨by decide +kernel, by decide +kernel⟩, List.mem_of_getElem? (i := 82) (by decide +kernel), List.mem_of_getElem? (i := 631) (by decide +kernel), List.mem_of_getElem? (i := 632) (by decide +kernel)⟩
theorem lw_p10 : lw_okq (⟨"PostByEnemy", "refuseLong", "(I)J"⟩, 7) := ⟨⟨by decide +kernel, by decide +kernel⟩, List.mem_of_getElem? (i := 15) (by decide +kernel), List.mem_of_getElem? (i := 639) (by decide +kernel), List.mem_of_getElem? (i := 640) (by decide +kernel)⟩
theorem lw_p11 : lw_okq (⟨"PostByEnemy$Thought", "goesAsTold", "(ILPostByEnemy$Row;)Z"⟩, 4) := ⟨⟨by decide +kernel, by decide +kernel⟩, List.mem_of_getElem? (i := 82) (by decide +kernel), List.mem_of_getElem? (i := 671) (by decide +kernel), List.mem_of_getElem? (i := 672) (by decide +kernel)⟩
theorem lw_p12 : lw_okq (⟨"PostByEnemy$Thought", "drawHates", "(I)I"⟩, 4) := ⟨⟨by decide +kernel, by decide +kernel⟩, List.mem_of_getElem? (i := 82) (by decide +kernel), List.mem_of_getElem? (i := 709) (by decide +kernel), List.mem_of_getElem? (i := 710) (by decide +kernel)⟩
theorem lw_p13 : lw_okq (⟨"PostByEnemyModel", "no", "(I)I"⟩, 28) := ⟨⟨by decide +kernel, by decide +kernel⟩, List.mem_of_getElem? (i := 734) (by decide +kernel), List.mem_of_getElem? (i := 832) (by decide +kernel), List.mem_of_getElem? (i := 833) (by decide +kernel)⟩
theorem lw_p14 : lw_okq (⟨"PostByEnemyModel", "statement", "()Z"⟩, 28) := ⟨⟨by decide +kernel, by decide +kernel⟩, List.mem_of_getElem? (i := 734) (by decide +kernel), List.mem_of_getElem? (i := 840) (by decide +kernel), List.mem_of_getElem? (i := 841) (by decide +kernel)⟩
theorem lw_p15 : lw_okq (⟨"PostByEnemyModel", "next", "()I"⟩, 28) := ⟨⟨by decide +kernel, by decide +kernel⟩, List.mem_of_getElem? (i := 734) (by decide +kernel), List.mem_of_getElem? (i := 844) (by decide +kernel), List.mem_of_getElem? (i := 845) (by decide +kernel)⟩
def lw_privs_1 : List (MethodName × Nat) := [(⟨"PostByEnemy", "refuse", "(I)I"⟩, 7), (⟨"PostByEnemy$Text", "letterAt", "(I)I"⟩, 2), (⟨"PostByEnemy$Duchy", "carryOn", "()V"⟩, 13), (⟨"PostByEnemy$Duchy", "giveOut", "()V"⟩, 13), (⟨"PostByEnemy$Duchy", "coolDown", "()V"⟩, 13), (⟨"PostByEnemy$Text", "digitAt", "(I)I"⟩, 2), (⟨"PostByEnemy$Text", "numberAt", "(I)I"⟩, 2), (⟨"PostByEnemy", "notWaiting", "(I)I"⟩, 7), (⟨"PostByEnemy$Thought", "slightAll", "(III)Z"⟩, 4), (⟨"PostByEnemy$Thought", "broughtTo", "(I)I"⟩, 4), (⟨"PostByEnemy", "refuseLong", "(I)J"⟩, 7), (⟨"PostByEnemy$Thought", "goesAsTold", "(ILPostByEnemy$Row;)Z"⟩, 4), (⟨"PostByEnemy$Thought", "drawHates", "(I)I"⟩, 4), (⟨"PostByEnemyModel", "no", "(I)I"⟩, 28), (⟨"PostByEnemyModel", "statement", "()Z"⟩, 28), (⟨"PostByEnemyModel", "next", "()I"⟩, 28)]
theorem lw_r1 : ∀ q ∈ lw_privs_1, lw_okq q := List.forall_mem_cons.mpr ⟨lw_p0, List.forall_mem_cons.mpr ⟨lw_p1, List.forall_mem_cons.mpr ⟨lw_p2, List.forall_mem_cons.mpr ⟨lw_p3, List.forall_mem_cons.mpr ⟨lw_p4, List.forall_mem_cons.mpr ⟨lw_p5, List.forall_mem_cons.mpr ⟨lw_p6, List.forall_mem_cons.mpr ⟨lw_p7, List.forall_mem_cons.mpr ⟨lw_p8, List.forall_mem_cons.mpr ⟨lw_p9, List.forall_mem_cons.mpr ⟨lw_p10, List.forall_mem_cons.mpr ⟨lw_p11, List.forall_mem_cons.mpr ⟨lw_p12, List.forall_mem_cons.mpr ⟨lw_p13, List.forall_mem_cons.mpr ⟨lw_p14, List.forall_mem_cons.mpr ⟨lw_p15, fun _ h => absurd h List.not_mem_nil⟩⟩⟩⟩⟩⟩⟩⟩⟩⟩⟩⟩⟩⟩⟩⟩
theorem lw_p16 : lw_okq (⟨"PostByEnemyModel", "readsAll", "(II)Z"⟩, 28) := ⟨⟨by decide +kernel, by decide +kernel⟩, List.mem_of_getElem? (i := 734) (by decide +kernel), List.mem_of_getElem? (i := 848) (by decide +kernel), List.mem_of_getElem? (i := 849) (by decide +kernel)⟩
theorem lw_p17 : lw_okq (⟨"PostByEnemyModel", "readsOne", "(I)Z"⟩, 28) := ⟨⟨by decide +kernel, by decide +kernel⟩, List.mem_of_getElem? (i := 734) (by decide +kernel), List.mem_of_getElem? (i := 852) (by decide +kernel), List.mem_of_getElem? (i := 853) (by decide +kernel)⟩
theorem lw_p18 : lw_okq (⟨"PostByEnemyModel", "readsDigits", "(II)Z"⟩, 28) := ⟨⟨by decide +kernel, by decide +kernel⟩, List.mem_of_getElem? (i := 734) (by decide +kernel), List.mem_of_getElem? (i := 859) (by decide +kernel), List.mem_of_getElem? (i := 860) (by decide +kernel)⟩
theorem lw_p19 : lw_okq (⟨"PostByEnemyModel", "passesAll", "(IZ)V"⟩, 28) := ⟨⟨by decide +kernel, by decide +kernel⟩, List.mem_of_getElem? (i := 734) (by decide +kernel), List.mem_of_getElem? (i := 866) (by decide +kernel), List.mem_of_getElem? (i := 867) (by decide +kernel)⟩
theorem lw_p20 : lw_okq (⟨"PostByEnemyModel", "passes", "([I)V"⟩, 28) := ⟨⟨by decide +kernel, by decide +kernel⟩, List.mem_of_getElem? (i := 734) (by decide +kernel), List.mem_of_getElem? (i := 870) (by decide +kernel), List.mem_of_getElem? (i := 871) (by decide +kernel)⟩
theorem lw_p21 : lw_okq (⟨"PostByEnemyModel", "passOne", "(I)I"⟩, 28) := ⟨⟨by decide +kernel, by decide +kernel⟩, List.mem_of_getElem? (i := 734) (by decide +kernel), List.mem_of_getElem? (i := 874) (by decide +kernel), List.mem_of_getElem? (i := 875) (by decide +kernel)⟩
theorem lw_p22 : lw_okq (⟨"PostByEnemyModel", "comes", "(I)Z"⟩, 28) := ⟨⟨by decide +kernel, by decide +kernel⟩, List.mem_of_getElem? (i := 734) (by decide +kernel), List.mem_of_getElem? (i := 878) (by decide +kernel), List.mem_of_getElem? (i := 879) (by decide +kernel)⟩
theorem lw_p23 : lw_okq (⟨"PostByEnemyModel", "comesOne", "(III)Z"⟩, 28) := ⟨⟨by decide +kernel, by decide +kernel⟩, List.mem_of_getElem? (i := 734) (by decide +kernel), List.mem_of_getElem? (i := 882) (by decide +kernel), List.mem_of_getElem? (i := 883) (by decide +kernel)⟩
theorem lw_p24 : lw_okq (⟨"PostByEnemyModel", "comesParcel", "(II)Z"⟩, 28) := ⟨⟨by decide +kernel, by decide +kernel⟩, List.mem_of_getElem? (i := 734) (by decide +kernel), List.mem_of_getElem? (i := 889) (by decide +kernel), List.mem_of_getElem? (i := 890) (by decide +kernel)⟩
theorem lw_p25 : lw_okq (⟨"PostByEnemyModel", "isOne", "(I)Z"⟩, 28) := ⟨⟨by decide +kernel, by decide +kernel⟩, List.mem_of_getElem? (i := 734) (by decide +kernel), List.mem_of_getElem? (i := 893) (by decide +kernel), List.mem_of_getElem? (i := 894) (by decide +kernel)⟩
theorem lw_p26 : lw_okq (⟨"PostByEnemyModel", "adds", "(II)V"⟩, 28) := ⟨⟨by decide +kernel, by decide +kernel⟩, List.mem_of_getElem? (i := 734) (by decide +kernel), List.mem_of_getElem? (i := 897) (by decide +kernel), List.mem_of_getElem? (i := 898) (by decide +kernel)⟩
theorem lw_p27 : lw_okq (⟨"PostByEnemyModel", "comesDays", "(I)Z"⟩, 28) := ⟨⟨by decide +kernel, by decide +kernel⟩, List.mem_of_getElem? (i := 734) (by decide +kernel), List.mem_of_getElem? (i := 901) (by decide +kernel), List.mem_of_getElem? (i := 902) (by decide +kernel)⟩
theorem lw_p28 : lw_okq (⟨"PostByEnemyModel", "goes", "(I)V"⟩, 28) := ⟨⟨by decide +kernel, by decide +kernel⟩, List.mem_of_getElem? (i := 734) (by decide +kernel), List.mem_of_getElem? (i := 905) (by decide +kernel), List.mem_of_getElem? (i := 906) (by decide +kernel)⟩
theorem lw_p29 : lw_okq (⟨"PostByEnemyModel", "goesDay", "(Z)V"⟩, 28) := ⟨⟨by decide +kernel, by decide +kernel⟩, List.mem_of_getElem? (i := 734) (by decide +kernel), List.mem_of_getElem? (i := 909) (by decide +kernel), List.mem_of_getElem? (i := 910) (by decide +kernel)⟩
theorem lw_p30 : lw_okq (⟨"PostByEnemyModel", "comesNearer", "(I)V"⟩, 28) := ⟨⟨by decide +kernel, by decide +kernel⟩, List.mem_of_getElem? (i := 734) (by decide +kernel), List.mem_of_getElem? (i := 913) (by decide +kernel), List.mem_of_getElem? (i := 914) (by decide +kernel)⟩
theorem lw_p31 : lw_okq (⟨"PostByEnemyModel", "isTaken", "(I)V"⟩, 28) := ⟨⟨by decide +kernel, by decide +kernel⟩, List.mem_of_getElem? (i := 734) (by decide +kernel), List.mem_of_getElem? (i := 920) (by decide +kernel), List.mem_of_getElem? (i := 921) (by decide +kernel)⟩
def lw_privs_2 : List (MethodName × Nat) := [(⟨"PostByEnemyModel", "readsAll", "(II)Z"⟩, 28), (⟨"PostByEnemyModel", "readsOne", "(I)Z"⟩, 28), (⟨"PostByEnemyModel", "readsDigits", "(II)Z"⟩, 28), (⟨"PostByEnemyModel", "passesAll", "(IZ)V"⟩, 28), (⟨"PostByEnemyModel", "passes", "([I)V"⟩, 28), (⟨"PostByEnemyModel", "passOne", "(I)I"⟩, 28), (⟨"PostByEnemyModel", "comes", "(I)Z"⟩, 28), (⟨"PostByEnemyModel", "comesOne", "(III)Z"⟩, 28), (⟨"PostByEnemyModel", "comesParcel", "(II)Z"⟩, 28), (⟨"PostByEnemyModel", "isOne", "(I)Z"⟩, 28), (⟨"PostByEnemyModel", "adds", "(II)V"⟩, 28), (⟨"PostByEnemyModel", "comesDays", "(I)Z"⟩, 28), (⟨"PostByEnemyModel", "goes", "(I)V"⟩, 28), (⟨"PostByEnemyModel", "goesDay", "(Z)V"⟩, 28), (⟨"PostByEnemyModel", "comesNearer", "(I)V"⟩, 28), (⟨"PostByEnemyModel", "isTaken", "(I)V"⟩, 28)]
theorem lw_r2 : ∀ q ∈ lw_privs_2, lw_okq q := List.forall_mem_cons.mpr ⟨lw_p16, List.forall_mem_cons.mpr ⟨lw_p17, List.forall_mem_cons.mpr ⟨lw_p18, List.forall_mem_cons.mpr ⟨lw_p19, List.forall_mem_cons.mpr ⟨lw_p20, List.forall_mem_cons.mpr ⟨lw_p21, List.forall_mem_cons.mpr ⟨lw_p22, List.forall_mem_cons.mpr ⟨lw_p23, List.forall_mem_cons.mpr ⟨lw_p24, List.forall_mem_cons.mpr ⟨lw_p25, List.forall_mem_cons.mpr ⟨lw_p26, List.forall_mem_cons.mpr ⟨lw_p27, List.forall_mem_cons.mpr ⟨lw_p28, List.forall_mem_cons.mpr ⟨lw_p29, List.forall_mem_cons.mpr ⟨lw_p30, List.forall_mem_cons.mpr ⟨lw_p31, fun _ h => absurd h List.not_mem_nil⟩⟩⟩⟩⟩⟩⟩⟩⟩⟩⟩⟩⟩⟩⟩⟩
theorem lw_p32 : lw_okq (⟨"PostByEnemyModel", "enemyOf", "(I)I"⟩, 28) := ⟨⟨by decide +kernel, by decide +kernel⟩, List.mem_of_getElem? (i := 734) (by decide +kernel), List.mem_of_getElem? (i := 924) (by decide +kernel), List.mem_of_getElem? (i := 925) (by decide +kernel)⟩
theorem lw_p33 : lw_okq (⟨"PostByEnemyModel", "enemyBut", "(II)I"⟩, 28) := ⟨⟨by decide +kernel, by decide +kernel⟩, List.mem_of_getElem? (i := 734) (by decide +kernel), List.mem_of_getElem? (i := 928) (by decide +kernel), List.mem_of_getElem? (i := 929) (by decide +kernel)⟩
theorem lw_p34 : lw_okq (⟨"PostByEnemyModel", "maliceOf", "(II)I"⟩, 28) := ⟨⟨by decide +kernel, by decide +kernel⟩, List.mem_of_getElem? (i := 734) (by decide +kernel), List.mem_of_getElem? (i := 932) (by decide +kernel), List.mem_of_getElem? (i := 933) (by decide +kernel)⟩
theorem lw_p35 : lw_okq (⟨"PostByEnemyModel", "isCarrying", "(I)Z"⟩, 28) := ⟨⟨by decide +kernel, by decide +kernel⟩, List.mem_of_getElem? (i := 734) (by decide +kernel), List.mem_of_getElem? (i := 939) (by decide +kernel), List.mem_of_getElem? (i := 940) (by decide +kernel)⟩
theorem lw_p36 : lw_okq (⟨"PostByEnemyModel", "milesOf", "(I)I"⟩, 28) := ⟨⟨by decide +kernel, by decide +kernel⟩, List.mem_of_getElem? (i := 734) (by decide +kernel), List.mem_of_getElem? (i := 943) (by decide +kernel), List.mem_of_getElem? (i := 944) (by decide +kernel)⟩
theorem lw_p37 : lw_okq (⟨"PostByEnemyModel", "comesTwo", "(IIII)Z"⟩, 28) := ⟨⟨by decide +kernel, by decide +kernel⟩, List.mem_of_getElem? (i := 734) (by decide +kernel), List.mem_of_getElem? (i := 947) (by decide +kernel), List.mem_of_getElem? (i := 948) (by decide +kernel)⟩
theorem lw_p38 : lw_okq (⟨"PostByEnemyModel", "areTwo", "(II)Z"⟩, 28) := ⟨⟨by decide +kernel, by decide +kernel⟩, List.mem_of_getElem? (i := 734) (by decide +kernel), List.mem_of_getElem? (i := 951) (by decide +kernel), List.mem_of_getElem? (i := 952) (by decide +kernel)⟩
theorem lw_p39 : lw_okq (⟨"PostByEnemyModel", "slighted", "(III)V"⟩, 28) := ⟨⟨by decide +kernel, by decide +kernel⟩, List.mem_of_getElem? (i := 734) (by decide +kernel), List.mem_of_getElem? (i := 955) (by decide +kernel), List.mem_of_getElem? (i := 956) (by decide +kernel)⟩
theorem lw_p40 : lw_okq (⟨"PostByEnemyModel", "madeUp", "(II)V"⟩, 28) := ⟨⟨by decide +kernel, by decide +kernel⟩, List.mem_of_getElem? (i := 734) (by decide +kernel), List.mem_of_getElem? (i := 959) (by decide +kernel), List.mem_of_getElem? (i := 960) (by decide +kernel)⟩
theorem lw_p41 : lw_okq (⟨"PostByEnemyModel", "isParcel", "(I)Z"⟩, 28) := ⟨⟨by decide +kernel, by decide +kernel⟩, List.mem_of_getElem? (i := 734) (by decide +kernel), List.mem_of_getElem? (i := 979) (by decide +kernel), List.mem_of_getElem? (i := 980) (by decide +kernel)⟩
theorem lw_p42 : lw_okq (⟨"PostByEnemyModel", "thoseIn", "(I)I"⟩, 28) := ⟨⟨by decide +kernel, by decide +kernel⟩, List.mem_of_getElem? (i := 734) (by decide +kernel), List.mem_of_getElem? (i := 1015) (by decide +kernel), List.mem_of_getElem? (i := 1016) (by decide +kernel)⟩
theorem lw_p43 : lw_okq (⟨"PostByEnemyModel", "thinks", "()V"⟩, 28) := ⟨⟨by decide +kernel, by decide +kernel⟩, List.mem_of_getElem? (i := 734) (by decide +kernel), List.mem_of_getElem? (i := 1029) (by decide +kernel), List.mem_of_getElem? (i := 1030) (by decide +kernel)⟩
theorem lw_p44 : lw_okq (⟨"PostByEnemyModel", "forgets", "()V"⟩, 28) := ⟨⟨by decide +kernel, by decide +kernel⟩, List.mem_of_getElem? (i := 734) (by decide +kernel), List.mem_of_getElem? (i := 1033) (by decide +kernel), List.mem_of_getElem? (i := 1034) (by decide +kernel)⟩
theorem lw_p45 : lw_okq (⟨"PostByEnemyModel", "whenOf", "(I)I"⟩, 28) := ⟨⟨by decide +kernel, by decide +kernel⟩, List.mem_of_getElem? (i := 734) (by decide +kernel), List.mem_of_getElem? (i := 1049) (by decide +kernel), List.mem_of_getElem? (i := 1050) (by decide +kernel)⟩
theorem lw_p46 : lw_okq (⟨"PostByEnemyModel", "lateOf", "(I)I"⟩, 28) := ⟨⟨by decide +kernel, by decide +kernel⟩, List.mem_of_getElem? (i := 734) (by decide +kernel), List.mem_of_getElem? (i := 1057) (by decide +kernel), List.mem_of_getElem? (i := 1058) (by decide +kernel)⟩
theorem lw_p47 : lw_okq (⟨"PostByEnemyModel", "enemyOfMany", "(I)I"⟩, 28) := ⟨⟨by decide +kernel, by decide +kernel⟩, List.mem_of_getElem? (i := 734) (by decide +kernel), List.mem_of_getElem? (i := 1077) (by decide +kernel), List.mem_of_getElem? (i := 1078) (by decide +kernel)⟩
def lw_privs_3 : List (MethodName × Nat) := [(⟨"PostByEnemyModel", "enemyOf", "(I)I"⟩, 28), (⟨"PostByEnemyModel", "enemyBut", "(II)I"⟩, 28), (⟨"PostByEnemyModel", "maliceOf", "(II)I"⟩, 28), (⟨"PostByEnemyModel", "isCarrying", "(I)Z"⟩, 28), (⟨"PostByEnemyModel", "milesOf", "(I)I"⟩, 28), (⟨"PostByEnemyModel", "comesTwo", "(IIII)Z"⟩, 28), (⟨"PostByEnemyModel", "areTwo", "(II)Z"⟩, 28), (⟨"PostByEnemyModel", "slighted", "(III)V"⟩, 28), (⟨"PostByEnemyModel", "madeUp", "(II)V"⟩, 28), (⟨"PostByEnemyModel", "isParcel", "(I)Z"⟩, 28), (⟨"PostByEnemyModel", "thoseIn", "(I)I"⟩, 28), (⟨"PostByEnemyModel", "thinks", "()V"⟩, 28), (⟨"PostByEnemyModel", "forgets", "()V"⟩, 28), (⟨"PostByEnemyModel", "whenOf", "(I)I"⟩, 28), (⟨"PostByEnemyModel", "lateOf", "(I)I"⟩, 28), (⟨"PostByEnemyModel", "enemyOfMany", "(I)I"⟩, 28)]
theorem lw_r3 : ∀ q ∈ lw_privs_3, lw_okq q := List.forall_mem_cons.mpr ⟨lw_p32, List.forall_mem_cons.mpr ⟨lw_p33, List.forall_mem_cons.mpr ⟨lw_p34, List.forall_mem_cons.mpr ⟨lw_p35, List.forall_mem_cons.mpr ⟨lw_p36, List.forall_mem_cons.mpr ⟨lw_p37, List.forall_mem_cons.mpr ⟨lw_p38, List.forall_mem_cons.mpr ⟨lw_p39, List.forall_mem_cons.mpr ⟨lw_p40, List.forall_mem_cons.mpr ⟨lw_p41, List.forall_mem_cons.mpr ⟨lw_p42, List.forall_mem_cons.mpr ⟨lw_p43, List.forall_mem_cons.mpr ⟨lw_p44, List.forall_mem_cons.mpr ⟨lw_p45, List.forall_mem_cons.mpr ⟨lw_p46, List.forall_mem_cons.mpr ⟨lw_p47, fun _ h => absurd h List.not_mem_nil⟩⟩⟩⟩⟩⟩⟩⟩⟩⟩⟩⟩⟩⟩⟩⟩
theorem lw_p48 : lw_okq (⟨"PostByEnemyModel", "lateSlighting", "(II)I"⟩, 28) := ⟨⟨by decide +kernel, by decide +kernel⟩, List.mem_of_getElem? (i := 734) (by decide +kernel), List.mem_of_getElem? (i := 1092) (by decide +kernel), List.mem_of_getElem? (i := 1093) (by decide +kernel)⟩
theorem lw_p49 : lw_okq (⟨"PostByEnemyModel", "slightsOf", "(II)I"⟩, 28) := ⟨⟨by decide +kernel, by decide +kernel⟩, List.mem_of_getElem? (i := 734) (by decide +kernel), List.mem_of_getElem? (i := 1100) (by decide +kernel), List.mem_of_getElem? (i := 1101) (by decide +kernel)⟩
theorem lw_p50 : lw_okq (⟨"PostByEnemyModel", "bringsIn", "(III)Z"⟩, 28) := ⟨⟨by decide +kernel, by decide +kernel⟩, List.mem_of_getElem? (i := 734) (by decide +kernel), List.mem_of_getElem? (i := 1104) (by decide +kernel), List.mem_of_getElem? (i := 1105) (by decide +kernel)⟩
theorem lw_p51 : lw_okq (⟨"PostByEnemyModel", "changes", "()V"⟩, 28) := ⟨⟨by decide +kernel, by decide +kernel⟩, List.mem_of_getElem? (i := 734) (by decide +kernel), List.mem_of_getElem? (i := 1108) (by decide +kernel), List.mem_of_getElem? (i := 1109) (by decide +kernel)⟩
theorem lw_p52 : lw_okq (⟨"PostByEnemyModel", "changesBack", "()V"⟩, 28) := ⟨⟨by decide +kernel, by decide +kernel⟩, List.mem_of_getElem? (i := 734) (by decide +kernel), List.mem_of_getElem? (i := 1112) (by decide +kernel), List.mem_of_getElem? (i := 1113) (by decide +kernel)⟩
theorem lw_p53 : lw_okq (⟨"PostByEnemyModel", "latePeace", "(II)I"⟩, 28) := ⟨⟨by decide +kernel, by decide +kernel⟩, List.mem_of_getElem? (i := 734) (by decide +kernel), List.mem_of_getElem? (i := 1120) (by decide +kernel), List.mem_of_getElem? (i := 1121) (by decide +kernel)⟩
theorem lw_p54 : lw_okq (⟨"PostByEnemyModel", "latePosted", "(II)I"⟩, 28) := ⟨⟨by decide +kernel, by decide +kernel⟩, List.mem_of_getElem? (i := 734) (by decide +kernel), List.mem_of_getElem? (i := 1128) (by decide +kernel), List.mem_of_getElem? (i := 1129) (by decide +kernel)⟩
theorem lw_p55 : lw_okq (⟨"PostByEnemyModel", "pairs", "()I"⟩, 28) := ⟨⟨by decide +kernel, by decide +kernel⟩, List.mem_of_getElem? (i := 734) (by decide +kernel), List.mem_of_getElem? (i := 1144) (by decide +kernel), List.mem_of_getElem? (i := 1145) (by decide +kernel)⟩
theorem lw_p56 : lw_okq (⟨"PostByEnemyModel", "maliceFor", "(I)I"⟩, 28) := ⟨⟨by decide +kernel, by decide +kernel⟩, List.mem_of_getElem? (i := 734) (by decide +kernel), List.mem_of_getElem? (i := 1148) (by decide +kernel), List.mem_of_getElem? (i := 1149) (by decide +kernel)⟩
theorem lw_p57 : lw_okq (⟨"PostByEnemyModel", "findBrought", "(III)V"⟩, 28) := ⟨⟨by decide +kernel, by decide +kernel⟩, List.mem_of_getElem? (i := 734) (by decide +kernel), List.mem_of_getElem? (i := 1156) (by decide +kernel), List.mem_of_getElem? (i := 1157) (by decide +kernel)⟩
theorem lw_p58 : lw_okq (⟨"PostByEnemyModel", "broughtTo", "(I)I"⟩, 28) := ⟨⟨by decide +kernel, by decide +kernel⟩, List.mem_of_getElem? (i := 734) (by decide +kernel), List.mem_of_getElem? (i := 1160) (by decide +kernel), List.mem_of_getElem? (i := 1161) (by decide +kernel)⟩
theorem lw_p59 : lw_okq (⟨"PostByEnemyModel", "lowestOf", "(I)J"⟩, 28) := ⟨⟨by decide +kernel, by decide +kernel⟩, List.mem_of_getElem? (i := 734) (by decide +kernel), List.mem_of_getElem? (i := 1168) (by decide +kernel), List.mem_of_getElem? (i := 1169) (by decide +kernel)⟩
theorem lw_p60 : lw_okq (⟨"PostByEnemyModel", "allHate", "()I"⟩, 28) := ⟨⟨by decide +kernel, by decide +kernel⟩, List.mem_of_getElem? (i := 734) (by decide +kernel), List.mem_of_getElem? (i := 1183) (by decide +kernel), List.mem_of_getElem? (i := 1184) (by decide +kernel)⟩
theorem lw_p61 : lw_okq (⟨"PostByEnemyModel", "bitsFor", "([IIII)I"⟩, 28) := ⟨⟨by decide +kernel, by decide +kernel⟩, List.mem_of_getElem? (i := 734) (by decide +kernel), List.mem_of_getElem? (i := 1191) (by decide +kernel), List.mem_of_getElem? (i := 1192) (by decide +kernel)⟩
theorem lw_p62 : lw_okq (⟨"PostByEnemyModel", "isSo", "(I)Z"⟩, 28) := ⟨⟨by decide +kernel, by decide +kernel⟩, List.mem_of_getElem? (i := 734) (by decide +kernel), List.mem_of_getElem? (i := 1195) (by decide +kernel), List.mem_of_getElem? (i := 1196) (by decide +kernel)⟩
def lw_privs_4 : List (MethodName × Nat) := [(⟨"PostByEnemyModel", "lateSlighting", "(II)I"⟩, 28), (⟨"PostByEnemyModel", "slightsOf", "(II)I"⟩, 28), (⟨"PostByEnemyModel", "bringsIn", "(III)Z"⟩, 28), (⟨"PostByEnemyModel", "changes", "()V"⟩, 28), (⟨"PostByEnemyModel", "changesBack", "()V"⟩, 28), (⟨"PostByEnemyModel", "latePeace", "(II)I"⟩, 28), (⟨"PostByEnemyModel", "latePosted", "(II)I"⟩, 28), (⟨"PostByEnemyModel", "pairs", "()I"⟩, 28), (⟨"PostByEnemyModel", "maliceFor", "(I)I"⟩, 28), (⟨"PostByEnemyModel", "findBrought", "(III)V"⟩, 28), (⟨"PostByEnemyModel", "broughtTo", "(I)I"⟩, 28), (⟨"PostByEnemyModel", "lowestOf", "(I)J"⟩, 28), (⟨"PostByEnemyModel", "allHate", "()I"⟩, 28), (⟨"PostByEnemyModel", "bitsFor", "([IIII)I"⟩, 28), (⟨"PostByEnemyModel", "isSo", "(I)Z"⟩, 28)]
theorem lw_r4 : ∀ q ∈ lw_privs_4, lw_okq q := List.forall_mem_cons.mpr ⟨lw_p48, List.forall_mem_cons.mpr ⟨lw_p49, List.forall_mem_cons.mpr ⟨lw_p50, List.forall_mem_cons.mpr ⟨lw_p51, List.forall_mem_cons.mpr ⟨lw_p52, List.forall_mem_cons.mpr ⟨lw_p53, List.forall_mem_cons.mpr ⟨lw_p54, List.forall_mem_cons.mpr ⟨lw_p55, List.forall_mem_cons.mpr ⟨lw_p56, List.forall_mem_cons.mpr ⟨lw_p57, List.forall_mem_cons.mpr ⟨lw_p58, List.forall_mem_cons.mpr ⟨lw_p59, List.forall_mem_cons.mpr ⟨lw_p60, List.forall_mem_cons.mpr ⟨lw_p61, List.forall_mem_cons.mpr ⟨lw_p62, fun _ h => absurd h List.not_mem_nil⟩⟩⟩⟩⟩⟩⟩⟩⟩⟩⟩⟩⟩⟩⟩
def lw_privs : List (MethodName × Nat) := lw_privs_1 ++ (lw_privs_2 ++ (lw_privs_3 ++ (lw_privs_4)))
def lw_tbl : List Cond := k2_sels lw_privs ++ tables_1
theorem lw_privs_ok : ∀ q ∈ lw_privs, lw_okq q := by
  show ∀ q ∈ lw_privs_1 ++ (lw_privs_2 ++ (lw_privs_3 ++ (lw_privs_4))), lw_okq q
  exact List.forall_mem_append.mpr ⟨lw_r1, List.forall_mem_append.mpr ⟨lw_r2, List.forall_mem_append.mpr ⟨lw_r3, lw_r4⟩⟩⟩

theorem goodIn_r {big : List Cond} (ws : List Cond) (ps : List Nat) (hp : ws = ps.filterMap (fun i => big[i]?)) (h : ws.all goodWord = true) : GoodIn big ws := by
  intro w hw
  have h1 := List.all_eq_true.mp h w hw
  rw [hp] at hw
  obtain ⟨i, -, hi⟩ := List.mem_filterMap.mp hw
  have hm : w ∈ big := by first | exact List.mem_of_getElem? hi | exact List.getElem?_mem hi
  exact ⟨hm, good_of_word h1⟩
theorem goodIn_app {big a b : List Cond} (ha : GoodIn big a) (hb : GoodIn big b) : GoodIn big (a ++ b) := fun w h => (List.mem_append.mp h).elim (ha w) (hb w)
theorem goodIn_ca {big a b : List Cond} {c : Cond} (ha : GoodIn big (c :: a)) (hb : GoodIn big b) : GoodIn big (c :: (a ++ b)) := fun w h => (List.mem_cons.mp h).elim (fun e => ha w (List.mem_cons.mpr (Or.inl e))) (fun h => (List.mem_append.mp h).elim (fun h => ha w (List.mem_cons.mpr (Or.inr h))) (hb w))
theorem goodIn_sub {big ws : List Cond} (hm : ∀ w ∈ ws, w ∈ big) (h : ws.all goodWord = true) : GoodIn big ws := fun w hw => ⟨hm w hw, good_of_word (List.all_eq_true.mp h w hw)⟩
def RX0 : String := "PostByEnemy$Duchy"
def TX0 : u_T := fun k => match k with
  | 0 => ("PostByEnemy$Duchy", "people", "I", false)
  | 1 => ("PostByEnemy$Duchy", "parcels", "I", false)
  | 2 => ("PostByEnemy$Duchy", "date", "I", false)
  | 3 => ("PostByEnemy$Duchy", "kinds", "[I", true)
  | 4 => ("PostByEnemy$Duchy", "figures", "[I", true)
  | 5 => ("PostByEnemy$Duchy", "places", "[I", true)
  | 6 => ("PostByEnemy$Duchy", "gots", "[I", true)
  | 7 => ("PostByEnemy$Duchy", "feelings", "[I", true)
  | 8 => ("PostByEnemy$Duchy", "receivers", "[I", true)
  | 9 => ("PostByEnemy$Duchy", "worths", "[I", true)
  | 10 => ("PostByEnemy$Duchy", "states", "[I", true)
  | 11 => ("PostByEnemy$Duchy", "carriers", "[I", true)
  | _ => ("PostByEnemy$Duchy", "lefts", "[I", true)
def tyX0 : Nat → FieldType := fun k => match k with
  | 0 => .int
  | 1 => .int
  | 2 => .int
  | 3 => .array .int
  | 4 => .array .int
  | 5 => .array .int
  | 6 => .array .int
  | 7 => .array .int
  | 8 => .array .int
  | 9 => .array .int
  | 10 => .array .int
  | 11 => .array .int
  | _ => .array .int
abbrev wsX00 : List Cond := u_ws RX0 TX0 13
theorem nmX0 : ∀ a, a < 13 → ∀ b, b < 13 → a ≠ b → (TX0 a).2.1 ≠ (TX0 b).2.1 := by decide +kernel
theorem tyX0_ok : ∀ k, k < 13 → parseFieldDescriptor (TX0 k).2.2.1 = some (tyX0 k) := by decide +kernel
abbrev cX0_init : ByteArray := prog_2_method_1_code
def yX0_init : MethodName := ⟨RX0, "<init>", "()V"⟩
abbrev cX0_become : ByteArray := prog_2_method_2_code
def yX0_become : MethodName := ⟨RX0, "become", "(LPostByEnemy$Duchy;)V"⟩
abbrev cX0_hasPerson : ByteArray := prog_2_method_3_code
def yX0_hasPerson : MethodName := ⟨RX0, "hasPerson", "(I)Z"⟩
abbrev cX0_hasPair : ByteArray := prog_2_method_4_code
def yX0_hasPair : MethodName := ⟨RX0, "hasPair", "(II)Z"⟩
abbrev cX0_hasParcel : ByteArray := prog_2_method_5_code
def yX0_hasParcel : MethodName := ⟨RX0, "hasParcel", "(I)Z"⟩
abbrev cX0_addPerson : ByteArray := prog_2_method_6_code
def yX0_addPerson : MethodName := ⟨RX0, "addPerson", "(III)Z"⟩
abbrev cX0_addParcel : ByteArray := prog_2_method_7_code
def yX0_addParcel : MethodName := ⟨RX0, "addParcel", "(II)Z"⟩
abbrev cX0_ofPerson : ByteArray := prog_2_method_8_code
def yX0_ofPerson : MethodName := ⟨RX0, "ofPerson", "(II)I"⟩
abbrev cX0_ofParcel : ByteArray := prog_2_method_9_code
def yX0_ofParcel : MethodName := ⟨RX0, "ofParcel", "(II)I"⟩
abbrev cX0_stateOf : ByteArray := prog_2_method_10_code
def yX0_stateOf : MethodName := ⟨RX0, "stateOf", "(I)I"⟩
abbrev cX0_receiverOf : ByteArray := prog_2_method_11_code
def yX0_receiverOf : MethodName := ⟨RX0, "receiverOf", "(I)I"⟩
abbrev cX0_carrierOf : ByteArray := prog_2_method_12_code
def yX0_carrierOf : MethodName := ⟨RX0, "carrierOf", "(I)I"⟩
abbrev cX0_hateOf : ByteArray := prog_2_method_13_code
def yX0_hateOf : MethodName := ⟨RX0, "hateOf", "(II)I"⟩
abbrev cX0_setHate : ByteArray := prog_2_method_14_code
def yX0_setHate : MethodName := ⟨RX0, "setHate", "(III)Z"⟩
abbrev cX0_addHate : ByteArray := prog_2_method_15_code
def yX0_addHate : MethodName := ⟨RX0, "addHate", "(III)Z"⟩
abbrev cX0_makePeace : ByteArray := prog_2_method_16_code
def yX0_makePeace : MethodName := ⟨RX0, "makePeace", "(II)Z"⟩
abbrev cX0_hatesTogether : ByteArray := prog_2_method_17_code
def yX0_hatesTogether : MethodName := ⟨RX0, "hatesTogether", "()I"⟩
abbrev cX0_apart : ByteArray := prog_2_method_18_code
def yX0_apart : MethodName := ⟨RX0, "apart", "(II)I"⟩
abbrev cX0_milesOf : ByteArray := prog_2_method_19_code
def yX0_milesOf : MethodName := ⟨RX0, "milesOf", "(I)I"⟩
abbrev cX0_maliceOf : ByteArray := prog_2_method_20_code
def yX0_maliceOf : MethodName := ⟨RX0, "maliceOf", "(II)I"⟩
abbrev cX0_maliceOfAll : ByteArray := prog_2_method_21_code
def yX0_maliceOfAll : MethodName := ⟨RX0, "maliceOfAll", "(I)I"⟩
abbrev cX0_enemyOf : ByteArray := prog_2_method_22_code
def yX0_enemyOf : MethodName := ⟨RX0, "enemyOf", "(II)I"⟩
abbrev cX0_enemyOfHowMany : ByteArray := prog_2_method_23_code
def yX0_enemyOfHowMany : MethodName := ⟨RX0, "enemyOfHowMany", "(I)I"⟩
abbrev cX0_mutualEnemies : ByteArray := prog_2_method_24_code
def yX0_mutualEnemies : MethodName := ⟨RX0, "mutualEnemies", "()I"⟩
abbrev cX0_carries : ByteArray := prog_2_method_25_code
def yX0_carries : MethodName := ⟨RX0, "carries", "(I)Z"⟩
abbrev cX0_brought : ByteArray := prog_2_method_26_code
def yX0_brought : MethodName := ⟨RX0, "brought", "()I"⟩
abbrev cX0_parcelsThat : ByteArray := prog_2_method_27_code
def yX0_parcelsThat : MethodName := ⟨RX0, "parcelsThat", "(I)I"⟩
abbrev cX0_passDays : ByteArray := prog_2_method_28_code
def yX0_passDays : MethodName := ⟨RX0, "passDays", "(I)V"⟩
abbrev cX0_passDay : ByteArray := prog_2_method_29_code
def yX0_passDay : MethodName := ⟨RX0, "passDay", "(Z)V"⟩
abbrev cX0_carryOn : ByteArray := prog_2_method_30_code
def yX0_carryOn : MethodName := ⟨RX0, "carryOn", "()V"⟩
abbrev cX0_giveOut : ByteArray := prog_2_method_31_code
def yX0_giveOut : MethodName := ⟨RX0, "giveOut", "()V"⟩
abbrev cX0_daysOnRoad : ByteArray := prog_2_method_32_code
def yX0_daysOnRoad : MethodName := ⟨RX0, "daysOnRoad", "(II)I"⟩
abbrev cX0_coolDown : ByteArray := prog_2_method_33_code
def yX0_coolDown : MethodName := ⟨RX0, "coolDown", "()V"⟩
def RX1 : String := "PostByEnemy$Row"
def TX1 : u_T := fun k => match k with
  | 0 => ("PostByEnemy$Row", "size", "I", false)
  | _ => ("PostByEnemy$Row", "numbers", "[I", true)
def tyX1 : Nat → FieldType := fun k => match k with
  | 0 => .int
  | _ => .array .int
abbrev wsX10 : List Cond := u_ws RX1 TX1 2
theorem nmX1 : ∀ a, a < 2 → ∀ b, b < 2 → a ≠ b → (TX1 a).2.1 ≠ (TX1 b).2.1 := by decide +kernel
theorem tyX1_ok : ∀ k, k < 2 → parseFieldDescriptor (TX1 k).2.2.1 = some (tyX1 k) := by decide +kernel
abbrev cX1_init : ByteArray := prog_3_method_1_code
def yX1_init : MethodName := ⟨RX1, "<init>", "()V"⟩
abbrev cX1_add : ByteArray := prog_3_method_2_code
def yX1_add : MethodName := ⟨RX1, "add", "(I)V"⟩
abbrev cX1_at : ByteArray := prog_3_method_3_code
def yX1_at : MethodName := ⟨RX1, "at", "(I)I"⟩
def RX2 : String := "PostByEnemy$Text"
def TX2 : u_T := fun k => match k with
  | 0 => ("PostByEnemy$Text", "size", "I", false)
  | _ => ("PostByEnemy$Text", "letters", "[I", true)
def tyX2 : Nat → FieldType := fun k => match k with
  | 0 => .int
  | _ => .array .int
abbrev wsX20 : List Cond := u_ws RX2 TX2 2
theorem nmX2 : ∀ a, a < 2 → ∀ b, b < 2 → a ≠ b → (TX2 a).2.1 ≠ (TX2 b).2.1 := by decide +kernel
theorem tyX2_ok : ∀ k, k < 2 → parseFieldDescriptor (TX2 k).2.2.1 = some (tyX2 k) := by decide +kernel
abbrev cX2_init : ByteArray := prog_4_method_1_code
def yX2_init : MethodName := ⟨RX2, "<init>", "()V"⟩
abbrev cX2_add : ByteArray := prog_4_method_2_code
def yX2_add : MethodName := ⟨RX2, "add", "(I)V"⟩
abbrev cX2_letterAt : ByteArray := prog_4_method_3_code
def yX2_letterAt : MethodName := ⟨RX2, "letterAt", "(I)I"⟩
abbrev cX2_formOf : ByteArray := prog_4_method_4_code
def yX2_formOf : MethodName := ⟨RX2, "formOf", "(I)Ljava/lang/String;"⟩
abbrev cX2_fits : ByteArray := prog_4_method_5_code
def yX2_fits : MethodName := ⟨RX2, "fits", "(CI)Z"⟩
abbrev cX2_lengthAt : ByteArray := prog_4_method_6_code
def yX2_lengthAt : MethodName := ⟨RX2, "lengthAt", "(I)I"⟩
abbrev cX2_firstMisfit : ByteArray := prog_4_method_7_code
def yX2_firstMisfit : MethodName := ⟨RX2, "firstMisfit", "()I"⟩
abbrev cX2_digitAt : ByteArray := prog_4_method_8_code
def yX2_digitAt : MethodName := ⟨RX2, "digitAt", "(I)I"⟩
abbrev cX2_numberAt : ByteArray := prog_4_method_9_code
def yX2_numberAt : MethodName := ⟨RX2, "numberAt", "(I)I"⟩
abbrev cX2_tell : ByteArray := prog_4_method_10_code
def yX2_tell : MethodName := ⟨RX2, "tell", "(ILPostByEnemy$Duchy;)Z"⟩
abbrev cX2_letDaysPass : ByteArray := prog_4_method_11_code
def yX2_letDaysPass : MethodName := ⟨RX2, "letDaysPass", "(ILPostByEnemy$Duchy;)Z"⟩
def RX3 : String := "PostByEnemy$Thought"
def TX3 : u_T := fun k => match k with
  | 0 => ("PostByEnemy$Thought", "mind", "LPostByEnemy$Duchy;", true)
  | 1 => ("PostByEnemy$Thought", "later", "LPostByEnemy$Duchy;", true)
  | 2 => ("PostByEnemy$Thought", "firstGot", "[I", true)
  | _ => ("PostByEnemy$Thought", "otherGot", "[I", true)
def tyX3 : Nat → FieldType := fun k => match k with
  | 0 => .object "PostByEnemy$Duchy"
  | 1 => .object "PostByEnemy$Duchy"
  | 2 => .array .int
  | _ => .array .int
abbrev wsX30 : List Cond := u_ws RX3 TX3 4
theorem nmX3 : ∀ a, a < 4 → ∀ b, b < 4 → a ≠ b → (TX3 a).2.1 ≠ (TX3 b).2.1 := by decide +kernel
theorem tyX3_ok : ∀ k, k < 4 → parseFieldDescriptor (TX3 k).2.2.1 = some (tyX3 k) := by decide +kernel
abbrev cX3_init : ByteArray := prog_5_method_1_code
def yX3_init : MethodName := ⟨RX3, "<init>", "()V"⟩
abbrev cX3_behind : ByteArray := prog_5_method_2_code
def yX3_behind : MethodName := ⟨RX3, "behind", "(LPostByEnemy$Duchy;I)LPostByEnemy$Duchy;"⟩
abbrev cX3_firstBrought : ByteArray := prog_5_method_3_code
def yX3_firstBrought : MethodName := ⟨RX3, "firstBrought", "(LPostByEnemy$Duchy;)I"⟩
abbrev cX3_daysTillAll : ByteArray := prog_5_method_4_code
def yX3_daysTillAll : MethodName := ⟨RX3, "daysTillAll", "(LPostByEnemy$Duchy;)I"⟩
abbrev cX3_bestSlight : ByteArray := prog_5_method_5_code
def yX3_bestSlight : MethodName := ⟨RX3, "bestSlight", "(LPostByEnemy$Duchy;I)I"⟩
abbrev cX3_worstPeace : ByteArray := prog_5_method_6_code
def yX3_worstPeace : MethodName := ⟨RX3, "worstPeace", "(LPostByEnemy$Duchy;I)I"⟩
abbrev cX3_isEnough : ByteArray := prog_5_method_7_code
def yX3_isEnough : MethodName := ⟨RX3, "isEnough", "(LPostByEnemy$Duchy;III)Z"⟩
abbrev cX3_slightAll : ByteArray := prog_5_method_8_code
def yX3_slightAll : MethodName := ⟨RX3, "slightAll", "(III)Z"⟩
abbrev cX3_bestPosting : ByteArray := prog_5_method_9_code
def yX3_bestPosting : MethodName := ⟨RX3, "bestPosting", "(LPostByEnemy$Duchy;IZ)I"⟩
abbrev cX3_court : ByteArray := prog_5_method_10_code
def yX3_court : MethodName := ⟨RX3, "court", "(LPostByEnemy$Duchy;III)I"⟩
abbrev cX3_broughtTo : ByteArray := prog_5_method_11_code
def yX3_broughtTo : MethodName := ⟨RX3, "broughtTo", "(I)I"⟩
abbrev cX3_broughtOfAll : ByteArray := prog_5_method_12_code
def yX3_broughtOfAll : MethodName := ⟨RX3, "broughtOfAll", "(LPostByEnemy$Duchy;III)J"⟩
abbrev cX3_fitting : ByteArray := prog_5_method_13_code
def yX3_fitting : MethodName := ⟨RX3, "fitting", "(LPostByEnemy$Duchy;IIZLPostByEnemy$Row;)I"⟩
abbrev cX3_goesAsTold : ByteArray := prog_5_method_14_code
def yX3_goesAsTold : MethodName := ⟨RX3, "goesAsTold", "(ILPostByEnemy$Row;)Z"⟩
abbrev cX3_ofDrawnDuchies : ByteArray := prog_5_method_15_code
def yX3_ofDrawnDuchies : MethodName := ⟨RX3, "ofDrawnDuchies", "(LPostByEnemy$Duchy;IIZ)I"⟩
abbrev cX3_drawHates : ByteArray := prog_5_method_16_code
def yX3_drawHates : MethodName := ⟨RX3, "drawHates", "(I)I"⟩
def RX4 : String := "PostByEnemy"
def TX4 : u_T := fun k => match k with
  | 0 => ("PostByEnemy", "now", "LPostByEnemy$Duchy;", true)
  | 1 => ("PostByEnemy", "taken", "LPostByEnemy$Duchy;", true)
  | 2 => ("PostByEnemy", "isTaken", "Z", false)
  | 3 => ("PostByEnemy", "thought", "LPostByEnemy$Thought;", true)
  | 4 => ("PostByEnemy", "text", "LPostByEnemy$Text;", true)
  | 5 => ("PostByEnemy", "told", "LPostByEnemy$Row;", true)
  | _ => ("PostByEnemy", "refused", "[I", true)
def tyX4 : Nat → FieldType := fun k => match k with
  | 0 => .object "PostByEnemy$Duchy"
  | 1 => .object "PostByEnemy$Duchy"
  | 2 => .boolean
  | 3 => .object "PostByEnemy$Thought"
  | 4 => .object "PostByEnemy$Text"
  | 5 => .object "PostByEnemy$Row"
  | _ => .array .int
abbrev wsX40 : List Cond := u_ws RX4 TX4 7
theorem nmX4 : ∀ a, a < 7 → ∀ b, b < 7 → a ≠ b → (TX4 a).2.1 ≠ (TX4 b).2.1 := by decide +kernel
theorem tyX4_ok : ∀ k, k < 7 → parseFieldDescriptor (TX4 k).2.2.1 = some (tyX4 k) := by decide +kernel
abbrev cX4_init : ByteArray := prog_1_method_1_code
def yX4_init : MethodName := ⟨RX4, "<init>", "()V"⟩
abbrev cX4_letter : ByteArray := prog_1_method_2_code
def yX4_letter : MethodName := ⟨RX4, "letter", "(I)I"⟩
abbrev cX4_duchy : ByteArray := prog_1_method_3_code
def yX4_duchy : MethodName := ⟨RX4, "duchy", "()I"⟩
abbrev cX4_person : ByteArray := prog_1_method_4_code
def yX4_person : MethodName := ⟨RX4, "person", "(II)I"⟩
abbrev cX4_parcel : ByteArray := prog_1_method_5_code
def yX4_parcel : MethodName := ⟨RX4, "parcel", "(II)I"⟩
abbrev cX4_hate : ByteArray := prog_1_method_6_code
def yX4_hate : MethodName := ⟨RX4, "hate", "(II)I"⟩
abbrev cX4_posts : ByteArray := prog_1_method_7_code
def yX4_posts : MethodName := ⟨RX4, "posts", "(II)I"⟩
abbrev cX4_hates : ByteArray := prog_1_method_8_code
def yX4_hates : MethodName := ⟨RX4, "hates", "(III)I"⟩
abbrev cX4_slights : ByteArray := prog_1_method_9_code
def yX4_slights : MethodName := ⟨RX4, "slights", "(II)I"⟩
abbrev cX4_peace : ByteArray := prog_1_method_10_code
def yX4_peace : MethodName := ⟨RX4, "peace", "(II)I"⟩
abbrev cX4_moves : ByteArray := prog_1_method_11_code
def yX4_moves : MethodName := ⟨RX4, "moves", "(II)I"⟩
abbrev cX4_turn : ByteArray := prog_1_method_12_code
def yX4_turn : MethodName := ⟨RX4, "turn", "(III)I"⟩
abbrev cX4_days : ByteArray := prog_1_method_13_code
def yX4_days : MethodName := ⟨RX4, "days", "(I)I"⟩
abbrev cX4_parcelThen : ByteArray := prog_1_method_14_code
def yX4_parcelThen : MethodName := ⟨RX4, "parcelThen", "(III)I"⟩
abbrev cX4_hateThen : ByteArray := prog_1_method_15_code
def yX4_hateThen : MethodName := ⟨RX4, "hateThen", "(III)I"⟩
abbrev cX4_gotThen : ByteArray := prog_1_method_16_code
def yX4_gotThen : MethodName := ⟨RX4, "gotThen", "(II)I"⟩
abbrev cX4_when : ByteArray := prog_1_method_17_code
def yX4_when : MethodName := ⟨RX4, "when", "(I)I"⟩
abbrev cX4_first : ByteArray := prog_1_method_18_code
def yX4_first : MethodName := ⟨RX4, "first", "(I)I"⟩
abbrev cX4_enemy : ByteArray := prog_1_method_19_code
def yX4_enemy : MethodName := ⟨RX4, "enemy", "(II)I"⟩
abbrev cX4_malice : ByteArray := prog_1_method_20_code
def yX4_malice : MethodName := ⟨RX4, "malice", "(II)I"⟩
abbrev cX4_loved : ByteArray := prog_1_method_21_code
def yX4_loved : MethodName := ⟨RX4, "loved", "()I"⟩
abbrev cX4_busiest : ByteArray := prog_1_method_22_code
def yX4_busiest : MethodName := ⟨RX4, "busiest", "(I)I"⟩
abbrev cX4_ring : ByteArray := prog_1_method_23_code
def yX4_ring : MethodName := ⟨RX4, "ring", "(II)I"⟩
abbrev cX4_slight : ByteArray := prog_1_method_24_code
def yX4_slight : MethodName := ⟨RX4, "slight", "(I)I"⟩
abbrev cX4_cost : ByteArray := prog_1_method_25_code
def yX4_cost : MethodName := ⟨RX4, "cost", "(II)I"⟩
abbrev cX4_makeUp : ByteArray := prog_1_method_26_code
def yX4_makeUp : MethodName := ⟨RX4, "makeUp", "(I)I"⟩
abbrev cX4_post : ByteArray := prog_1_method_27_code
def yX4_post : MethodName := ⟨RX4, "post", "(II)I"⟩
abbrev cX4_road : ByteArray := prog_1_method_28_code
def yX4_road : MethodName := ⟨RX4, "road", "(II)I"⟩
abbrev cX4_farthest : ByteArray := prog_1_method_29_code
def yX4_farthest : MethodName := ⟨RX4, "farthest", "()I"⟩
abbrev cX4_fair : ByteArray := prog_1_method_30_code
def yX4_fair : MethodName := ⟨RX4, "fair", "(I)I"⟩
abbrev cX4_two : ByteArray := prog_1_method_31_code
def yX4_two : MethodName := ⟨RX4, "two", "(III)I"⟩
abbrev cX4_snow : ByteArray := prog_1_method_32_code
def yX4_snow : MethodName := ⟨RX4, "snow", "(IIII)J"⟩
abbrev cX4_mean : ByteArray := prog_1_method_33_code
def yX4_mean : MethodName := ⟨RX4, "mean", "(I)J"⟩
abbrev cX4_who : ByteArray := prog_1_method_34_code
def yX4_who : MethodName := ⟨RX4, "who", "(III)I"⟩
abbrev cX4_row : ByteArray := prog_1_method_35_code
def yX4_row : MethodName := ⟨RX4, "row", "(I)I"⟩
abbrev cX4_judge : ByteArray := prog_1_method_36_code
def yX4_judge : MethodName := ⟨RX4, "judge", "()I"⟩
abbrev cX4_clear : ByteArray := prog_1_method_37_code
def yX4_clear : MethodName := ⟨RX4, "clear", "()I"⟩
abbrev cX4_lots : ByteArray := prog_1_method_38_code
def yX4_lots : MethodName := ⟨RX4, "lots", "(III)I"⟩
abbrev cX4_image : ByteArray := prog_1_method_39_code
def yX4_image : MethodName := ⟨RX4, "image", "()I"⟩
abbrev cX4_on : ByteArray := prog_1_method_40_code
def yX4_on : MethodName := ⟨RX4, "on", "()I"⟩
abbrev cX4_count : ByteArray := prog_1_method_41_code
def yX4_count : MethodName := ⟨RX4, "count", "(I)I"⟩
abbrev cX4_refuse : ByteArray := prog_1_method_42_code
def yX4_refuse : MethodName := ⟨RX4, "refuse", "(I)I"⟩
abbrev cX4_refuseLong : ByteArray := prog_1_method_43_code
def yX4_refuseLong : MethodName := ⟨RX4, "refuseLong", "(I)J"⟩
abbrev cX4_notWaiting : ByteArray := prog_1_method_44_code
def yX4_notWaiting : MethodName := ⟨RX4, "notWaiting", "(I)I"⟩
abbrev cX4_asTold : ByteArray := prog_1_method_45_code
def yX4_asTold : MethodName := ⟨RX4, "asTold", "(I)I"⟩
abbrev cX4_dayOrNone : ByteArray := prog_1_method_46_code
def yX4_dayOrNone : MethodName := ⟨RX4, "dayOrNone", "(I)I"⟩
abbrev cX4_daysTillBrought : ByteArray := prog_1_method_47_code
def yX4_daysTillBrought : MethodName := ⟨RX4, "daysTillBrought", "(LPostByEnemy$Duchy;II)I"⟩
abbrev cX4_partOf : ByteArray := prog_1_method_48_code
def yX4_partOf : MethodName := ⟨RX4, "partOf", "(JJI)J"⟩
abbrev cX4_greatestDivisor : ByteArray := prog_1_method_49_code
def yX4_greatestDivisor : MethodName := ⟨RX4, "greatestDivisor", "(JJ)J"⟩
def RX5 : String := "PostByEnemyModel"
def TX5 : u_T := fun k => match k with
  | 0 => ("PostByEnemyModel", "refused", "[I", true)
  | 1 => ("PostByEnemyModel", "kind", "[I", true)
  | 2 => ("PostByEnemyModel", "figure", "[I", true)
  | 3 => ("PostByEnemyModel", "place", "[I", true)
  | 4 => ("PostByEnemyModel", "got", "[I", true)
  | 5 => ("PostByEnemyModel", "hate", "[I", true)
  | 6 => ("PostByEnemyModel", "to", "[I", true)
  | 7 => ("PostByEnemyModel", "worth", "[I", true)
  | 8 => ("PostByEnemyModel", "state", "[I", true)
  | 9 => ("PostByEnemyModel", "left", "[I", true)
  | 10 => ("PostByEnemyModel", "by", "[I", true)
  | 11 => ("PostByEnemyModel", "people", "I", false)
  | 12 => ("PostByEnemyModel", "parcels", "I", false)
  | 13 => ("PostByEnemyModel", "day", "I", false)
  | 14 => ("PostByEnemyModel", "tape", "[I", true)
  | 15 => ("PostByEnemyModel", "letter", "[I", true)
  | 16 => ("PostByEnemyModel", "letterAt", "[I", true)
  | 17 => ("PostByEnemyModel", "told", "[I", true)
  | 18 => ("PostByEnemyModel", "taped", "I", false)
  | 19 => ("PostByEnemyModel", "at", "I", false)
  | 20 => ("PostByEnemyModel", "statements", "I", false)
  | 21 => ("PostByEnemyModel", "kept", "[I", true)
  | 22 => ("PostByEnemyModel", "hasImage", "Z", false)
  | 23 => ("PostByEnemyModel", "isKeeping", "Z", false)
  | 24 => ("PostByEnemyModel", "cursor", "I", false)
  | 25 => ("PostByEnemyModel", "broughtBy", "[I", true)
  | 26 => ("PostByEnemyModel", "row", "[I", true)
  | _ => ("PostByEnemyModel", "rowMany", "I", false)
def tyX5 : Nat → FieldType := fun k => match k with
  | 0 => .array .int
  | 1 => .array .int
  | 2 => .array .int
  | 3 => .array .int
  | 4 => .array .int
  | 5 => .array .int
  | 6 => .array .int
  | 7 => .array .int
  | 8 => .array .int
  | 9 => .array .int
  | 10 => .array .int
  | 11 => .int
  | 12 => .int
  | 13 => .int
  | 14 => .array .int
  | 15 => .array .int
  | 16 => .array .int
  | 17 => .array .int
  | 18 => .int
  | 19 => .int
  | 20 => .int
  | 21 => .array .int
  | 22 => .boolean
  | 23 => .boolean
  | 24 => .int
  | 25 => .array .int
  | 26 => .array .int
  | _ => .int
abbrev wsX50 : List Cond := u_ws RX5 TX5 28
theorem nmX5 : ∀ a, a < 28 → ∀ b, b < 28 → a ≠ b → (TX5 a).2.1 ≠ (TX5 b).2.1 := by decide +kernel
theorem tyX5_ok : ∀ k, k < 28 → parseFieldDescriptor (TX5 k).2.2.1 = some (tyX5 k) := by decide +kernel
abbrev cX5_init : ByteArray := prog_7_method_1_code
def yX5_init : MethodName := ⟨RX5, "<init>", "()V"⟩
abbrev cX5_no : ByteArray := prog_7_method_2_code
def yX5_no : MethodName := ⟨RX5, "no", "(I)I"⟩
abbrev cX5_lowestOf : ByteArray := prog_7_method_3_code
def yX5_lowestOf : MethodName := ⟨RX5, "lowestOf", "(I)J"⟩
abbrev cX5_isIn : ByteArray := prog_7_method_4_code
def yX5_isIn : MethodName := ⟨RX5, "isIn", "(III)Z"⟩
abbrev cX5_bound : ByteArray := prog_7_method_5_code
def yX5_bound : MethodName := ⟨RX5, "bound", "(III)I"⟩
abbrev cX5_held : ByteArray := prog_7_method_6_code
def yX5_held : MethodName := ⟨RX5, "held", "(III)I"⟩
abbrev cX5_has : ByteArray := prog_7_method_7_code
def yX5_has : MethodName := ⟨RX5, "has", "(II)Z"⟩
abbrev cX5_bits : ByteArray := prog_7_method_8_code
def yX5_bits : MethodName := ⟨RX5, "bits", "(I)I"⟩
abbrev cX5_apart : ByteArray := prog_7_method_9_code
def yX5_apart : MethodName := ⟨RX5, "apart", "(II)I"⟩
abbrev cX5_isOne : ByteArray := prog_7_method_10_code
def yX5_isOne : MethodName := ⟨RX5, "isOne", "(I)Z"⟩
abbrev cX5_areTwo : ByteArray := prog_7_method_11_code
def yX5_areTwo : MethodName := ⟨RX5, "areTwo", "(II)Z"⟩
abbrev cX5_isParcel : ByteArray := prog_7_method_12_code
def yX5_isParcel : MethodName := ⟨RX5, "isParcel", "(I)Z"⟩
abbrev cX5_spot : ByteArray := prog_7_method_13_code
def yX5_spot : MethodName := ⟨RX5, "spot", "(II)I"⟩
abbrev cX5_letter : ByteArray := prog_7_method_14_code
def yX5_letter : MethodName := ⟨RX5, "letter", "(I)I"⟩
abbrev cX5_next : ByteArray := prog_7_method_15_code
def yX5_next : MethodName := ⟨RX5, "next", "()I"⟩
abbrev cX5_readsDigits : ByteArray := prog_7_method_16_code
def yX5_readsDigits : MethodName := ⟨RX5, "readsDigits", "(II)Z"⟩
abbrev cX5_kindOf : ByteArray := prog_7_method_17_code
def yX5_kindOf : MethodName := ⟨RX5, "kindOf", "(I)I"⟩
abbrev cX5_readsOne : ByteArray := prog_7_method_18_code
def yX5_readsOne : MethodName := ⟨RX5, "readsOne", "(I)Z"⟩
abbrev cX5_readsAll : ByteArray := prog_7_method_19_code
def yX5_readsAll : MethodName := ⟨RX5, "readsAll", "(II)Z"⟩
abbrev cX5_statement : ByteArray := prog_7_method_20_code
def yX5_statement : MethodName := ⟨RX5, "statement", "()Z"⟩
abbrev cX5_comesOne : ByteArray := prog_7_method_21_code
def yX5_comesOne : MethodName := ⟨RX5, "comesOne", "(III)Z"⟩
abbrev cX5_comesParcel : ByteArray := prog_7_method_22_code
def yX5_comesParcel : MethodName := ⟨RX5, "comesParcel", "(II)Z"⟩
abbrev cX5_comesTwo : ByteArray := prog_7_method_23_code
def yX5_comesTwo : MethodName := ⟨RX5, "comesTwo", "(IIII)Z"⟩
abbrev cX5_comesDays : ByteArray := prog_7_method_24_code
def yX5_comesDays : MethodName := ⟨RX5, "comesDays", "(I)Z"⟩
abbrev cX5_comes : ByteArray := prog_7_method_25_code
def yX5_comes : MethodName := ⟨RX5, "comes", "(I)Z"⟩
abbrev cX5_duchy : ByteArray := prog_7_method_26_code
def yX5_duchy : MethodName := ⟨RX5, "duchy", "()I"⟩
abbrev cX5_passes : ByteArray := prog_7_method_27_code
def yX5_passes : MethodName := ⟨RX5, "passes", "([I)V"⟩
abbrev cX5_passOne : ByteArray := prog_7_method_28_code
def yX5_passOne : MethodName := ⟨RX5, "passOne", "(I)I"⟩
abbrev cX5_passesAll : ByteArray := prog_7_method_29_code
def yX5_passesAll : MethodName := ⟨RX5, "passesAll", "(IZ)V"⟩
abbrev cX5_thinks : ByteArray := prog_7_method_30_code
def yX5_thinks : MethodName := ⟨RX5, "thinks", "()V"⟩
abbrev cX5_forgets : ByteArray := prog_7_method_31_code
def yX5_forgets : MethodName := ⟨RX5, "forgets", "()V"⟩
abbrev cX5_changes : ByteArray := prog_7_method_32_code
def yX5_changes : MethodName := ⟨RX5, "changes", "()V"⟩
abbrev cX5_changesBack : ByteArray := prog_7_method_33_code
def yX5_changesBack : MethodName := ⟨RX5, "changesBack", "()V"⟩
abbrev cX5_image : ByteArray := prog_7_method_34_code
def yX5_image : MethodName := ⟨RX5, "image", "()I"⟩
abbrev cX5_on : ByteArray := prog_7_method_35_code
def yX5_on : MethodName := ⟨RX5, "on", "()I"⟩
abbrev cX5_slighted : ByteArray := prog_7_method_36_code
def yX5_slighted : MethodName := ⟨RX5, "slighted", "(III)V"⟩
abbrev cX5_madeUp : ByteArray := prog_7_method_37_code
def yX5_madeUp : MethodName := ⟨RX5, "madeUp", "(II)V"⟩
abbrev cX5_adds : ByteArray := prog_7_method_38_code
def yX5_adds : MethodName := ⟨RX5, "adds", "(II)V"⟩
abbrev cX5_maliceOf : ByteArray := prog_7_method_39_code
def yX5_maliceOf : MethodName := ⟨RX5, "maliceOf", "(II)I"⟩
abbrev cX5_milesOf : ByteArray := prog_7_method_40_code
def yX5_milesOf : MethodName := ⟨RX5, "milesOf", "(I)I"⟩
abbrev cX5_enemyBut : ByteArray := prog_7_method_41_code
def yX5_enemyBut : MethodName := ⟨RX5, "enemyBut", "(II)I"⟩
abbrev cX5_enemyOf : ByteArray := prog_7_method_42_code
def yX5_enemyOf : MethodName := ⟨RX5, "enemyOf", "(I)I"⟩
abbrev cX5_isCarrying : ByteArray := prog_7_method_43_code
def yX5_isCarrying : MethodName := ⟨RX5, "isCarrying", "(I)Z"⟩
abbrev cX5_comesNearer : ByteArray := prog_7_method_44_code
def yX5_comesNearer : MethodName := ⟨RX5, "comesNearer", "(I)V"⟩
abbrev cX5_isTaken : ByteArray := prog_7_method_45_code
def yX5_isTaken : MethodName := ⟨RX5, "isTaken", "(I)V"⟩
abbrev cX5_goesDay : ByteArray := prog_7_method_46_code
def yX5_goesDay : MethodName := ⟨RX5, "goesDay", "(Z)V"⟩
abbrev cX5_goes : ByteArray := prog_7_method_47_code
def yX5_goes : MethodName := ⟨RX5, "goes", "(I)V"⟩
abbrev cX5_thoseIn : ByteArray := prog_7_method_48_code
def yX5_thoseIn : MethodName := ⟨RX5, "thoseIn", "(I)I"⟩
abbrev cX5_allHate : ByteArray := prog_7_method_49_code
def yX5_allHate : MethodName := ⟨RX5, "allHate", "()I"⟩
abbrev cX5_person : ByteArray := prog_7_method_50_code
def yX5_person : MethodName := ⟨RX5, "person", "(II)I"⟩
abbrev cX5_parcel : ByteArray := prog_7_method_51_code
def yX5_parcel : MethodName := ⟨RX5, "parcel", "(II)I"⟩
abbrev cX5_hate : ByteArray := prog_7_method_52_code
def yX5_hate : MethodName := ⟨RX5, "hate", "(II)I"⟩
abbrev cX5_posts : ByteArray := prog_7_method_53_code
def yX5_posts : MethodName := ⟨RX5, "posts", "(II)I"⟩
abbrev cX5_hates : ByteArray := prog_7_method_54_code
def yX5_hates : MethodName := ⟨RX5, "hates", "(III)I"⟩
abbrev cX5_slights : ByteArray := prog_7_method_55_code
def yX5_slights : MethodName := ⟨RX5, "slights", "(II)I"⟩
abbrev cX5_peace : ByteArray := prog_7_method_56_code
def yX5_peace : MethodName := ⟨RX5, "peace", "(II)I"⟩
abbrev cX5_moves : ByteArray := prog_7_method_57_code
def yX5_moves : MethodName := ⟨RX5, "moves", "(II)I"⟩
abbrev cX5_turn : ByteArray := prog_7_method_58_code
def yX5_turn : MethodName := ⟨RX5, "turn", "(III)I"⟩
abbrev cX5_days : ByteArray := prog_7_method_59_code
def yX5_days : MethodName := ⟨RX5, "days", "(I)I"⟩
abbrev cX5_notDays : ByteArray := prog_7_method_60_code
def yX5_notDays : MethodName := ⟨RX5, "notDays", "(I)I"⟩
abbrev cX5_parcelThen : ByteArray := prog_7_method_61_code
def yX5_parcelThen : MethodName := ⟨RX5, "parcelThen", "(III)I"⟩
abbrev cX5_hateThen : ByteArray := prog_7_method_62_code
def yX5_hateThen : MethodName := ⟨RX5, "hateThen", "(III)I"⟩
abbrev cX5_gotThen : ByteArray := prog_7_method_63_code
def yX5_gotThen : MethodName := ⟨RX5, "gotThen", "(II)I"⟩
abbrev cX5_whenOf : ByteArray := prog_7_method_64_code
def yX5_whenOf : MethodName := ⟨RX5, "whenOf", "(I)I"⟩
abbrev cX5_lateOf : ByteArray := prog_7_method_65_code
def yX5_lateOf : MethodName := ⟨RX5, "lateOf", "(I)I"⟩
abbrev cX5_when : ByteArray := prog_7_method_66_code
def yX5_when : MethodName := ⟨RX5, "when", "(I)I"⟩
abbrev cX5_first : ByteArray := prog_7_method_67_code
def yX5_first : MethodName := ⟨RX5, "first", "(I)I"⟩
abbrev cX5_enemy : ByteArray := prog_7_method_68_code
def yX5_enemy : MethodName := ⟨RX5, "enemy", "(II)I"⟩
abbrev cX5_malice : ByteArray := prog_7_method_69_code
def yX5_malice : MethodName := ⟨RX5, "malice", "(II)I"⟩
abbrev cX5_loved : ByteArray := prog_7_method_70_code
def yX5_loved : MethodName := ⟨RX5, "loved", "()I"⟩
abbrev cX5_enemyOfMany : ByteArray := prog_7_method_71_code
def yX5_enemyOfMany : MethodName := ⟨RX5, "enemyOfMany", "(I)I"⟩
abbrev cX5_busiest : ByteArray := prog_7_method_72_code
def yX5_busiest : MethodName := ⟨RX5, "busiest", "(I)I"⟩
abbrev cX5_ring : ByteArray := prog_7_method_73_code
def yX5_ring : MethodName := ⟨RX5, "ring", "(II)I"⟩
abbrev cX5_lateSlighting : ByteArray := prog_7_method_74_code
def yX5_lateSlighting : MethodName := ⟨RX5, "lateSlighting", "(II)I"⟩
abbrev cX5_slight : ByteArray := prog_7_method_75_code
def yX5_slight : MethodName := ⟨RX5, "slight", "(I)I"⟩
abbrev cX5_bringsIn : ByteArray := prog_7_method_76_code
def yX5_bringsIn : MethodName := ⟨RX5, "bringsIn", "(III)Z"⟩
abbrev cX5_slightsOf : ByteArray := prog_7_method_77_code
def yX5_slightsOf : MethodName := ⟨RX5, "slightsOf", "(II)I"⟩
abbrev cX5_cost : ByteArray := prog_7_method_78_code
def yX5_cost : MethodName := ⟨RX5, "cost", "(II)I"⟩
abbrev cX5_latePeace : ByteArray := prog_7_method_79_code
def yX5_latePeace : MethodName := ⟨RX5, "latePeace", "(II)I"⟩
abbrev cX5_makeUp : ByteArray := prog_7_method_80_code
def yX5_makeUp : MethodName := ⟨RX5, "makeUp", "(I)I"⟩
abbrev cX5_latePosted : ByteArray := prog_7_method_81_code
def yX5_latePosted : MethodName := ⟨RX5, "latePosted", "(II)I"⟩
abbrev cX5_post : ByteArray := prog_7_method_82_code
def yX5_post : MethodName := ⟨RX5, "post", "(II)I"⟩
abbrev cX5_road : ByteArray := prog_7_method_83_code
def yX5_road : MethodName := ⟨RX5, "road", "(II)I"⟩
abbrev cX5_farthest : ByteArray := prog_7_method_84_code
def yX5_farthest : MethodName := ⟨RX5, "farthest", "()I"⟩
abbrev cX5_maliceFor : ByteArray := prog_7_method_85_code
def yX5_maliceFor : MethodName := ⟨RX5, "maliceFor", "(I)I"⟩
abbrev cX5_pairs : ByteArray := prog_7_method_86_code
def yX5_pairs : MethodName := ⟨RX5, "pairs", "()I"⟩
abbrev cX5_fair : ByteArray := prog_7_method_87_code
def yX5_fair : MethodName := ⟨RX5, "fair", "(I)I"⟩
abbrev cX5_broughtTo : ByteArray := prog_7_method_88_code
def yX5_broughtTo : MethodName := ⟨RX5, "broughtTo", "(I)I"⟩
abbrev cX5_findBrought : ByteArray := prog_7_method_89_code
def yX5_findBrought : MethodName := ⟨RX5, "findBrought", "(III)V"⟩
abbrev cX5_two : ByteArray := prog_7_method_90_code
def yX5_two : MethodName := ⟨RX5, "two", "(III)I"⟩
abbrev cX5_divisor : ByteArray := prog_7_method_91_code
def yX5_divisor : MethodName := ⟨RX5, "divisor", "(JJ)J"⟩
abbrev cX5_partOf : ByteArray := prog_7_method_92_code
def yX5_partOf : MethodName := ⟨RX5, "partOf", "(JJI)J"⟩
abbrev cX5_snow : ByteArray := prog_7_method_93_code
def yX5_snow : MethodName := ⟨RX5, "snow", "(IIII)J"⟩
abbrev cX5_mean : ByteArray := prog_7_method_94_code
def yX5_mean : MethodName := ⟨RX5, "mean", "(I)J"⟩
abbrev cX5_isSo : ByteArray := prog_7_method_95_code
def yX5_isSo : MethodName := ⟨RX5, "isSo", "(I)Z"⟩
abbrev cX5_bitsFor : ByteArray := prog_7_method_96_code
def yX5_bitsFor : MethodName := ⟨RX5, "bitsFor", "([IIII)I"⟩
abbrev cX5_who : ByteArray := prog_7_method_97_code
def yX5_who : MethodName := ⟨RX5, "who", "(III)I"⟩
abbrev cX5_row : ByteArray := prog_7_method_98_code
def yX5_row : MethodName := ⟨RX5, "row", "(I)I"⟩
abbrev cX5_judge : ByteArray := prog_7_method_99_code
def yX5_judge : MethodName := ⟨RX5, "judge", "()I"⟩
abbrev cX5_clear : ByteArray := prog_7_method_100_code
def yX5_clear : MethodName := ⟨RX5, "clear", "()I"⟩
abbrev cX5_lots : ByteArray := prog_7_method_101_code
def yX5_lots : MethodName := ⟨RX5, "lots", "(III)I"⟩
abbrev cX5_count : ByteArray := prog_7_method_102_code
def yX5_count : MethodName := ⟨RX5, "count", "(I)I"⟩
def RJ11 : String := "java/lang/Character"
abbrev cJ11_isValidCodePoint_9a6ad : ByteArray := prog_8_method_11_code
def yJ11_isValidCodePoint_9a6ad : MethodName := ⟨RJ11, "isValidCodePoint", "(I)Z"⟩
abbrev cJ11_highSurrogate_5068e : ByteArray := prog_8_method_28_code
def yJ11_highSurrogate_5068e : MethodName := ⟨RJ11, "highSurrogate", "(I)C"⟩
abbrev cJ11_lowSurrogate_5068e : ByteArray := prog_8_method_29_code
def yJ11_lowSurrogate_5068e : MethodName := ⟨RJ11, "lowSurrogate", "(I)C"⟩
def RJ9 : String := "java/lang/Math"
abbrev cJ9_abs_0f7a4 : ByteArray := prog_9_method_59_code
def yJ9_abs_0f7a4 : MethodName := ⟨RJ9, "abs", "(I)I"⟩
abbrev cJ9_max_7cf53 : ByteArray := prog_9_method_65_code
def yJ9_max_7cf53 : MethodName := ⟨RJ9, "max", "(II)I"⟩
abbrev cJ9_min_7cf53 : ByteArray := prog_9_method_69_code
def yJ9_min_7cf53 : MethodName := ⟨RJ9, "min", "(II)I"⟩
def RJ0 : String := "java/lang/String"
abbrev cJ0_length_8abf5 : ByteArray := prog_10_method_54_code
def yJ0_length_8abf5 : MethodName := ⟨RJ0, "length", "()I"⟩
abbrev cJ0_charAt_5068e : ByteArray := prog_10_method_56_code
def yJ0_charAt_5068e : MethodName := ⟨RJ0, "charAt", "(I)C"⟩
abbrev cJ0_indexOf_0f7a4 : ByteArray := prog_10_method_79_code
def yJ0_indexOf_0f7a4 : MethodName := ⟨RJ0, "indexOf", "(I)I"⟩
abbrev cJ0_indexOf_7cf53 : ByteArray := prog_10_method_80_code
def yJ0_indexOf_7cf53 : MethodName := ⟨RJ0, "indexOf", "(II)I"⟩
abbrev cJ0_coder_7d493 : ByteArray := prog_10_method_152_code
def yJ0_coder_7d493 : MethodName := ⟨RJ0, "coder", "()B"⟩
abbrev cJ0_isLatin1_aae02 : ByteArray := prog_10_method_154_code
def yJ0_isLatin1_aae02 : MethodName := ⟨RJ0, "isLatin1", "()Z"⟩
abbrev cJ0_checkIndex_df160 : ByteArray := prog_10_method_155_code
def yJ0_checkIndex_df160 : MethodName := ⟨RJ0, "checkIndex", "(II)V"⟩
abbrev cJ0_checkBoundsBeginEnd_23922 : ByteArray := prog_10_method_158_code
def yJ0_checkBoundsBeginEnd_23922 : MethodName := ⟨RJ0, "checkBoundsBeginEnd", "(III)V"⟩
def RJ1 : String := "java/lang/StringLatin1"
abbrev cJ1_charAt_3b067 : ByteArray := prog_11_method_2_code
def yJ1_charAt_3b067 : MethodName := ⟨RJ1, "charAt", "([BI)C"⟩
abbrev cJ1_canEncode_9a6ad : ByteArray := prog_11_method_4_code
def yJ1_canEncode_9a6ad : MethodName := ⟨RJ1, "canEncode", "(I)Z"⟩
abbrev cJ1_indexOf_4cfef : ByteArray := prog_11_method_22_code
def yJ1_indexOf_4cfef : MethodName := ⟨RJ1, "indexOf", "([BIII)I"⟩
abbrev cJ1_indexOfChar_4cfef : ByteArray := prog_11_method_23_code
def yJ1_indexOfChar_4cfef : MethodName := ⟨RJ1, "indexOfChar", "([BIII)I"⟩
def RJ2 : String := "java/lang/StringUTF16"
abbrev cJ2_getChar_3b067 : ByteArray := prog_12_method_5_code
def yJ2_getChar_3b067 : MethodName := ⟨RJ2, "getChar", "([BI)C"⟩
abbrev cJ2_length_9d52b : ByteArray := prog_12_method_6_code
def yJ2_length_9d52b : MethodName := ⟨RJ2, "length", "([B)I"⟩
abbrev cJ2_indexOf_4cfef : ByteArray := prog_12_method_40_code
def yJ2_indexOf_4cfef : MethodName := ⟨RJ2, "indexOf", "([BIII)I"⟩
abbrev cJ2_indexOfChar_4cfef : ByteArray := prog_12_method_47_code
def yJ2_indexOfChar_4cfef : MethodName := ⟨RJ2, "indexOfChar", "([BIII)I"⟩
abbrev cJ2_indexOfCharUnsafe_4cfef : ByteArray := prog_12_method_48_code
def yJ2_indexOfCharUnsafe_4cfef : MethodName := ⟨RJ2, "indexOfCharUnsafe", "([BIII)I"⟩
abbrev cJ2_indexOfSupplementary_4cfef : ByteArray := prog_12_method_49_code
def yJ2_indexOfSupplementary_4cfef : MethodName := ⟨RJ2, "indexOfSupplementary", "([BIII)I"⟩
abbrev cJ2_charAt_3b067 : ByteArray := prog_12_method_83_code
def yJ2_charAt_3b067 : MethodName := ⟨RJ2, "charAt", "([BI)C"⟩
abbrev cJ2_checkIndex_2214a : ByteArray := prog_12_method_91_code
def yJ2_checkIndex_2214a : MethodName := ⟨RJ2, "checkIndex", "(I[B)V"⟩
abbrev cJ2_checkBoundsBeginEnd_d044e : ByteArray := prog_12_method_93_code
def yJ2_checkBoundsBeginEnd_d044e : MethodName := ⟨RJ2, "checkBoundsBeginEnd", "(II[B)V"⟩
def RJ10 : String := "java/lang/System"
def RJ3 : String := "jdk/internal/util/Preconditions"
abbrev cJ3_checkIndex_8e157 : ByteArray := prog_14_method_11_code
def yJ3_checkIndex_8e157 : MethodName := ⟨RJ3, "checkIndex", "(IILjava/util/function/BiFunction;)I"⟩
abbrev cJ3_checkFromToIndex_8c36e : ByteArray := prog_14_method_12_code
def yJ3_checkFromToIndex_8c36e : MethodName := ⟨RJ3, "checkFromToIndex", "(IIILjava/util/function/BiFunction;)I"⟩
def RL : String := "PostByEnemyLaw"
abbrev cL_law : ByteArray := code
def yL_law : MethodName := ⟨RL, "law", "([I)Z"⟩
def wsL_law_r1 : List Cond := [Cond.classLink RL 7 RX4, Cond.instantiable RX4 7, Cond.initialized RX4, Cond.classLink RL 10 RX5, Cond.instantiable RX5 28, Cond.initialized RX5, Cond.methodLink RL 9 yX4_init, Cond.instanceMethod yX4_init, Cond.code yX4_init cX4_init 1 none, Cond.methodLink RX4 1 objectInit, Cond.instanceMethod objectInit, Cond.code objectInit ⟨#[0xb1]⟩ 1 none, Cond.classLink RX4 7 RX0, Cond.instantiable RX0 13, Cond.initialized RX0, Cond.fieldLink RX4 10 "PostByEnemy" "now" "LPostByEnemy$Duchy;", Cond.fieldLink RX4 16 "PostByEnemy" "taken" "LPostByEnemy$Duchy;", Cond.fieldLink RX4 19 "PostByEnemy" "isTaken" "Z", Cond.classLink RX4 23 RX3, Cond.instantiable RX3 4, Cond.initialized RX3, Cond.fieldLink RX4 26 "PostByEnemy" "thought" "LPostByEnemy$Thought;", Cond.classLink RX4 30 RX2, Cond.instantiable RX2 2]
def wsL_law_r2 : List Cond := [Cond.initialized RX2, Cond.fieldLink RX4 33 "PostByEnemy" "text" "LPostByEnemy$Text;", Cond.classLink RX4 37 RX1, Cond.instantiable RX1 2, Cond.initialized RX1, Cond.fieldLink RX4 40 "PostByEnemy" "told" "LPostByEnemy$Row;", Cond.arrayClass .int, Cond.fieldLink RX4 44 "PostByEnemy" "refused" "[I", Cond.instanceMethod yX0_init, Cond.code yX0_init cX0_init 1 none, Cond.methodLink RX0 3 objectInit, Cond.fieldLink RX0 9 "PostByEnemy$Duchy" "people" "I", Cond.fieldLink RX0 15 "PostByEnemy$Duchy" "parcels" "I", Cond.fieldLink RX0 18 "PostByEnemy$Duchy" "date" "I", Cond.fieldLink RX0 21 "PostByEnemy$Duchy" "kinds" "[I", Cond.fieldLink RX0 25 "PostByEnemy$Duchy" "figures" "[I", Cond.fieldLink RX0 28 "PostByEnemy$Duchy" "places" "[I", Cond.fieldLink RX0 31 "PostByEnemy$Duchy" "gots" "[I", Cond.fieldLink RX0 34 "PostByEnemy$Duchy" "feelings" "[I", Cond.fieldLink RX0 37 "PostByEnemy$Duchy" "receivers" "[I", Cond.fieldLink RX0 40 "PostByEnemy$Duchy" "worths" "[I", Cond.fieldLink RX0 43 "PostByEnemy$Duchy" "states" "[I", Cond.fieldLink RX0 46 "PostByEnemy$Duchy" "carriers" "[I", Cond.fieldLink RX0 49 "PostByEnemy$Duchy" "lefts" "[I"]
def wsL_law_r3 : List Cond := [Cond.instanceMethod yX3_init, Cond.code yX3_init cX3_init 1 none, Cond.methodLink RX3 3 objectInit, Cond.classLink RX3 9 RX0, Cond.fieldLink RX3 12 "PostByEnemy$Thought" "mind" "LPostByEnemy$Duchy;", Cond.fieldLink RX3 18 "PostByEnemy$Thought" "later" "LPostByEnemy$Duchy;", Cond.fieldLink RX3 21 "PostByEnemy$Thought" "firstGot" "[I", Cond.fieldLink RX3 25 "PostByEnemy$Thought" "otherGot" "[I", Cond.instanceMethod yX2_init, Cond.code yX2_init cX2_init 1 none, Cond.methodLink RX2 3 objectInit, Cond.fieldLink RX2 9 "PostByEnemy$Text" "size" "I", Cond.fieldLink RX2 15 "PostByEnemy$Text" "letters" "[I", Cond.instanceMethod yX1_init, Cond.code yX1_init cX1_init 1 none, Cond.methodLink RX1 3 objectInit, Cond.fieldLink RX1 9 "PostByEnemy$Row" "size" "I", Cond.fieldLink RX1 15 "PostByEnemy$Row" "numbers" "[I", Cond.methodLink RL 12 yX5_init, Cond.instanceMethod yX5_init, Cond.code yX5_init cX5_init 1 none, Cond.methodLink RX5 1 objectInit, Cond.fieldLink RX5 7 "PostByEnemyModel" "refused" "[I", Cond.fieldLink RX5 13 "PostByEnemyModel" "kind" "[I"]
def wsL_law_r4 : List Cond := [Cond.fieldLink RX5 16 "PostByEnemyModel" "figure" "[I", Cond.fieldLink RX5 19 "PostByEnemyModel" "place" "[I", Cond.fieldLink RX5 22 "PostByEnemyModel" "got" "[I", Cond.fieldLink RX5 25 "PostByEnemyModel" "hate" "[I", Cond.fieldLink RX5 28 "PostByEnemyModel" "to" "[I", Cond.fieldLink RX5 31 "PostByEnemyModel" "worth" "[I", Cond.fieldLink RX5 34 "PostByEnemyModel" "state" "[I", Cond.fieldLink RX5 37 "PostByEnemyModel" "left" "[I", Cond.fieldLink RX5 40 "PostByEnemyModel" "by" "[I", Cond.fieldLink RX5 43 "PostByEnemyModel" "tape" "[I", Cond.fieldLink RX5 46 "PostByEnemyModel" "letter" "[I", Cond.fieldLink RX5 49 "PostByEnemyModel" "letterAt" "[I", Cond.fieldLink RX5 52 "PostByEnemyModel" "told" "[I", Cond.fieldLink RX5 55 "PostByEnemyModel" "kept" "[I", Cond.fieldLink RX5 58 "PostByEnemyModel" "broughtBy" "[I", Cond.fieldLink RX5 61 "PostByEnemyModel" "row" "[I", Cond.fieldLink RX5 64 "PostByEnemyModel" "people" "I", Cond.methodLink RL 13 yX4_letter, Cond.instanceMethod yX4_letter, Cond.selects RX4 yX4_letter yX4_letter, Cond.code yX4_letter cX4_letter 2 (some .int), Cond.methodLink RX4 48 yX4_refuse, Cond.instanceMethod yX4_refuse, Cond.selects RX4 yX4_refuse yX4_refuse]
def wsL_law_r5 : List Cond := [Cond.code yX4_refuse cX4_refuse 2 (some .int), Cond.methodLink RX4 56 yX2_add, Cond.instanceMethod yX2_add, Cond.selects RX2 yX2_add yX2_add, Cond.code yX2_add cX2_add 2 none, Cond.methodLink RL 17 yX5_letter, Cond.instanceMethod yX5_letter, Cond.selects RX5 yX5_letter yX5_letter, Cond.code yX5_letter cX5_letter 3 (some .int), Cond.fieldLink RX5 81 "PostByEnemyModel" "taped" "I", Cond.methodLink RX5 77 yX5_bound, Cond.static yX5_bound, Cond.code yX5_bound cX5_bound 3 (some .int), Cond.methodLink RX5 84 yX5_no, Cond.instanceMethod yX5_no, Cond.selects RX5 yX5_no yX5_no, Cond.code yX5_no cX5_no 2 (some .int), Cond.methodLink RL 18 yX4_duchy, Cond.instanceMethod yX4_duchy, Cond.selects RX4 yX4_duchy yX4_duchy, Cond.code yX4_duchy cX4_duchy 6 (some .int), Cond.methodLink RX4 75 Lib.Math.max.name, Cond.static Lib.Math.max.name, Cond.initialized "java/lang/Math"]
def wsL_law_r6 : List Cond := [Cond.code Lib.Math.max.name Lib.Math.max.code 2 (some .int), Cond.methodLink RX4 60 yX2_firstMisfit, Cond.instanceMethod yX2_firstMisfit, Cond.selects RX2 yX2_firstMisfit yX2_firstMisfit, Cond.code yX2_firstMisfit cX2_firstMisfit 4 (some .int), Cond.methodLink RX2 60 Lib.Math.max.name, Cond.methodLink RX2 41 yX2_letterAt, Cond.instanceMethod yX2_letterAt, Cond.selects RX2 yX2_letterAt yX2_letterAt, Cond.code yX2_letterAt cX2_letterAt 2 (some .int), Cond.methodLink RX2 44 yX2_formOf, Cond.static yX2_formOf, Cond.code yX2_formOf cX2_formOf 1 (some (.object "java/lang/String")), Cond.methodLink RX2 48 yJ0_length_8abf5, Cond.instanceMethod yJ0_length_8abf5, Cond.selects RJ0 yJ0_length_8abf5 yJ0_length_8abf5, Cond.initialized RJ0, Cond.code yJ0_length_8abf5 cJ0_length_8abf5 1 (some .int), Cond.fieldLink RJ0 9 "java/lang/String" "value" "[B", Cond.methodLink RJ0 335 yJ0_coder_7d493, Cond.instanceMethod yJ0_coder_7d493, Cond.selects RJ0 yJ0_coder_7d493 yJ0_coder_7d493, Cond.code yJ0_coder_7d493 cJ0_coder_7d493 1 (some .byte), Cond.fieldLink RJ0 38 "java/lang/String" "COMPACT_STRINGS" "Z"]
def wsL_law_r7 : List Cond := [Cond.fieldLink RJ0 15 "java/lang/String" "coder" "B", Cond.methodLink RX2 52 yJ0_charAt_5068e, Cond.instanceMethod yJ0_charAt_5068e, Cond.selects RJ0 yJ0_charAt_5068e yJ0_charAt_5068e, Cond.code yJ0_charAt_5068e cJ0_charAt_5068e 2 (some .char), Cond.methodLink RJ0 492 yJ0_isLatin1_aae02, Cond.instanceMethod yJ0_isLatin1_aae02, Cond.selects RJ0 yJ0_isLatin1_aae02 yJ0_isLatin1_aae02, Cond.code yJ0_isLatin1_aae02 cJ0_isLatin1_aae02 1 (some .boolean), Cond.methodLink RJ0 495 yJ1_charAt_3b067, Cond.static yJ1_charAt_3b067, Cond.initialized RJ1, Cond.code yJ1_charAt_3b067 cJ1_charAt_3b067 2 (some .char), Cond.methodLink RJ1 9 yJ0_checkIndex_df160, Cond.static yJ0_checkIndex_df160, Cond.code yJ0_checkIndex_df160 cJ0_checkIndex_df160 2 none, Cond.fieldLink RJ0 1053 "jdk/internal/util/Preconditions" "SIOOBE_FORMATTER" "Ljava/util/function/BiFunction;", Cond.methodLink RJ0 1059 yJ3_checkIndex_8e157, Cond.static yJ3_checkIndex_8e157, Cond.initialized RJ3, Cond.code yJ3_checkIndex_8e157 cJ3_checkIndex_8e157 3 (some .int), Cond.methodLink RJ0 498 yJ2_charAt_3b067, Cond.static yJ2_charAt_3b067, Cond.initialized RJ2]
def wsL_law_r8 : List Cond := [Cond.code yJ2_charAt_3b067 cJ2_charAt_3b067 2 (some .char), Cond.methodLink RJ2 67 yJ2_checkIndex_2214a, Cond.static yJ2_checkIndex_2214a, Cond.code yJ2_checkIndex_2214a cJ2_checkIndex_2214a 2 none, Cond.methodLink RJ2 48 yJ2_length_9d52b, Cond.static yJ2_length_9d52b, Cond.code yJ2_length_9d52b cJ2_length_9d52b 1 (some .int), Cond.methodLink RJ2 414 yJ0_checkIndex_df160, Cond.methodLink RJ2 71 yJ2_getChar_3b067, Cond.static yJ2_getChar_3b067, Cond.code yJ2_getChar_3b067 cJ2_getChar_3b067 2 (some .char), Cond.fieldLink RJ2 44 "java/lang/StringUTF16" "$assertionsDisabled" "Z", Cond.fieldLink RJ2 59 "java/lang/StringUTF16" "HI_BYTE_SHIFT" "I", Cond.fieldLink RJ2 63 "java/lang/StringUTF16" "LO_BYTE_SHIFT" "I", Cond.methodLink RX2 56 yX2_fits, Cond.static yX2_fits, Cond.code yX2_fits cX2_fits 2 (some .boolean), Cond.methodLink RX2 35 yJ0_indexOf_0f7a4, Cond.instanceMethod yJ0_indexOf_0f7a4, Cond.selects RJ0 yJ0_indexOf_0f7a4 yJ0_indexOf_0f7a4, Cond.code yJ0_indexOf_0f7a4 cJ0_indexOf_0f7a4 2 (some .int), Cond.methodLink RJ0 633 yJ0_indexOf_7cf53, Cond.instanceMethod yJ0_indexOf_7cf53, Cond.selects RJ0 yJ0_indexOf_7cf53 yJ0_indexOf_7cf53]
def wsL_law_r9 : List Cond := [Cond.code yJ0_indexOf_7cf53 cJ0_indexOf_7cf53 3 (some .int), Cond.methodLink RJ0 505 yJ0_length_8abf5, Cond.methodLink RJ0 637 yJ1_indexOf_4cfef, Cond.static yJ1_indexOf_4cfef, Cond.code yJ1_indexOf_4cfef cJ1_indexOf_4cfef 4 (some .int), Cond.methodLink RJ1 92 Lib.Math.max.name, Cond.methodLink RJ1 38 Lib.Math.min.name, Cond.static Lib.Math.min.name, Cond.code Lib.Math.min.name Lib.Math.min.code 2 (some .int), Cond.methodLink RJ1 88 yJ1_canEncode_9a6ad, Cond.static yJ1_canEncode_9a6ad, Cond.code yJ1_canEncode_9a6ad cJ1_canEncode_9a6ad 1 (some .boolean), Cond.methodLink RJ1 95 yJ1_indexOfChar_4cfef, Cond.static yJ1_indexOfChar_4cfef, Cond.code yJ1_indexOfChar_4cfef cJ1_indexOfChar_4cfef 6 (some .int), Cond.methodLink RJ0 640 yJ2_indexOf_4cfef, Cond.static yJ2_indexOf_4cfef, Cond.code yJ2_indexOf_4cfef cJ2_indexOf_4cfef 4 (some .int), Cond.methodLink RJ2 224 Lib.Math.max.name, Cond.methodLink RJ2 183 Lib.Math.min.name, Cond.constant RJ2 227 (65536), Cond.methodLink RJ2 228 yJ2_indexOfChar_4cfef, Cond.static yJ2_indexOfChar_4cfef, Cond.code yJ2_indexOfChar_4cfef cJ2_indexOfChar_4cfef 4 (some .int)]
def wsL_law_r10 : List Cond := [Cond.methodLink RJ2 96 yJ2_checkBoundsBeginEnd_d044e, Cond.static yJ2_checkBoundsBeginEnd_d044e, Cond.code yJ2_checkBoundsBeginEnd_d044e cJ2_checkBoundsBeginEnd_d044e 3 none, Cond.methodLink RJ2 241 yJ0_checkBoundsBeginEnd_23922, Cond.static yJ0_checkBoundsBeginEnd_23922, Cond.code yJ0_checkBoundsBeginEnd_23922 cJ0_checkBoundsBeginEnd_23922 3 none, Cond.methodLink RJ0 1062 yJ3_checkFromToIndex_8c36e, Cond.static yJ3_checkFromToIndex_8c36e, Cond.code yJ3_checkFromToIndex_8c36e cJ3_checkFromToIndex_8c36e 4 (some .int), Cond.methodLink RJ2 244 yJ2_indexOfCharUnsafe_4cfef, Cond.static yJ2_indexOfCharUnsafe_4cfef, Cond.code yJ2_indexOfCharUnsafe_4cfef cJ2_indexOfCharUnsafe_4cfef 5 (some .int), Cond.methodLink RJ2 232 yJ2_indexOfSupplementary_4cfef, Cond.static yJ2_indexOfSupplementary_4cfef, Cond.code yJ2_indexOfSupplementary_4cfef cJ2_indexOfSupplementary_4cfef 7 (some .int), Cond.methodLink RJ2 164 yJ11_isValidCodePoint_9a6ad, Cond.static yJ11_isValidCodePoint_9a6ad, Cond.initialized RJ11, Cond.code yJ11_isValidCodePoint_9a6ad cJ11_isValidCodePoint_9a6ad 2 (some .boolean), Cond.methodLink RJ2 157 yJ11_highSurrogate_5068e, Cond.static yJ11_highSurrogate_5068e, Cond.code yJ11_highSurrogate_5068e cJ11_highSurrogate_5068e 1 (some .char), Cond.constant RJ11 110 (55232), Cond.methodLink RJ2 161 yJ11_lowSurrogate_5068e]
def wsL_law_r11 : List Cond := [Cond.static yJ11_lowSurrogate_5068e, Cond.code yJ11_lowSurrogate_5068e cJ11_lowSurrogate_5068e 1 (some .char), Cond.constant RJ11 76 (56320), Cond.methodLink RX4 64 yX3_behind, Cond.instanceMethod yX3_behind, Cond.selects RX3 yX3_behind yX3_behind, Cond.code yX3_behind cX3_behind 3 (some (.object "PostByEnemy$Duchy")), Cond.methodLink RX3 28 yX0_become, Cond.instanceMethod yX0_become, Cond.selects RX0 yX0_become yX0_become, Cond.code yX0_become cX0_become 2 none, Cond.methodLink RX0 52 arraycopyName, Cond.native arraycopyName, Cond.static arraycopyName, Cond.initialized "java/lang/System", Cond.methodLink RX3 32 yX0_passDays, Cond.instanceMethod yX0_passDays, Cond.selects RX0 yX0_passDays yX0_passDays, Cond.code yX0_passDays cX0_passDays 3 none, Cond.methodLink RX0 101 yX0_passDay, Cond.instanceMethod yX0_passDay, Cond.selects RX0 yX0_passDay yX0_passDay, Cond.code yX0_passDay cX0_passDay 2 none, Cond.methodLink RX0 105 yX0_carryOn]
def wsL_law_r12 : List Cond := [Cond.instanceMethod yX0_carryOn, Cond.selects RX0 yX0_carryOn yX0_carryOn, Cond.code yX0_carryOn cX0_carryOn 3 none, Cond.methodLink RX0 76 Lib.Math.min.name, Cond.methodLink RX0 58 yX0_hasPerson, Cond.instanceMethod yX0_hasPerson, Cond.selects RX0 yX0_hasPerson yX0_hasPerson, Cond.code yX0_hasPerson cX0_hasPerson 2 (some .boolean), Cond.methodLink RX0 114 yX0_addHate, Cond.instanceMethod yX0_addHate, Cond.selects RX0 yX0_addHate yX0_addHate, Cond.code yX0_addHate cX0_addHate 5 (some .boolean), Cond.methodLink RX0 82 Lib.Math.max.name, Cond.methodLink RX0 72 yX0_hasPair, Cond.instanceMethod yX0_hasPair, Cond.selects RX0 yX0_hasPair yX0_hasPair, Cond.code yX0_hasPair cX0_hasPair 3 (some .boolean), Cond.methodLink RX0 108 yX0_giveOut, Cond.instanceMethod yX0_giveOut, Cond.selects RX0 yX0_giveOut yX0_giveOut, Cond.code yX0_giveOut cX0_giveOut 3 none, Cond.methodLink RX0 98 yX0_enemyOf, Cond.instanceMethod yX0_enemyOf, Cond.selects RX0 yX0_enemyOf yX0_enemyOf]
def wsL_law_r13 : List Cond := [Cond.code yX0_enemyOf cX0_enemyOf 7 (some .int), Cond.methodLink RX0 95 yX0_maliceOf, Cond.instanceMethod yX0_maliceOf, Cond.selects RX0 yX0_maliceOf yX0_maliceOf, Cond.code yX0_maliceOf cX0_maliceOf 7 (some .int), Cond.methodLink RX0 66 yX0_carries, Cond.instanceMethod yX0_carries, Cond.selects RX0 yX0_carries yX0_carries, Cond.code yX0_carries cX0_carries 3 (some .boolean), Cond.methodLink RX0 117 yX0_apart, Cond.instanceMethod yX0_apart, Cond.selects RX0 yX0_apart yX0_apart, Cond.code yX0_apart cX0_apart 3 (some .int), Cond.methodLink RX0 92 Lib.Math.abs.name, Cond.static Lib.Math.abs.name, Cond.code Lib.Math.abs.name Lib.Math.abs.code 1 (some .int), Cond.methodLink RX0 62 yX0_milesOf, Cond.static yX0_milesOf, Cond.code yX0_milesOf cX0_milesOf 1 (some .int), Cond.methodLink RX0 120 yX0_daysOnRoad, Cond.static yX0_daysOnRoad, Cond.code yX0_daysOnRoad cX0_daysOnRoad 2 (some .int), Cond.methodLink RX0 111 yX0_coolDown, Cond.instanceMethod yX0_coolDown]
def wsL_law_r14 : List Cond := [Cond.selects RX0 yX0_coolDown yX0_coolDown, Cond.code yX0_coolDown cX0_coolDown 2 none, Cond.methodLink RX4 68 yX2_tell, Cond.instanceMethod yX2_tell, Cond.selects RX2 yX2_tell yX2_tell, Cond.code yX2_tell cX2_tell 5 (some .boolean), Cond.methodLink RX2 66 yX2_digitAt, Cond.instanceMethod yX2_digitAt, Cond.selects RX2 yX2_digitAt yX2_digitAt, Cond.code yX2_digitAt cX2_digitAt 2 (some .int), Cond.methodLink RX2 69 yX2_numberAt, Cond.instanceMethod yX2_numberAt, Cond.selects RX2 yX2_numberAt yX2_numberAt, Cond.code yX2_numberAt cX2_numberAt 2 (some .int), Cond.methodLink RX2 72 yX0_addPerson, Cond.instanceMethod yX0_addPerson, Cond.selects RX0 yX0_addPerson yX0_addPerson, Cond.code yX0_addPerson cX0_addPerson 4 (some .boolean), Cond.methodLink RX2 78 yX0_setHate, Cond.instanceMethod yX0_setHate, Cond.selects RX0 yX0_setHate yX0_setHate, Cond.code yX0_setHate cX0_setHate 4 (some .boolean), Cond.methodLink RX2 81 yX0_addParcel, Cond.instanceMethod yX0_addParcel]
def wsL_law_r15 : List Cond := [Cond.selects RX0 yX0_addParcel yX0_addParcel, Cond.code yX0_addParcel cX0_addParcel 3 (some .boolean), Cond.methodLink RX2 85 yX0_addHate, Cond.methodLink RX2 88 yX0_makePeace, Cond.instanceMethod yX0_makePeace, Cond.selects RX0 yX0_makePeace yX0_makePeace, Cond.code yX0_makePeace cX0_makePeace 3 (some .boolean), Cond.methodLink RX0 85 yX0_hateOf, Cond.instanceMethod yX0_hateOf, Cond.selects RX0 yX0_hateOf yX0_hateOf, Cond.code yX0_hateOf cX0_hateOf 3 (some .int), Cond.methodLink RX0 88 yX0_setHate, Cond.methodLink RX2 91 yX2_letDaysPass, Cond.static yX2_letDaysPass, Cond.code yX2_letDaysPass cX2_letDaysPass 2 (some .boolean), Cond.methodLink RX2 98 yX0_passDays, Cond.methodLink RX4 72 yX2_lengthAt, Cond.instanceMethod yX2_lengthAt, Cond.selects RX2 yX2_lengthAt yX2_lengthAt, Cond.code yX2_lengthAt cX2_lengthAt 2 (some .int), Cond.methodLink RX4 81 yX0_become, Cond.methodLink RL 22 yX5_duchy, Cond.instanceMethod yX5_duchy, Cond.selects RX5 yX5_duchy yX5_duchy]
def wsL_law_r16 : List Cond := [Cond.code yX5_duchy cX5_duchy 3 (some .int), Cond.fieldLink RX5 88 "PostByEnemyModel" "at" "I", Cond.fieldLink RX5 109 "PostByEnemyModel" "statements" "I", Cond.methodLink RX5 153 yX5_statement, Cond.instanceMethod yX5_statement, Cond.selects RX5 yX5_statement yX5_statement, Cond.code yX5_statement cX5_statement 2 (some .boolean), Cond.methodLink RX5 91 yX5_next, Cond.instanceMethod yX5_next, Cond.selects RX5 yX5_next yX5_next, Cond.code yX5_next cX5_next 1 (some .int), Cond.methodLink RX5 112 yX5_readsAll, Cond.instanceMethod yX5_readsAll, Cond.selects RX5 yX5_readsAll yX5_readsAll, Cond.code yX5_readsAll cX5_readsAll 3 (some .boolean), Cond.methodLink RX5 106 yX5_readsOne, Cond.instanceMethod yX5_readsOne, Cond.selects RX5 yX5_readsOne yX5_readsOne, Cond.code yX5_readsOne cX5_readsOne 2 (some .boolean), Cond.methodLink RX5 99 yX5_kindOf, Cond.static yX5_kindOf, Cond.code yX5_kindOf cX5_kindOf 1 (some .int), Cond.methodLink RX5 102 yX5_readsDigits, Cond.instanceMethod yX5_readsDigits]
def wsL_law_r17 : List Cond := [Cond.selects RX5 yX5_readsDigits yX5_readsDigits, Cond.code yX5_readsDigits cX5_readsDigits 5 (some .boolean), Cond.methodLink RX5 95 yX5_isIn, Cond.static yX5_isIn, Cond.code yX5_isIn cX5_isIn 3 (some .boolean), Cond.methodLink RX5 157 yX5_passesAll, Cond.instanceMethod yX5_passesAll, Cond.selects RX5 yX5_passesAll yX5_passesAll, Cond.code yX5_passesAll cX5_passesAll 3 none, Cond.fieldLink RX5 168 "PostByEnemyModel" "cursor" "I", Cond.fieldLink RX5 164 "PostByEnemyModel" "isKeeping" "Z", Cond.fieldLink RX5 74 "PostByEnemyModel" "parcels" "I", Cond.fieldLink RX5 133 "PostByEnemyModel" "day" "I", Cond.methodLink RX5 171 yX5_passes, Cond.instanceMethod yX5_passes, Cond.selects RX5 yX5_passes yX5_passes, Cond.code yX5_passes cX5_passes 3 none, Cond.methodLink RX5 175 yX5_passOne, Cond.instanceMethod yX5_passOne, Cond.selects RX5 yX5_passOne yX5_passOne, Cond.code yX5_passOne cX5_passOne 3 (some .int), Cond.methodLink RX5 161 yX5_comes, Cond.instanceMethod yX5_comes, Cond.selects RX5 yX5_comes yX5_comes]
def wsL_law_r18 : List Cond := [Cond.code yX5_comes cX5_comes 3 (some .boolean), Cond.methodLink RX5 140 yX5_comesOne, Cond.instanceMethod yX5_comesOne, Cond.selects RX5 yX5_comesOne yX5_comesOne, Cond.code yX5_comesOne cX5_comesOne 5 (some .boolean), Cond.methodLink RX5 115 yX5_spot, Cond.static yX5_spot, Cond.code yX5_spot cX5_spot 2 (some .int), Cond.methodLink RX5 143 yX5_comesParcel, Cond.instanceMethod yX5_comesParcel, Cond.selects RX5 yX5_comesParcel yX5_comesParcel, Cond.code yX5_comesParcel cX5_comesParcel 3 (some .boolean), Cond.methodLink RX5 70 yX5_isOne, Cond.instanceMethod yX5_isOne, Cond.selects RX5 yX5_isOne yX5_isOne, Cond.code yX5_isOne cX5_isOne 2 (some .boolean), Cond.methodLink RX5 119 yX5_adds, Cond.instanceMethod yX5_adds, Cond.selects RX5 yX5_adds yX5_adds, Cond.code yX5_adds cX5_adds 3 none, Cond.methodLink RX5 146 yX5_comesDays, Cond.instanceMethod yX5_comesDays, Cond.selects RX5 yX5_comesDays yX5_comesDays, Cond.code yX5_comesDays cX5_comesDays 2 (some .boolean)]
def wsL_law_r19 : List Cond := [Cond.methodLink RX5 136 yX5_goes, Cond.instanceMethod yX5_goes, Cond.selects RX5 yX5_goes yX5_goes, Cond.code yX5_goes cX5_goes 3 none, Cond.methodLink RX5 208 yX5_goesDay, Cond.instanceMethod yX5_goesDay, Cond.selects RX5 yX5_goesDay yX5_goesDay, Cond.code yX5_goesDay cX5_goesDay 3 none, Cond.methodLink RX5 202 yX5_comesNearer, Cond.instanceMethod yX5_comesNearer, Cond.selects RX5 yX5_comesNearer yX5_comesNearer, Cond.code yX5_comesNearer cX5_comesNearer 2 none, Cond.methodLink RX5 181 yX5_held, Cond.static yX5_held, Cond.code yX5_held cX5_held 3 (some .int), Cond.methodLink RX5 205 yX5_isTaken, Cond.instanceMethod yX5_isTaken, Cond.selects RX5 yX5_isTaken yX5_isTaken, Cond.code yX5_isTaken cX5_isTaken 3 none, Cond.methodLink RX5 193 yX5_enemyOf, Cond.instanceMethod yX5_enemyOf, Cond.selects RX5 yX5_enemyOf yX5_enemyOf, Cond.code yX5_enemyOf cX5_enemyOf 2 (some .int), Cond.methodLink RX5 190 yX5_enemyBut]
def wsL_law_r20 : List Cond := [Cond.instanceMethod yX5_enemyBut, Cond.selects RX5 yX5_enemyBut yX5_enemyBut, Cond.code yX5_enemyBut cX5_enemyBut 5 (some .int), Cond.methodLink RX5 187 yX5_maliceOf, Cond.instanceMethod yX5_maliceOf, Cond.selects RX5 yX5_maliceOf yX5_maliceOf, Cond.code yX5_maliceOf cX5_maliceOf 5 (some .int), Cond.methodLink RX5 184 yX5_apart, Cond.static yX5_apart, Cond.code yX5_apart cX5_apart 2 (some .int), Cond.methodLink RX5 196 yX5_isCarrying, Cond.instanceMethod yX5_isCarrying, Cond.selects RX5 yX5_isCarrying yX5_isCarrying, Cond.code yX5_isCarrying cX5_isCarrying 3 (some .boolean), Cond.methodLink RX5 199 yX5_milesOf, Cond.instanceMethod yX5_milesOf, Cond.selects RX5 yX5_milesOf yX5_milesOf, Cond.code yX5_milesOf cX5_milesOf 2 (some .int), Cond.methodLink RX5 149 yX5_comesTwo, Cond.instanceMethod yX5_comesTwo, Cond.selects RX5 yX5_comesTwo yX5_comesTwo, Cond.code yX5_comesTwo cX5_comesTwo 5 (some .boolean), Cond.methodLink RX5 123 yX5_areTwo, Cond.instanceMethod yX5_areTwo]
def wsL_law_r21 : List Cond := [Cond.selects RX5 yX5_areTwo yX5_areTwo, Cond.code yX5_areTwo cX5_areTwo 3 (some .boolean), Cond.methodLink RX5 126 yX5_slighted, Cond.instanceMethod yX5_slighted, Cond.selects RX5 yX5_slighted yX5_slighted, Cond.code yX5_slighted cX5_slighted 4 none, Cond.methodLink RX5 130 yX5_madeUp, Cond.instanceMethod yX5_madeUp, Cond.selects RX5 yX5_madeUp yX5_madeUp, Cond.code yX5_madeUp cX5_madeUp 3 none, Cond.methodLink RL 23 yX4_person, Cond.instanceMethod yX4_person, Cond.selects RX4 yX4_person yX4_person, Cond.code yX4_person cX4_person 3 (some .int), Cond.methodLink RX4 85 yX0_hasPerson, Cond.methodLink RX4 89 yX0_ofPerson, Cond.instanceMethod yX0_ofPerson, Cond.selects RX0 yX0_ofPerson yX0_ofPerson, Cond.code yX0_ofPerson cX0_ofPerson 3 (some .int), Cond.methodLink RL 27 yX5_person, Cond.instanceMethod yX5_person, Cond.selects RX5 yX5_person yX5_person, Cond.code yX5_person cX5_person 3 (some .int), Cond.methodLink RL 28 yX4_parcel]
def wsL_law_r22 : List Cond := [Cond.instanceMethod yX4_parcel, Cond.selects RX4 yX4_parcel yX4_parcel, Cond.code yX4_parcel cX4_parcel 3 (some .int), Cond.methodLink RX4 92 yX0_hasParcel, Cond.instanceMethod yX0_hasParcel, Cond.selects RX0 yX0_hasParcel yX0_hasParcel, Cond.code yX0_hasParcel cX0_hasParcel 2 (some .boolean), Cond.methodLink RX4 95 yX0_ofParcel, Cond.instanceMethod yX0_ofParcel, Cond.selects RX0 yX0_ofParcel yX0_ofParcel, Cond.code yX0_ofParcel cX0_ofParcel 3 (some .int), Cond.methodLink RX0 69 yX0_hasParcel, Cond.methodLink RL 31 yX5_parcel, Cond.instanceMethod yX5_parcel, Cond.selects RX5 yX5_parcel yX5_parcel, Cond.code yX5_parcel cX5_parcel 3 (some .int), Cond.methodLink RX5 212 yX5_isParcel, Cond.instanceMethod yX5_isParcel, Cond.selects RX5 yX5_isParcel yX5_isParcel, Cond.code yX5_isParcel cX5_isParcel 2 (some .boolean), Cond.methodLink RL 32 yX4_hate, Cond.instanceMethod yX4_hate, Cond.selects RX4 yX4_hate yX4_hate, Cond.code yX4_hate cX4_hate 3 (some .int)]
def wsL_law_r23 : List Cond := [Cond.methodLink RX4 98 yX0_hasPair, Cond.methodLink RX4 102 yX0_hateOf, Cond.methodLink RL 35 yX5_hate, Cond.instanceMethod yX5_hate, Cond.selects RX5 yX5_hate yX5_hate, Cond.code yX5_hate cX5_hate 3 (some .int), Cond.methodLink RL 36 yX4_posts, Cond.instanceMethod yX4_posts, Cond.selects RX4 yX4_posts yX4_posts, Cond.code yX4_posts cX4_posts 3 (some .int), Cond.methodLink RX4 108 yX0_addParcel, Cond.methodLink RL 39 yX5_posts, Cond.instanceMethod yX5_posts, Cond.selects RX5 yX5_posts yX5_posts, Cond.code yX5_posts cX5_posts 4 (some .int), Cond.methodLink RL 40 yX4_hates, Cond.instanceMethod yX4_hates, Cond.selects RX4 yX4_hates yX4_hates, Cond.code yX4_hates cX4_hates 5 (some .int), Cond.methodLink RX4 111 yX0_setHate, Cond.methodLink RL 44 yX5_hates, Cond.instanceMethod yX5_hates, Cond.selects RX5 yX5_hates yX5_hates, Cond.code yX5_hates cX5_hates 6 (some .int)]
def wsL_law_r24 : List Cond := [Cond.methodLink RL 45 yX4_slights, Cond.instanceMethod yX4_slights, Cond.selects RX4 yX4_slights yX4_slights, Cond.code yX4_slights cX4_slights 3 (some .int), Cond.methodLink RX4 115 yX0_addHate, Cond.methodLink RL 48 yX5_slights, Cond.instanceMethod yX5_slights, Cond.selects RX5 yX5_slights yX5_slights, Cond.code yX5_slights cX5_slights 3 (some .int), Cond.methodLink RL 49 yX4_peace, Cond.instanceMethod yX4_peace, Cond.selects RX4 yX4_peace yX4_peace, Cond.code yX4_peace cX4_peace 3 (some .int), Cond.methodLink RX4 118 yX0_makePeace, Cond.methodLink RL 52 yX5_peace, Cond.instanceMethod yX5_peace, Cond.selects RX5 yX5_peace yX5_peace, Cond.code yX5_peace cX5_peace 3 (some .int), Cond.methodLink RL 53 yX4_moves, Cond.instanceMethod yX4_moves, Cond.selects RX4 yX4_moves yX4_moves, Cond.code yX4_moves cX4_moves 4 (some .int), Cond.methodLink RL 56 yX5_moves, Cond.instanceMethod yX5_moves]
def wsL_law_r25 : List Cond := [Cond.selects RX5 yX5_moves yX5_moves, Cond.code yX5_moves cX5_moves 5 (some .int), Cond.methodLink RL 57 yX4_turn, Cond.instanceMethod yX4_turn, Cond.selects RX4 yX4_turn yX4_turn, Cond.code yX4_turn cX4_turn 5 (some .int), Cond.methodLink RL 60 yX5_turn, Cond.instanceMethod yX5_turn, Cond.selects RX5 yX5_turn yX5_turn, Cond.code yX5_turn cX5_turn 6 (some .int), Cond.methodLink RL 61 yX4_days, Cond.instanceMethod yX4_days, Cond.selects RX4 yX4_days yX4_days, Cond.code yX4_days cX4_days 2 (some .int), Cond.methodLink RX4 133 yX0_passDays, Cond.methodLink RX4 136 yX0_brought, Cond.instanceMethod yX0_brought, Cond.selects RX0 yX0_brought yX0_brought, Cond.code yX0_brought cX0_brought 3 (some .int), Cond.methodLink RL 64 yX5_days, Cond.instanceMethod yX5_days, Cond.selects RX5 yX5_days yX5_days, Cond.code yX5_days cX5_days 3 (some .int), Cond.methodLink RX5 215 yX5_thoseIn]
def wsL_law_r26 : List Cond := [Cond.instanceMethod yX5_thoseIn, Cond.selects RX5 yX5_thoseIn yX5_thoseIn, Cond.code yX5_thoseIn cX5_thoseIn 4 (some .int), Cond.methodLink RX5 218 yX5_bits, Cond.static yX5_bits, Cond.code yX5_bits cX5_bits 3 (some .int), Cond.methodLink RL 65 yX4_parcelThen, Cond.instanceMethod yX4_parcelThen, Cond.selects RX4 yX4_parcelThen yX4_parcelThen, Cond.code yX4_parcelThen cX4_parcelThen 5 (some .int), Cond.methodLink RX4 139 yX0_stateOf, Cond.instanceMethod yX0_stateOf, Cond.selects RX0 yX0_stateOf yX0_stateOf, Cond.code yX0_stateOf cX0_stateOf 2 (some .int), Cond.methodLink RX4 142 yX0_carrierOf, Cond.instanceMethod yX0_carrierOf, Cond.selects RX0 yX0_carrierOf yX0_carrierOf, Cond.code yX0_carrierOf cX0_carrierOf 2 (some .int), Cond.methodLink RL 68 yX5_parcelThen, Cond.instanceMethod yX5_parcelThen, Cond.selects RX5 yX5_parcelThen yX5_parcelThen, Cond.code yX5_parcelThen cX5_parcelThen 6 (some .int), Cond.methodLink RX5 221 yX5_notDays, Cond.static yX5_notDays]
def wsL_law_r27 : List Cond := [Cond.code yX5_notDays cX5_notDays 1 (some .int), Cond.methodLink RX5 224 yX5_thinks, Cond.instanceMethod yX5_thinks, Cond.selects RX5 yX5_thinks yX5_thinks, Cond.code yX5_thinks cX5_thinks 1 none, Cond.methodLink RX5 227 yX5_forgets, Cond.instanceMethod yX5_forgets, Cond.selects RX5 yX5_forgets yX5_forgets, Cond.code yX5_forgets cX5_forgets 1 none, Cond.methodLink RL 69 yX4_hateThen, Cond.instanceMethod yX4_hateThen, Cond.selects RX4 yX4_hateThen yX4_hateThen, Cond.code yX4_hateThen cX4_hateThen 4 (some .int), Cond.methodLink RL 72 yX5_hateThen, Cond.instanceMethod yX5_hateThen, Cond.selects RX5 yX5_hateThen yX5_hateThen, Cond.code yX5_hateThen cX5_hateThen 6 (some .int), Cond.methodLink RL 73 yX4_gotThen, Cond.instanceMethod yX4_gotThen, Cond.selects RX4 yX4_gotThen yX4_gotThen, Cond.code yX4_gotThen cX4_gotThen 4 (some .int), Cond.methodLink RL 76 yX5_gotThen, Cond.instanceMethod yX5_gotThen, Cond.selects RX5 yX5_gotThen yX5_gotThen]
def wsL_law_r28 : List Cond := [Cond.code yX5_gotThen cX5_gotThen 5 (some .int), Cond.methodLink RL 77 yX4_when, Cond.instanceMethod yX4_when, Cond.selects RX4 yX4_when yX4_when, Cond.code yX4_when cX4_when 2 (some .int), Cond.methodLink RX4 148 yX4_daysTillBrought, Cond.static yX4_daysTillBrought, Cond.code yX4_daysTillBrought cX4_daysTillBrought 4 (some .int), Cond.methodLink RX4 241 yX0_passDay, Cond.methodLink RX4 152 yX4_dayOrNone, Cond.static yX4_dayOrNone, Cond.code yX4_dayOrNone cX4_dayOrNone 1 (some .int), Cond.methodLink RL 80 yX5_when, Cond.instanceMethod yX5_when, Cond.selects RX5 yX5_when yX5_when, Cond.code yX5_when cX5_when 2 (some .int), Cond.methodLink RX5 230 yX5_whenOf, Cond.instanceMethod yX5_whenOf, Cond.selects RX5 yX5_whenOf yX5_whenOf, Cond.code yX5_whenOf cX5_whenOf 4 (some .int), Cond.methodLink RL 81 yX4_first, Cond.instanceMethod yX4_first, Cond.selects RX4 yX4_first yX4_first, Cond.code yX4_first cX4_first 3 (some .int)]
def wsL_law_r29 : List Cond := [Cond.methodLink RX4 155 yX3_daysTillAll, Cond.instanceMethod yX3_daysTillAll, Cond.selects RX3 yX3_daysTillAll yX3_daysTillAll, Cond.code yX3_daysTillAll cX3_daysTillAll 3 (some .int), Cond.methodLink RX3 48 yX0_brought, Cond.methodLink RX3 36 yX0_passDay, Cond.methodLink RX4 159 yX3_firstBrought, Cond.instanceMethod yX3_firstBrought, Cond.selects RX3 yX3_firstBrought yX3_firstBrought, Cond.code yX3_firstBrought cX3_firstBrought 4 (some .int), Cond.methodLink RX3 44 yX0_stateOf, Cond.methodLink RL 84 yX5_first, Cond.instanceMethod yX5_first, Cond.selects RX5 yX5_first yX5_first, Cond.code yX5_first cX5_first 7 (some .int), Cond.methodLink RX5 233 yX5_lateOf, Cond.instanceMethod yX5_lateOf, Cond.selects RX5 yX5_lateOf yX5_lateOf, Cond.code yX5_lateOf cX5_lateOf 3 (some .int), Cond.methodLink RL 85 yX4_enemy, Cond.instanceMethod yX4_enemy, Cond.selects RX4 yX4_enemy yX4_enemy, Cond.code yX4_enemy cX4_enemy 4 (some .int), Cond.methodLink RX4 162 yX0_enemyOf]
def wsL_law_r30 : List Cond := [Cond.methodLink RL 88 yX5_enemy, Cond.instanceMethod yX5_enemy, Cond.selects RX5 yX5_enemy yX5_enemy, Cond.code yX5_enemy cX5_enemy 5 (some .int), Cond.methodLink RL 89 yX4_malice, Cond.instanceMethod yX4_malice, Cond.selects RX4 yX4_malice yX4_malice, Cond.code yX4_malice cX4_malice 3 (some .int), Cond.methodLink RX4 165 yX0_maliceOf, Cond.methodLink RL 92 yX5_malice, Cond.instanceMethod yX5_malice, Cond.selects RX5 yX5_malice yX5_malice, Cond.code yX5_malice cX5_malice 3 (some .int), Cond.methodLink RL 93 yX4_loved, Cond.instanceMethod yX4_loved, Cond.selects RX4 yX4_loved yX4_loved, Cond.code yX4_loved cX4_loved 3 (some .int), Cond.methodLink RL 96 yX5_loved, Cond.instanceMethod yX5_loved, Cond.selects RX5 yX5_loved yX5_loved, Cond.code yX5_loved cX5_loved 3 (some .int), Cond.methodLink RL 97 yX4_busiest, Cond.instanceMethod yX4_busiest, Cond.selects RX4 yX4_busiest yX4_busiest]
def wsL_law_r31 : List Cond := [Cond.code yX4_busiest cX4_busiest 6 (some .int), Cond.methodLink RX4 171 yX0_enemyOfHowMany, Cond.instanceMethod yX0_enemyOfHowMany, Cond.selects RX0 yX0_enemyOfHowMany yX0_enemyOfHowMany, Cond.code yX0_enemyOfHowMany cX0_enemyOfHowMany 4 (some .int), Cond.methodLink RL 100 yX5_busiest, Cond.instanceMethod yX5_busiest, Cond.selects RX5 yX5_busiest yX5_busiest, Cond.code yX5_busiest cX5_busiest 5 (some .int), Cond.methodLink RX5 236 yX5_enemyOfMany, Cond.instanceMethod yX5_enemyOfMany, Cond.selects RX5 yX5_enemyOfMany yX5_enemyOfMany, Cond.code yX5_enemyOfMany cX5_enemyOfMany 4 (some .int), Cond.methodLink RL 101 yX4_ring, Cond.instanceMethod yX4_ring, Cond.selects RX4 yX4_ring yX4_ring, Cond.code yX4_ring cX4_ring 7 (some .int), Cond.methodLink RL 104 yX5_ring, Cond.instanceMethod yX5_ring, Cond.selects RX5 yX5_ring yX5_ring, Cond.code yX5_ring cX5_ring 6 (some .int), Cond.methodLink RX5 239 yX5_has, Cond.static yX5_has, Cond.code yX5_has cX5_has 2 (some .boolean)]
def wsL_law_r32 : List Cond := [Cond.methodLink RL 105 yX4_slight, Cond.instanceMethod yX4_slight, Cond.selects RX4 yX4_slight yX4_slight, Cond.code yX4_slight cX4_slight 3 (some .int), Cond.methodLink RX4 174 yX4_notWaiting, Cond.instanceMethod yX4_notWaiting, Cond.selects RX4 yX4_notWaiting yX4_notWaiting, Cond.code yX4_notWaiting cX4_notWaiting 2 (some .int), Cond.methodLink RX4 177 yX3_bestSlight, Cond.instanceMethod yX3_bestSlight, Cond.selects RX3 yX3_bestSlight yX3_bestSlight, Cond.code yX3_bestSlight cX3_bestSlight 8 (some .int), Cond.methodLink RX3 52 yX0_receiverOf, Cond.instanceMethod yX0_receiverOf, Cond.selects RX0 yX0_receiverOf yX0_receiverOf, Cond.code yX0_receiverOf cX0_receiverOf 2 (some .int), Cond.methodLink RX3 62 yX0_addHate, Cond.methodLink RL 108 yX5_slight, Cond.instanceMethod yX5_slight, Cond.selects RX5 yX5_slight yX5_slight, Cond.code yX5_slight cX5_slight 7 (some .int), Cond.methodLink RX5 242 yX5_lateSlighting, Cond.instanceMethod yX5_lateSlighting, Cond.selects RX5 yX5_lateSlighting yX5_lateSlighting]
def wsL_law_r33 : List Cond := [Cond.code yX5_lateSlighting cX5_lateSlighting 5 (some .int), Cond.methodLink RL 109 yX4_cost, Cond.instanceMethod yX4_cost, Cond.selects RX4 yX4_cost yX4_cost, Cond.code yX4_cost cX4_cost 4 (some .int), Cond.methodLink RX4 181 yX3_isEnough, Cond.instanceMethod yX3_isEnough, Cond.selects RX3 yX3_isEnough yX3_isEnough, Cond.code yX3_isEnough cX3_isEnough 7 (some .boolean), Cond.methodLink RX3 70 yX3_slightAll, Cond.instanceMethod yX3_slightAll, Cond.selects RX3 yX3_slightAll yX3_slightAll, Cond.code yX3_slightAll cX3_slightAll 9 (some .boolean), Cond.methodLink RX3 73 Lib.Math.max.name, Cond.methodLink RL 112 yX5_cost, Cond.instanceMethod yX5_cost, Cond.selects RX5 yX5_cost yX5_cost, Cond.code yX5_cost cX5_cost 7 (some .int), Cond.methodLink RX5 251 yX5_slightsOf, Cond.instanceMethod yX5_slightsOf, Cond.selects RX5 yX5_slightsOf yX5_slightsOf, Cond.code yX5_slightsOf cX5_slightsOf 6 (some .int), Cond.methodLink RX5 254 yX5_bringsIn, Cond.instanceMethod yX5_bringsIn]
def wsL_law_r34 : List Cond := [Cond.selects RX5 yX5_bringsIn yX5_bringsIn, Cond.code yX5_bringsIn cX5_bringsIn 6 (some .boolean), Cond.methodLink RX5 245 yX5_changes, Cond.instanceMethod yX5_changes, Cond.selects RX5 yX5_changes yX5_changes, Cond.code yX5_changes cX5_changes 1 none, Cond.methodLink RX5 248 yX5_changesBack, Cond.instanceMethod yX5_changesBack, Cond.selects RX5 yX5_changesBack yX5_changesBack, Cond.code yX5_changesBack cX5_changesBack 1 none, Cond.methodLink RL 113 yX4_makeUp, Cond.instanceMethod yX4_makeUp, Cond.selects RX4 yX4_makeUp yX4_makeUp, Cond.code yX4_makeUp cX4_makeUp 3 (some .int), Cond.methodLink RX4 185 yX3_worstPeace, Cond.instanceMethod yX3_worstPeace, Cond.selects RX3 yX3_worstPeace yX3_worstPeace, Cond.code yX3_worstPeace cX3_worstPeace 8 (some .int), Cond.methodLink RX3 66 yX0_makePeace, Cond.methodLink RL 116 yX5_makeUp, Cond.instanceMethod yX5_makeUp, Cond.selects RX5 yX5_makeUp yX5_makeUp, Cond.code yX5_makeUp cX5_makeUp 7 (some .int), Cond.methodLink RX5 257 yX5_latePeace]
def wsL_law_r35 : List Cond := [Cond.instanceMethod yX5_latePeace, Cond.selects RX5 yX5_latePeace yX5_latePeace, Cond.code yX5_latePeace cX5_latePeace 4 (some .int), Cond.methodLink RL 117 yX4_post, Cond.instanceMethod yX4_post, Cond.selects RX4 yX4_post yX4_post, Cond.code yX4_post cX4_post 3 (some .int), Cond.methodLink RX4 188 yX3_bestPosting, Cond.instanceMethod yX3_bestPosting, Cond.selects RX3 yX3_bestPosting yX3_bestPosting, Cond.code yX3_bestPosting cX3_bestPosting 8 (some .int), Cond.methodLink RX3 79 yX0_addParcel, Cond.methodLink RL 120 yX5_post, Cond.instanceMethod yX5_post, Cond.selects RX5 yX5_post yX5_post, Cond.code yX5_post cX5_post 8 (some .int), Cond.methodLink RX5 260 yX5_latePosted, Cond.instanceMethod yX5_latePosted, Cond.selects RX5 yX5_latePosted yX5_latePosted, Cond.code yX5_latePosted cX5_latePosted 4 (some .int), Cond.methodLink RL 121 yX4_road, Cond.instanceMethod yX4_road, Cond.selects RX4 yX4_road yX4_road, Cond.code yX4_road cX4_road 3 (some .int)]
def wsL_law_r36 : List Cond := [Cond.methodLink RX4 192 yX0_apart, Cond.methodLink RL 124 yX5_road, Cond.instanceMethod yX5_road, Cond.selects RX5 yX5_road yX5_road, Cond.code yX5_road cX5_road 3 (some .int), Cond.methodLink RL 125 yX4_farthest, Cond.instanceMethod yX4_farthest, Cond.selects RX4 yX4_farthest yX4_farthest, Cond.code yX4_farthest cX4_farthest 6 (some .int), Cond.methodLink RL 128 yX5_farthest, Cond.instanceMethod yX5_farthest, Cond.selects RX5 yX5_farthest yX5_farthest, Cond.code yX5_farthest cX5_farthest 5 (some .int), Cond.methodLink RL 129 yX4_fair, Cond.instanceMethod yX4_fair, Cond.selects RX4 yX4_fair yX4_fair, Cond.code yX4_fair cX4_fair 6 (some .int), Cond.methodLink RX4 195 yX0_mutualEnemies, Cond.instanceMethod yX0_mutualEnemies, Cond.selects RX0 yX0_mutualEnemies yX0_mutualEnemies, Cond.code yX0_mutualEnemies cX0_mutualEnemies 4 (some .int), Cond.methodLink RX4 198 yX0_maliceOfAll, Cond.instanceMethod yX0_maliceOfAll, Cond.selects RX0 yX0_maliceOfAll yX0_maliceOfAll]
def wsL_law_r37 : List Cond := [Cond.code yX0_maliceOfAll cX0_maliceOfAll 4 (some .int), Cond.methodLink RL 132 yX5_fair, Cond.instanceMethod yX5_fair, Cond.selects RX5 yX5_fair yX5_fair, Cond.code yX5_fair cX5_fair 5 (some .int), Cond.methodLink RX5 263 yX5_pairs, Cond.instanceMethod yX5_pairs, Cond.selects RX5 yX5_pairs yX5_pairs, Cond.code yX5_pairs cX5_pairs 4 (some .int), Cond.methodLink RX5 266 yX5_maliceFor, Cond.instanceMethod yX5_maliceFor, Cond.selects RX5 yX5_maliceFor yX5_maliceFor, Cond.code yX5_maliceFor cX5_maliceFor 4 (some .int), Cond.methodLink RL 133 yX4_two, Cond.instanceMethod yX4_two, Cond.selects RX4 yX4_two yX4_two, Cond.code yX4_two cX4_two 4 (some .int), Cond.methodLink RX4 201 yX3_court, Cond.instanceMethod yX3_court, Cond.selects RX3 yX3_court yX3_court, Cond.code yX3_court cX3_court 6 (some .int), Cond.methodLink RX3 85 yX3_broughtTo, Cond.instanceMethod yX3_broughtTo, Cond.selects RX3 yX3_broughtTo yX3_broughtTo]
def wsL_law_r38 : List Cond := [Cond.code yX3_broughtTo cX3_broughtTo 4 (some .int), Cond.methodLink RL 136 yX5_two, Cond.instanceMethod yX5_two, Cond.selects RX5 yX5_two yX5_two, Cond.code yX5_two cX5_two 6 (some .int), Cond.methodLink RX5 272 yX5_findBrought, Cond.instanceMethod yX5_findBrought, Cond.selects RX5 yX5_findBrought yX5_findBrought, Cond.code yX5_findBrought cX5_findBrought 5 none, Cond.methodLink RX5 269 yX5_broughtTo, Cond.instanceMethod yX5_broughtTo, Cond.selects RX5 yX5_broughtTo yX5_broughtTo, Cond.code yX5_broughtTo cX5_broughtTo 4 (some .int), Cond.methodLink RL 137 yX4_snow, Cond.instanceMethod yX4_snow, Cond.selects RX4 yX4_snow yX4_snow, Cond.code yX4_snow cX4_snow 8 (some .long), Cond.methodLink RX4 205 yX4_refuseLong, Cond.instanceMethod yX4_refuseLong, Cond.selects RX4 yX4_refuseLong yX4_refuseLong, Cond.code yX4_refuseLong cX4_refuseLong 2 (some .long), Cond.constantLong RX4 239 (4000000000000000000), Cond.methodLink RX4 209 yX3_broughtOfAll, Cond.instanceMethod yX3_broughtOfAll]
def wsL_law_r39 : List Cond := [Cond.selects RX3 yX3_broughtOfAll yX3_broughtOfAll, Cond.code yX3_broughtOfAll cX3_broughtOfAll 12 (some .long), Cond.methodLink RX4 213 yX4_partOf, Cond.static yX4_partOf, Cond.code yX4_partOf cX4_partOf 7 (some .long), Cond.methodLink RX4 245 yX4_greatestDivisor, Cond.static yX4_greatestDivisor, Cond.code yX4_greatestDivisor cX4_greatestDivisor 11 (some .long), Cond.methodLink RL 141 yX5_snow, Cond.instanceMethod yX5_snow, Cond.selects RX5 yX5_snow yX5_snow, Cond.code yX5_snow cX5_snow 14 (some .long), Cond.methodLink RX5 279 yX5_lowestOf, Cond.instanceMethod yX5_lowestOf, Cond.selects RX5 yX5_lowestOf yX5_lowestOf, Cond.code yX5_lowestOf cX5_lowestOf 2 (some .long), Cond.constantLong RX5 68 (4000000000000000000), Cond.methodLink RX5 283 yX5_partOf, Cond.static yX5_partOf, Cond.code yX5_partOf cX5_partOf 5 (some .long), Cond.methodLink RX5 275 yX5_divisor, Cond.static yX5_divisor, Cond.code yX5_divisor cX5_divisor 10 (some .long), Cond.methodLink RL 142 yX4_mean]
def wsL_law_r40 : List Cond := [Cond.instanceMethod yX4_mean, Cond.selects RX4 yX4_mean yX4_mean, Cond.code yX4_mean cX4_mean 2 (some .long), Cond.methodLink RX4 217 yX0_hatesTogether, Cond.instanceMethod yX0_hatesTogether, Cond.selects RX0 yX0_hatesTogether yX0_hatesTogether, Cond.code yX0_hatesTogether cX0_hatesTogether 3 (some .int), Cond.methodLink RL 146 yX5_mean, Cond.instanceMethod yX5_mean, Cond.selects RX5 yX5_mean yX5_mean, Cond.code yX5_mean cX5_mean 2 (some .long), Cond.methodLink RX5 287 yX5_allHate, Cond.instanceMethod yX5_allHate, Cond.selects RX5 yX5_allHate yX5_allHate, Cond.code yX5_allHate cX5_allHate 3 (some .int), Cond.methodLink RL 147 yX4_who, Cond.instanceMethod yX4_who, Cond.selects RX4 yX4_who yX4_who, Cond.code yX4_who cX4_who 4 (some .int), Cond.methodLink RX4 220 yX3_fitting, Cond.instanceMethod yX3_fitting, Cond.selects RX3 yX3_fitting yX3_fitting, Cond.code yX3_fitting cX3_fitting 9 (some .int), Cond.methodLink RX3 88 yX0_hasPerson]
def wsL_law_r41 : List Cond := [Cond.methodLink RX3 98 yX3_goesAsTold, Cond.instanceMethod yX3_goesAsTold, Cond.selects RX3 yX3_goesAsTold yX3_goesAsTold, Cond.code yX3_goesAsTold cX3_goesAsTold 4 (some .boolean), Cond.methodLink RX3 107 yX1_at, Cond.instanceMethod yX1_at, Cond.selects RX1 yX1_at yX1_at, Cond.code yX1_at cX1_at 2 (some .int), Cond.methodLink RX3 110 yX0_carrierOf, Cond.static yX4_asTold, Cond.code yX4_asTold cX4_asTold 1 (some .int), Cond.methodLink RL 150 yX5_who, Cond.instanceMethod yX5_who, Cond.selects RX5 yX5_who yX5_who, Cond.code yX5_who cX5_who 5 (some .int), Cond.methodLink RX5 296 yX5_bitsFor, Cond.instanceMethod yX5_bitsFor, Cond.selects RX5 yX5_bitsFor yX5_bitsFor, Cond.code yX5_bitsFor cX5_bitsFor 8 (some .int), Cond.methodLink RX5 293 yX5_isSo, Cond.instanceMethod yX5_isSo, Cond.selects RX5 yX5_isSo yX5_isSo, Cond.code yX5_isSo cX5_isSo 4 (some .boolean), Cond.fieldLink RX5 290 "PostByEnemyModel" "rowMany" "I"]
def wsL_law_r42 : List Cond := [Cond.methodLink RL 151 yX4_row, Cond.instanceMethod yX4_row, Cond.selects RX4 yX4_row yX4_row, Cond.code yX4_row cX4_row 2 (some .int), Cond.methodLink RX4 225 yX1_add, Cond.instanceMethod yX1_add, Cond.selects RX1 yX1_add yX1_add, Cond.code yX1_add cX1_add 2 none, Cond.methodLink RL 154 yX5_row, Cond.instanceMethod yX5_row, Cond.selects RX5 yX5_row yX5_row, Cond.code yX5_row cX5_row 3 (some .int), Cond.methodLink RL 155 yX4_judge, Cond.instanceMethod yX4_judge, Cond.selects RX4 yX4_judge yX4_judge, Cond.code yX4_judge cX4_judge 3 (some .int), Cond.methodLink RX4 226 yX1_at, Cond.methodLink RX4 229 yX4_asTold, Cond.methodLink RL 158 yX5_judge, Cond.instanceMethod yX5_judge, Cond.selects RX5 yX5_judge yX5_judge, Cond.code yX5_judge cX5_judge 3 (some .int), Cond.methodLink RL 159 yX4_clear, Cond.instanceMethod yX4_clear]
def wsL_law_r43 : List Cond := [Cond.selects RX4 yX4_clear yX4_clear, Cond.code yX4_clear cX4_clear 2 (some .int), Cond.methodLink RL 162 yX5_clear, Cond.instanceMethod yX5_clear, Cond.selects RX5 yX5_clear yX5_clear, Cond.code yX5_clear cX5_clear 2 (some .int), Cond.methodLink RL 163 yX4_lots, Cond.instanceMethod yX4_lots, Cond.selects RX4 yX4_lots yX4_lots, Cond.code yX4_lots cX4_lots 4 (some .int), Cond.methodLink RX4 232 yX3_ofDrawnDuchies, Cond.instanceMethod yX3_ofDrawnDuchies, Cond.selects RX3 yX3_ofDrawnDuchies yX3_ofDrawnDuchies, Cond.code yX3_ofDrawnDuchies cX3_ofDrawnDuchies 8 (some .int), Cond.methodLink RX3 116 yX3_drawHates, Cond.instanceMethod yX3_drawHates, Cond.selects RX3 yX3_drawHates yX3_drawHates, Cond.code yX3_drawHates cX3_drawHates 5 (some .int), Cond.constant RX3 122 (1664525), Cond.constant RX3 123 (1013904223), Cond.constant RX3 124 (2147483647), Cond.methodLink RX3 125 yX0_setHate, Cond.methodLink RX3 119 yX0_hatesTogether, Cond.methodLink RL 166 yX5_lots]
def wsL_law_r44 : List Cond := [Cond.instanceMethod yX5_lots, Cond.selects RX5 yX5_lots yX5_lots, Cond.code yX5_lots cX5_lots 9 (some .int), Cond.constant RX5 300 (1664525), Cond.constant RX5 301 (1013904223), Cond.constant RX5 302 (2147483647), Cond.methodLink RL 167 yX4_image, Cond.instanceMethod yX4_image, Cond.selects RX4 yX4_image yX4_image, Cond.code yX4_image cX4_image 1 (some .int), Cond.methodLink RL 170 yX5_image, Cond.instanceMethod yX5_image, Cond.selects RX5 yX5_image yX5_image, Cond.code yX5_image cX5_image 1 (some .int), Cond.fieldLink RX5 178 "PostByEnemyModel" "hasImage" "Z", Cond.methodLink RL 171 yX4_on, Cond.instanceMethod yX4_on, Cond.selects RX4 yX4_on yX4_on, Cond.code yX4_on cX4_on 1 (some .int), Cond.methodLink RL 174 yX5_on, Cond.instanceMethod yX5_on, Cond.selects RX5 yX5_on yX5_on, Cond.code yX5_on cX5_on 1 (some .int), Cond.methodLink RL 175 yX4_count]
def wsL_law_r45 : List Cond := [Cond.instanceMethod yX4_count, Cond.selects RX4 yX4_count yX4_count, Cond.code yX4_count cX4_count 2 (some .int), Cond.methodLink RX4 236 yX0_parcelsThat, Cond.instanceMethod yX0_parcelsThat, Cond.selects RX0 yX0_parcelsThat yX0_parcelsThat, Cond.code yX0_parcelsThat cX0_parcelsThat 4 (some .int), Cond.methodLink RL 178 yX5_count, Cond.instanceMethod yX5_count, Cond.selects RX5 yX5_count yX5_count, Cond.code yX5_count cX5_count 2 (some .int)]
def wsL_law : List Cond := (wsL_law_r1 ++ (wsL_law_r2 ++ (wsL_law_r3 ++ (wsL_law_r4 ++ (wsL_law_r5 ++ (wsL_law_r6 ++ (wsL_law_r7 ++ (wsL_law_r8 ++ (wsL_law_r9 ++ (wsL_law_r10 ++ (wsL_law_r11 ++ (wsL_law_r12 ++ (wsL_law_r13 ++ (wsL_law_r14 ++ (wsL_law_r15 ++ (wsL_law_r16 ++ (wsL_law_r17 ++ (wsL_law_r18 ++ (wsL_law_r19 ++ (wsL_law_r20 ++ (wsL_law_r21 ++ (wsL_law_r22 ++ (wsL_law_r23 ++ (wsL_law_r24 ++ (wsL_law_r25 ++ (wsL_law_r26 ++ (wsL_law_r27 ++ (wsL_law_r28 ++ (wsL_law_r29 ++ (wsL_law_r30 ++ (wsL_law_r31 ++ (wsL_law_r32 ++ (wsL_law_r33 ++ (wsL_law_r34 ++ (wsL_law_r35 ++ (wsL_law_r36 ++ (wsL_law_r37 ++ (wsL_law_r38 ++ (wsL_law_r39 ++ (wsL_law_r40 ++ (wsL_law_r41 ++ (wsL_law_r42 ++ (wsL_law_r43 ++ (wsL_law_r44 ++ wsL_law_r45)))))))))))))))))))))))))))))))))))))))))))) ++ wsX40 ++ wsX50 ++ wsX00 ++ wsX30 ++ wsX20 ++ wsX10 ++ ([] : List Cond)
