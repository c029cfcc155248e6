-- ===== PART A: goes FIRST, ahead of the names: the tables' words, and 'selects' of the private methods out of them =====
/-- a private method of a class that the tables say can be made, by its rows of tables_1 -/
def lw_okq (q : MethodName × Nat) : Prop := (q.1.cls ≠ "java/lang/invoke/MethodHandle" ∧ q.1.cls ≠ "java/lang/invoke/VarHandle") ∧ Cond.instantiable q.1.cls q.2 ∈ tables_1 ∧ Cond.privateMethod q.1 ∈ tables_1 ∧ Cond.instanceMethod q.1 ∈ tables_1
theorem lw_p0 : lw_okq (⟨"PostByEnemy", "refuse", "(I)I"⟩, 7) := ⟨⟨by decide +kernel, by decide +kernel⟩, List.mem_of_getElem? (i := 15) (by decide +kernel), List.mem_of_getElem? (i := 158) (by decide +kernel), List.mem_of_getElem? (i := 159) (by decide +kernel)⟩
theorem lw_p1 : lw_okq (⟨"PostByEnemy$Text", "letterAt", "(I)I"⟩, 2) := ⟨⟨by decide +kernel, by decide +kernel⟩, List.mem_of_getElem? (i := 103) (by decide +kernel), List.mem_of_getElem? (i := 174) (by decide +kernel), List.mem_of_getElem? (i := 175) (by decide +kernel)⟩
theorem lw_p2 : lw_okq (⟨"PostByEnemy$Duchy", "carryOn", "()V"⟩, 13) := ⟨⟨by decide +kernel, by decide +kernel⟩, List.mem_of_getElem? (i := 23) (by decide +kernel), List.mem_of_getElem? (i := 319) (by decide +kernel), List.mem_of_getElem? (i := 320) (by decide +kernel)⟩
theorem lw_p3 : lw_okq (⟨"PostByEnemy$Duchy", "giveOut", "()V"⟩, 13) := ⟨⟨by decide +kernel, by decide +kernel⟩, List.mem_of_getElem? (i := 23) (by decide +kernel), List.mem_of_getElem? (i := 337) (by decide +kernel), List.mem_of_getElem? (i := 338) (by decide +kernel)⟩
theorem lw_p4 : lw_okq (⟨"PostByEnemy$Duchy", "coolDown", "()V"⟩, 13) := ⟨⟨by decide +kernel, by decide +kernel⟩, List.mem_of_getElem? (i := 23) (by decide +kernel), List.mem_of_getElem? (i := 366) (by decide +kernel), List.mem_of_getElem? (i := 367) (by decide +kernel)⟩
theorem lw_p5 : lw_okq (⟨"PostByEnemy$Text", "digitAt", "(I)I"⟩, 2) := ⟨⟨by decide +kernel, by decide +kernel⟩, List.mem_of_getElem? (i := 103) (by decide +kernel), List.mem_of_getElem? (i := 374) (by decide +kernel), List.mem_of_getElem? (i := 375) (by decide +kernel)⟩
theorem lw_p6 : lw_okq (⟨"PostByEnemy$Text", "numberAt", "(I)I"⟩, 2) := ⟨⟨by decide +kernel, by decide +kernel⟩, List.mem_of_getElem? (i := 103) (by decide +kernel), List.mem_of_getElem? (i := 378) (by decide +kernel), List.mem_of_getElem? (i := 379) (by decide +kernel)⟩
theorem lw_p7 : lw_okq (⟨"PostByEnemy", "notWaiting", "(I)I"⟩, 7) := ⟨⟨by decide +kernel, by decide +kernel⟩, List.mem_of_getElem? (i := 15) (by decide +kernel), List.mem_of_getElem? (i := 556) (by decide +kernel), List.mem_of_getElem? (i := 557) (by decide +kernel)⟩
theorem lw_p8 : lw_okq (⟨"PostByEnemy$Thought", "slightAll", "(III)Z"⟩, 4) := ⟨⟨by decide +kernel, by decide +kernel⟩, List.mem_of_getElem? (i := 82) (by decide +kernel), List.mem_of_getElem? (i := 578) (by decide +kernel), List.mem_of_getElem? (i := 579) (by decide +kernel)⟩
theorem lw_p9 : lw_okq (⟨"PostByEnemy$Thought", "broughtTo", "(I)I"⟩, 4) := ⟨⟨by decide +kernel, by decide +kernel⟩, List.mem_of_getElem? (i := 82) (by decide +kernel), List.mem_of_getElem? (i := 631) (by decide +kernel), List.mem_of_getElem? (i := 632) (by decide +kernel)⟩
theorem lw_p10 : lw_okq (⟨"PostByEnemy", "refuseLong", "(I)J"⟩, 7) := ⟨⟨by decide +kernel, by decide +kernel⟩, List.mem_of_getElem? (i := 15) (by decide +kernel), List.mem_of_getElem? (i := 639) (by decide +kernel), List.mem_of_getElem? (i := 640) (by decide +kernel)⟩
theorem lw_p11 : lw_okq (⟨"PostByEnemy$Thought", "goesAsTold", "(ILPostByEnemy$Row;)Z"⟩, 4) := ⟨⟨by decide +kernel, by decide +kernel⟩, List.mem_of_getElem? (i := 82) (by decide +kernel), List.mem_of_getElem? (i := 671) (by decide +kernel), List.mem_of_getElem? (i := 672) (by decide +kernel)⟩
theorem lw_p12 : lw_okq (⟨"PostByEnemy$Thought", "drawHates", "(I)I"⟩, 4) := ⟨⟨by decide +kernel, by decide +kernel⟩, List.mem_of_getElem? (i := 82) (by decide +kernel), List.mem_of_getElem? (i := 709) (by decide +kernel), List.mem_of_getElem? (i := 710) (by decide +kernel)⟩
theorem lw_p13 : lw_okq (⟨"PostByEnemyModel", "no", "(I)I"⟩, 28) := ⟨⟨by decide +kernel, by decide +kernel⟩, List.mem_of_getElem? (i := 734) (by decide +kernel), List.mem_of_getElem? (i := 832) (by decide +kernel), List.mem_of_getElem? (i := 833) (by decide +kernel)⟩
theorem lw_p14 : lw_okq (⟨"PostByEnemyModel", "statement", "()Z"⟩, 28) := ⟨⟨by decide +kernel, by decide +kernel⟩, List.mem_of_getElem? (i := 734) (by decide +kernel), List.mem_of_getElem? (i := 840) (by decide +kernel), List.mem_of_getElem? (i := 841) (by decide +kernel)⟩
theorem lw_p15 : lw_okq (⟨"PostByEnemyModel", "next", "()I"⟩, 28) := ⟨⟨by decide +kernel, by decide +kernel⟩, List.mem_of_getElem? (i := 734) (by decide +kernel), List.mem_of_getElem? (i := 844) (by decide +kernel), List.mem_of_getElem? (i := 845) (by decide +kernel)⟩
def lw_privs_1 : List (MethodName × Nat) := [(⟨"PostByEnemy", "refuse", "(I)I"⟩, 7), (⟨"PostByEnemy$Text", "letterAt", "(I)I"⟩, 2), (⟨"PostByEnemy$Duchy", "carryOn", "()V"⟩, 13), (⟨"PostByEnemy$Duchy", "giveOut", "()V"⟩, 13), (⟨"PostByEnemy$Duchy", "coolDown", "()V"⟩, 13), (⟨"PostByEnemy$Text", "digitAt", "(I)I"⟩, 2), (⟨"PostByEnemy$Text", "numberAt", "(I)I"⟩, 2), (⟨"PostByEnemy", "notWaiting", "(I)I"⟩, 7), (⟨"PostByEnemy$Thought", "slightAll", "(III)Z"⟩, 4), (⟨"PostByEnemy$Thought", "broughtTo", "(I)I"⟩, 4), (⟨"PostByEnemy", "refuseLong", "(I)J"⟩, 7), (⟨"PostByEnemy$Thought", "goesAsTold", "(ILPostByEnemy$Row;)Z"⟩, 4), (⟨"PostByEnemy$Thought", "drawHates", "(I)I"⟩, 4), (⟨"PostByEnemyModel", "no", "(I)I"⟩, 28), (⟨"PostByEnemyModel", "statement", "()Z"⟩, 28), (⟨"PostByEnemyModel", "next", "()I"⟩, 28)]
theorem lw_r1 : ∀ q ∈ lw_privs_1, lw_okq q := List.forall_mem_cons.mpr ⟨lw_p0, List.forall_mem_cons.mpr ⟨lw_p1, List.forall_mem_cons.mpr ⟨lw_p2, List.forall_mem_cons.mpr ⟨lw_p3, List.forall_mem_cons.mpr ⟨lw_p4, List.forall_mem_cons.mpr ⟨lw_p5, List.forall_mem_cons.mpr ⟨lw_p6, List.forall_mem_cons.mpr ⟨lw_p7, List.forall_mem_cons.mpr ⟨lw_p8, List.forall_mem_cons.mpr ⟨lw_p9, List.forall_mem_cons.mpr ⟨lw_p10, List.forall_mem_cons.mpr ⟨lw_p11, List.forall_mem_cons.mpr ⟨lw_p12, List.forall_mem_cons.mpr ⟨lw_p13, List.forall_mem_cons.mpr ⟨lw_p14, List.forall_mem_cons.mpr ⟨lw_p15, fun _ h => absurd h List.not_mem_nil⟩⟩⟩⟩⟩⟩⟩⟩⟩⟩⟩⟩⟩⟩⟩⟩
theorem lw_p16 : lw_okq (⟨"PostByEnemyModel", "readsAll", "(II)Z"⟩, 28) := ⟨⟨by decide +kernel, by decide +kernel⟩, List.mem_of_getElem? (i := 734) (by decide +kernel), List.mem_of_getElem? (i := 848) (by decide +kernel), List.mem_of_getElem? (i := 849) (by decide +kernel)⟩
theorem lw_p17 : lw_okq (⟨"PostByEnemyModel", "readsOne", "(I)Z"⟩, 28) := ⟨⟨by decide +kernel, by decide +kernel⟩, List.mem_of_getElem? (i := 734) (by decide +kernel), List.mem_of_getElem? (i := 852) (by decide +kernel), List.mem_of_getElem? (i := 853) (by decide +kernel)⟩
theorem lw_p18 : lw_okq (⟨"PostByEnemyModel", "readsDigits", "(II)Z"⟩, 28) := ⟨⟨by decide +kernel, by decide +kernel⟩, List.mem_of_getElem? (i := 734) (by decide +kernel), List.mem_of_getElem? (i := 859) (by decide +kernel), List.mem_of_getElem? (i := 860) (by decide +kernel)⟩
theorem lw_p19 : lw_okq (⟨"PostByEnemyModel", "passesAll", "(IZ)V"⟩, 28) := ⟨⟨by decide +kernel, by decide +kernel⟩, List.mem_of_getElem? (i := 734) (by decide +kernel), List.mem_of_getElem? (i := 866) (by decide +kernel), List.mem_of_getElem? (i := 867) (by decide +kernel)⟩
theorem lw_p20 : lw_okq (⟨"PostByEnemyModel", "passes", "([I)V"⟩, 28) := ⟨⟨by decide +kernel, by decide +kernel⟩, List.mem_of_getElem? (i := 734) (by decide +kernel), List.mem_of_getElem? (i := 870) (by decide +kernel), List.mem_of_getElem? (i := 871) (by decide +kernel)⟩
theorem lw_p21 : lw_okq (⟨"PostByEnemyModel", "passOne", "(I)I"⟩, 28) := ⟨⟨by decide +kernel, by decide +kernel⟩, List.mem_of_getElem? (i := 734) (by decide +kernel), List.mem_of_getElem? (i := 874) (by decide +kernel), List.mem_of_getElem? (i := 875) (by decide +kernel)⟩
theorem lw_p22 : lw_okq (⟨"PostByEnemyModel", "comes", "(I)Z"⟩, 28) := ⟨⟨by decide +kernel, by decide +kernel⟩, List.mem_of_getElem? (i := 734) (by decide +kernel), List.mem_of_getElem? (i := 878) (by decide +kernel), List.mem_of_getElem? (i := 879) (by decide +kernel)⟩
theorem lw_p23 : lw_okq (⟨"PostByEnemyModel", "comesOne", "(III)Z"⟩, 28) := ⟨⟨by decide +kernel, by decide +kernel⟩, List.mem_of_getElem? (i := 734) (by decide +kernel), List.mem_of_getElem? (i := 882) (by decide +kernel), List.mem_of_getElem? (i := 883) (by decide +kernel)⟩
theorem lw_p24 : lw_okq (⟨"PostByEnemyModel", "comesParcel", "(II)Z"⟩, 28) := ⟨⟨by decide +kernel, by decide +kernel⟩, List.mem_of_getElem? (i := 734) (by decide +kernel), List.mem_of_getElem? (i := 889) (by decide +kernel), List.mem_of_getElem? (i := 890) (by decide +kernel)⟩
theorem lw_p25 : lw_okq (⟨"PostByEnemyModel", "isOne", "(I)Z"⟩, 28) := ⟨⟨by decide +kernel, by decide +kernel⟩, List.mem_of_getElem? (i := 734) (by decide +kernel), List.mem_of_getElem? (i := 893) (by decide +kernel), List.mem_of_getElem? (i := 894) (by decide +kernel)⟩
theorem lw_p26 : lw_okq (⟨"PostByEnemyModel", "adds", "(II)V"⟩, 28) := ⟨⟨by decide +kernel, by decide +kernel⟩, List.mem_of_getElem? (i := 734) (by decide +kernel), List.mem_of_getElem? (i := 897) (by decide +kernel), List.mem_of_getElem? (i := 898) (by decide +kernel)⟩
theorem lw_p27 : lw_okq (⟨"PostByEnemyModel", "comesDays", "(I)Z"⟩, 28) := ⟨⟨by decide +kernel, by decide +kernel⟩, List.mem_of_getElem? (i := 734) (by decide +kernel), List.mem_of_getElem? (i := 901) (by decide +kernel), List.mem_of_getElem? (i := 902) (by decide +kernel)⟩
theorem lw_p28 : lw_okq (⟨"PostByEnemyModel", "goes", "(I)V"⟩, 28) := ⟨⟨by decide +kernel, by decide +kernel⟩, List.mem_of_getElem? (i := 734) (by decide +kernel), List.mem_of_getElem? (i := 905) (by decide +kernel), List.mem_of_getElem? (i := 906) (by decide +kernel)⟩
theorem lw_p29 : lw_okq (⟨"PostByEnemyModel", "goesDay", "(Z)V"⟩, 28) := ⟨⟨by decide +kernel, by decide +kernel⟩, List.mem_of_getElem? (i := 734) (by decide +kernel), List.mem_of_getElem? (i := 909) (by decide +kernel), List.mem_of_getElem? (i := 910) (by decide +kernel)⟩
theorem lw_p30 : lw_okq (⟨"PostByEnemyModel", "comesNearer", "(I)V"⟩, 28) := ⟨⟨by decide +kernel, by decide +kernel⟩, List.mem_of_getElem? (i := 734) (by decide +kernel), List.mem_of_getElem? (i := 913) (by decide +kernel), List.mem_of_getElem? (i := 914) (by decide +kernel)⟩
theorem lw_p31 : lw_okq (⟨"PostByEnemyModel", "isTaken", "(I)V"⟩, 28) := ⟨⟨by decide +kernel, by decide +kernel⟩, List.mem_of_getElem? (i := 734) (by decide +kernel), List.mem_of_getElem? (i := 920) (by decide +kernel), List.mem_of_getElem? (i := 921) (by decide +kernel)⟩
def lw_privs_2 : List (MethodName × Nat) := [(⟨"PostByEnemyModel", "readsAll", "(II)Z"⟩, 28), (⟨"PostByEnemyModel", "readsOne", "(I)Z"⟩, 28), (⟨"PostByEnemyModel", "readsDigits", "(II)Z"⟩, 28), (⟨"PostByEnemyModel", "passesAll", "(IZ)V"⟩, 28), (⟨"PostByEnemyModel", "passes", "([I)V"⟩, 28), (⟨"PostByEnemyModel", "passOne", "(I)I"⟩, 28), (⟨"PostByEnemyModel", "comes", "(I)Z"⟩, 28), (⟨"PostByEnemyModel", "comesOne", "(III)Z"⟩, 28), (⟨"PostByEnemyModel", "comesParcel", "(II)Z"⟩, 28), (⟨"PostByEnemyModel", "isOne", "(I)Z"⟩, 28), (⟨"PostByEnemyModel", "adds", "(II)V"⟩, 28), (⟨"PostByEnemyModel", "comesDays", "(I)Z"⟩, 28), (⟨"PostByEnemyModel", "goes", "(I)V"⟩, 28), (⟨"PostByEnemyModel", "goesDay", "(Z)V"⟩, 28), (⟨"PostByEnemyModel", "comesNearer", "(I)V"⟩, 28), (⟨"PostByEnemyModel", "isTaken", "(I)V"⟩, 28)]
theorem lw_r2 : ∀ q ∈ lw_privs_2, lw_okq q := List.forall_mem_cons.mpr ⟨lw_p16, List.forall_mem_cons.mpr ⟨lw_p17, List.forall_mem_cons.mpr ⟨lw_p18, List.forall_mem_cons.mpr ⟨lw_p19, List.forall_mem_cons.mpr ⟨lw_p20, List.forall_mem_cons.mpr ⟨lw_p21, List.forall_mem_cons.mpr ⟨lw_p22, List.forall_mem_cons.mpr ⟨lw_p23, List.forall_mem_cons.mpr ⟨lw_p24, List.forall_mem_cons.mpr ⟨lw_p25, List.forall_mem_cons.mpr ⟨lw_p26, List.forall_mem_cons.mpr ⟨lw_p27, List.forall_mem_cons.mpr ⟨lw_p28, List.forall_mem_cons.mpr ⟨lw_p29, List.forall_mem_cons.mpr ⟨lw_p30, List.forall_mem_cons.mpr ⟨lw_p31, fun _ h => absurd h List.not_mem_nil⟩⟩⟩⟩⟩⟩⟩⟩⟩⟩⟩⟩⟩⟩⟩⟩
theorem lw_p32 : lw_okq (⟨"PostByEnemyModel", "enemyOf", "(I)I"⟩, 28) := ⟨⟨by decide +kernel, by decide +kernel⟩, List.mem_of_getElem? (i := 734) (by decide +kernel), List.mem_of_getElem? (i := 924) (by decide +kernel), List.mem_of_getElem? (i := 925) (by decide +kernel)⟩
theorem lw_p33 : lw_okq (⟨"PostByEnemyModel", "enemyBut", "(II)I"⟩, 28) := ⟨⟨by decide +kernel, by decide +kernel⟩, List.mem_of_getElem? (i := 734) (by decide +kernel), List.mem_of_getElem? (i := 928) (by decide +kernel), List.mem_of_getElem? (i := 929) (by decide +kernel)⟩
theorem lw_p34 : lw_okq (⟨"PostByEnemyModel", "maliceOf", "(II)I"⟩, 28) := ⟨⟨by decide +kernel, by decide +kernel⟩, List.mem_of_getElem? (i := 734) (by decide +kernel), List.mem_of_getElem? (i := 932) (by decide +kernel), List.mem_of_getElem? (i := 933) (by decide +kernel)⟩
theorem lw_p35 : lw_okq (⟨"PostByEnemyModel", "isCarrying", "(I)Z"⟩, 28) := ⟨⟨by decide +kernel, by decide +kernel⟩, List.mem_of_getElem? (i := 734) (by decide +kernel), List.mem_of_getElem? (i := 939) (by decide +kernel), List.mem_of_getElem? (i := 940) (by decide +kernel)⟩
theorem lw_p36 : lw_okq (⟨"PostByEnemyModel", "milesOf", "(I)I"⟩, 28) := ⟨⟨by decide +kernel, by decide +kernel⟩, List.mem_of_getElem? (i := 734) (by decide +kernel), List.mem_of_getElem? (i := 943) (by decide +kernel), List.mem_of_getElem? (i := 944) (by decide +kernel)⟩
theorem lw_p37 : lw_okq (⟨"PostByEnemyModel", "comesTwo", "(IIII)Z"⟩, 28) := ⟨⟨by decide +kernel, by decide +kernel⟩, List.mem_of_getElem? (i := 734) (by decide +kernel), List.mem_of_getElem? (i := 947) (by decide +kernel), List.mem_of_getElem? (i := 948) (by decide +kernel)⟩
theorem lw_p38 : lw_okq (⟨"PostByEnemyModel", "areTwo", "(II)Z"⟩, 28) := ⟨⟨by decide +kernel, by decide +kernel⟩, List.mem_of_getElem? (i := 734) (by decide +kernel), List.mem_of_getElem? (i := 951) (by decide +kernel), List.mem_of_getElem? (i := 952) (by decide +kernel)⟩
theorem lw_p39 : lw_okq (⟨"PostByEnemyModel", "slighted", "(III)V"⟩, 28) := ⟨⟨by decide +kernel, by decide +kernel⟩, List.mem_of_getElem? (i := 734) (by decide +kernel), List.mem_of_getElem? (i := 955) (by decide +kernel), List.mem_of_getElem? (i := 956) (by decide +kernel)⟩
theorem lw_p40 : lw_okq (⟨"PostByEnemyModel", "madeUp", "(II)V"⟩, 28) := ⟨⟨by decide +kernel, by decide +kernel⟩, List.mem_of_getElem? (i := 734) (by decide +kernel), List.mem_of_getElem? (i := 959) (by decide +kernel), List.mem_of_getElem? (i := 960) (by decide +kernel)⟩
theorem lw_p41 : lw_okq (⟨"PostByEnemyModel", "isParcel", "(I)Z"⟩, 28) := ⟨⟨by decide +kernel, by decide +kernel⟩, List.mem_of_getElem? (i := 734) (by decide +kernel), List.mem_of_getElem? (i := 979) (by decide +kernel), List.mem_of_getElem? (i := 980) (by decide +kernel)⟩
theorem lw_p42 : lw_okq (⟨"PostByEnemyModel", "thoseIn", "(I)I"⟩, 28) := ⟨⟨by decide +kernel, by decide +kernel⟩, List.mem_of_getElem? (i := 734) (by decide +kernel), List.mem_of_getElem? (i := 1015) (by decide +kernel), List.mem_of_getElem? (i := 1016) (by decide +kernel)⟩
theorem lw_p43 : lw_okq (⟨"PostByEnemyModel", "thinks", "()V"⟩, 28) := ⟨⟨by decide +kernel, by decide +kernel⟩, List.mem_of_getElem? (i := 734) (by decide +kernel), List.mem_of_getElem? (i := 1029) (by decide +kernel), List.mem_of_getElem? (i := 1030) (by decide +kernel)⟩
theorem lw_p44 : lw_okq (⟨"PostByEnemyModel", "forgets", "()V"⟩, 28) := ⟨⟨by decide +kernel, by decide +kernel⟩, List.mem_of_getElem? (i := 734) (by decide +kernel), List.mem_of_getElem? (i := 1033) (by decide +kernel), List.mem_of_getElem? (i := 1034) (by decide +kernel)⟩
theorem lw_p45 : lw_okq (⟨"PostByEnemyModel", "whenOf", "(I)I"⟩, 28) := ⟨⟨by decide +kernel, by decide +kernel⟩, List.mem_of_getElem? (i := 734) (by decide +kernel), List.mem_of_getElem? (i := 1049) (by decide +kernel), List.mem_of_getElem? (i := 1050) (by decide +kernel)⟩
theorem lw_p46 : lw_okq (⟨"PostByEnemyModel", "lateOf", "(I)I"⟩, 28) := ⟨⟨by decide +kernel, by decide +kernel⟩, List.mem_of_getElem? (i := 734) (by decide +kernel), List.mem_of_getElem? (i := 1057) (by decide +kernel), List.mem_of_getElem? (i := 1058) (by decide +kernel)⟩
theorem lw_p47 : lw_okq (⟨"PostByEnemyModel", "enemyOfMany", "(I)I"⟩, 28) := ⟨⟨by decide +kernel, by decide +kernel⟩, List.mem_of_getElem? (i := 734) (by decide +kernel), List.mem_of_getElem? (i := 1077) (by decide +kernel), List.mem_of_getElem? (i := 1078) (by decide +kernel)⟩
def lw_privs_3 : List (MethodName × Nat) := [(⟨"PostByEnemyModel", "enemyOf", "(I)I"⟩, 28), (⟨"PostByEnemyModel", "enemyBut", "(II)I"⟩, 28), (⟨"PostByEnemyModel", "maliceOf", "(II)I"⟩, 28), (⟨"PostByEnemyModel", "isCarrying", "(I)Z"⟩, 28), (⟨"PostByEnemyModel", "milesOf", "(I)I"⟩, 28), (⟨"PostByEnemyModel", "comesTwo", "(IIII)Z"⟩, 28), (⟨"PostByEnemyModel", "areTwo", "(II)Z"⟩, 28), (⟨"PostByEnemyModel", "slighted", "(III)V"⟩, 28), (⟨"PostByEnemyModel", "madeUp", "(II)V"⟩, 28), (⟨"PostByEnemyModel", "isParcel", "(I)Z"⟩, 28), (⟨"PostByEnemyModel", "thoseIn", "(I)I"⟩, 28), (⟨"PostByEnemyModel", "thinks", "()V"⟩, 28), (⟨"PostByEnemyModel", "forgets", "()V"⟩, 28), (⟨"PostByEnemyModel", "whenOf", "(I)I"⟩, 28), (⟨"PostByEnemyModel", "lateOf", "(I)I"⟩, 28), (⟨"PostByEnemyModel", "enemyOfMany", "(I)I"⟩, 28)]
theorem lw_r3 : ∀ q ∈ lw_privs_3, lw_okq q := List.forall_mem_cons.mpr ⟨lw_p32, List.forall_mem_cons.mpr ⟨lw_p33, List.forall_mem_cons.mpr ⟨lw_p34, List.forall_mem_cons.mpr ⟨lw_p35, List.forall_mem_cons.mpr ⟨lw_p36, List.forall_mem_cons.mpr ⟨lw_p37, List.forall_mem_cons.mpr ⟨lw_p38, List.forall_mem_cons.mpr ⟨lw_p39, List.forall_mem_cons.mpr ⟨lw_p40, List.forall_mem_cons.mpr ⟨lw_p41, List.forall_mem_cons.mpr ⟨lw_p42, List.forall_mem_cons.mpr ⟨lw_p43, List.forall_mem_cons.mpr ⟨lw_p44, List.forall_mem_cons.mpr ⟨lw_p45, List.forall_mem_cons.mpr ⟨lw_p46, List.forall_mem_cons.mpr ⟨lw_p47, fun _ h => absurd h List.not_mem_nil⟩⟩⟩⟩⟩⟩⟩⟩⟩⟩⟩⟩⟩⟩⟩⟩
theorem lw_p48 : lw_okq (⟨"PostByEnemyModel", "lateSlighting", "(II)I"⟩, 28) := ⟨⟨by decide +kernel, by decide +kernel⟩, List.mem_of_getElem? (i := 734) (by decide +kernel), List.mem_of_getElem? (i := 1092) (by decide +kernel), List.mem_of_getElem? (i := 1093) (by decide +kernel)⟩
theorem lw_p49 : lw_okq (⟨"PostByEnemyModel", "slightsOf", "(II)I"⟩, 28) := ⟨⟨by decide +kernel, by decide +kernel⟩, List.mem_of_getElem? (i := 734) (by decide +kernel), List.mem_of_getElem? (i := 1100) (by decide +kernel), List.mem_of_getElem? (i := 1101) (by decide +kernel)⟩
theorem lw_p50 : lw_okq (⟨"PostByEnemyModel", "bringsIn", "(III)Z"⟩, 28) := ⟨⟨by decide +kernel, by decide +kernel⟩, List.mem_of_getElem? (i := 734) (by decide +kernel), List.mem_of_getElem? (i := 1104) (by decide +kernel), List.mem_of_getElem? (i := 1105) (by decide +kernel)⟩
theorem lw_p51 : lw_okq (⟨"PostByEnemyModel", "changes", "()V"⟩, 28) := ⟨⟨by decide +kernel, by decide +kernel⟩, List.mem_of_getElem? (i := 734) (by decide +kernel), List.mem_of_getElem? (i := 1108) (by decide +kernel), List.mem_of_getElem? (i := 1109) (by decide +kernel)⟩
theorem lw_p52 : lw_okq (⟨"PostByEnemyModel", "changesBack", "()V"⟩, 28) := ⟨⟨by decide +kernel, by decide +kernel⟩, List.mem_of_getElem? (i := 734) (by decide +kernel), List.mem_of_getElem? (i := 1112) (by decide +kernel), List.mem_of_getElem? (i := 1113) (by decide +kernel)⟩
theorem lw_p53 : lw_okq (⟨"PostByEnemyModel", "latePeace", "(II)I"⟩, 28) := ⟨⟨by decide +kernel, by decide +kernel⟩, List.mem_of_getElem? (i := 734) (by decide +kernel), List.mem_of_getElem? (i := 1120) (by decide +kernel), List.mem_of_getElem? (i := 1121) (by decide +kernel)⟩
theorem lw_p54 : lw_okq (⟨"PostByEnemyModel", "latePosted", "(II)I"⟩, 28) := ⟨⟨by decide +kernel, by decide +kernel⟩, List.mem_of_getElem? (i := 734) (by decide +kernel), List.mem_of_getElem? (i := 1128) (by decide +kernel), List.mem_of_getElem? (i := 1129) (by decide +kernel)⟩
theorem lw_p55 : lw_okq (⟨"PostByEnemyModel", "pairs", "()I"⟩, 28) := ⟨⟨by decide +kernel, by decide +kernel⟩, List.mem_of_getElem? (i := 734) (by decide +kernel), List.mem_of_getElem? (i := 1144) (by decide +kernel), List.mem_of_getElem? (i := 1145) (by decide +kernel)⟩
theorem lw_p56 : lw_okq (⟨"PostByEnemyModel", "maliceFor", "(I)I"⟩, 28) := ⟨⟨by decide +kernel, by decide +kernel⟩, List.mem_of_getElem? (i := 734) (by decide +kernel), List.mem_of_getElem? (i := 1148) (by decide +kernel), List.mem_of_getElem? (i := 1149) (by decide +kernel)⟩
theorem lw_p57 : lw_okq (⟨"PostByEnemyModel", "findBrought", "(III)V"⟩, 28) := ⟨⟨by decide +kernel, by decide +kernel⟩, List.mem_of_getElem? (i := 734) (by decide +kernel), List.mem_of_getElem? (i := 1156) (by decide +kernel), List.mem_of_getElem? (i := 1157) (by decide +kernel)⟩
theorem lw_p58 : lw_okq (⟨"PostByEnemyModel", "broughtTo", "(I)I"⟩, 28) := ⟨⟨by decide +kernel, by decide +kernel⟩, List.mem_of_getElem? (i := 734) (by decide +kernel), List.mem_of_getElem? (i := 1160) (by decide +kernel), List.mem_of_getElem? (i := 1161) (by decide +kernel)⟩
theorem lw_p59 : lw_okq (⟨"PostByEnemyModel", "lowestOf", "(I)J"⟩, 28) := ⟨⟨by decide +kernel, by decide +kernel⟩, List.mem_of_getElem? (i := 734) (by decide +kernel), List.mem_of_getElem? (i := 1168) (by decide +kernel), List.mem_of_getElem? (i := 1169) (by decide +kernel)⟩
theorem lw_p60 : lw_okq (⟨"PostByEnemyModel", "allHate", "()I"⟩, 28) := ⟨⟨by decide +kernel, by decide +kernel⟩, List.mem_of_getElem? (i := 734) (by decide +kernel), List.mem_of_getElem? (i := 1183) (by decide +kernel), List.mem_of_getElem? (i := 1184) (by decide +kernel)⟩
theorem lw_p61 : lw_okq (⟨"PostByEnemyModel", "bitsFor", "([IIII)I"⟩, 28) := ⟨⟨by decide +kernel, by decide +kernel⟩, List.mem_of_getElem? (i := 734) (by decide +kernel), List.mem_of_getElem? (i := 1191) (by decide +kernel), List.mem_of_getElem? (i := 1192) (by decide +kernel)⟩
theorem lw_p62 : lw_okq (⟨"PostByEnemyModel", "isSo", "(I)Z"⟩, 28) := ⟨⟨by decide +kernel, by decide +kernel⟩, List.mem_of_getElem? (i := 734) (by decide +kernel), List.mem_of_getElem? (i := 1195) (by decide +kernel), List.mem_of_getElem? (i := 1196) (by decide +kernel)⟩
def lw_privs_4 : List (MethodName × Nat) := [(⟨"PostByEnemyModel", "lateSlighting", "(II)I"⟩, 28), (⟨"PostByEnemyModel", "slightsOf", "(II)I"⟩, 28), (⟨"PostByEnemyModel", "bringsIn", "(III)Z"⟩, 28), (⟨"PostByEnemyModel", "changes", "()V"⟩, 28), (⟨"PostByEnemyModel", "changesBack", "()V"⟩, 28), (⟨"PostByEnemyModel", "latePeace", "(II)I"⟩, 28), (⟨"PostByEnemyModel", "latePosted", "(II)I"⟩, 28), (⟨"PostByEnemyModel", "pairs", "()I"⟩, 28), (⟨"PostByEnemyModel", "maliceFor", "(I)I"⟩, 28), (⟨"PostByEnemyModel", "findBrought", "(III)V"⟩, 28), (⟨"PostByEnemyModel", "broughtTo", "(I)I"⟩, 28), (⟨"PostByEnemyModel", "lowestOf", "(I)J"⟩, 28), (⟨"PostByEnemyModel", "allHate", "()I"⟩, 28), (⟨"PostByEnemyModel", "bitsFor", "([IIII)I"⟩, 28), (⟨"PostByEnemyModel", "isSo", "(I)Z"⟩, 28)]
theorem lw_r4 : ∀ q ∈ lw_privs_4, lw_okq q := List.forall_mem_cons.mpr ⟨lw_p48, List.forall_mem_cons.mpr ⟨lw_p49, List.forall_mem_cons.mpr ⟨lw_p50, List.forall_mem_cons.mpr ⟨lw_p51, List.forall_mem_cons.mpr ⟨lw_p52, List.forall_mem_cons.mpr ⟨lw_p53, List.forall_mem_cons.mpr ⟨lw_p54, List.forall_mem_cons.mpr ⟨lw_p55, List.forall_mem_cons.mpr ⟨lw_p56, List.forall_mem_cons.mpr ⟨lw_p57, List.forall_mem_cons.mpr ⟨lw_p58, List.forall_mem_cons.mpr ⟨lw_p59, List.forall_mem_cons.mpr ⟨lw_p60, List.forall_mem_cons.mpr ⟨lw_p61, List.forall_mem_cons.mpr ⟨lw_p62, fun _ h => absurd h List.not_mem_nil⟩⟩⟩⟩⟩⟩⟩⟩⟩⟩⟩⟩⟩⟩⟩
def lw_privs : List (MethodName × Nat) := lw_privs_1 ++ (lw_privs_2 ++ (lw_privs_3 ++ (lw_privs_4)))
def lw_tbl : List Cond := k2_sels lw_privs ++ tables_1
theorem lw_privs_ok : ∀ q ∈ lw_privs, lw_okq q := by
  show ∀ q ∈ lw_privs_1 ++ (lw_privs_2 ++ (lw_privs_3 ++ (lw_privs_4))), lw_okq q
  exact List.forall_mem_append.mpr ⟨lw_r1, List.forall_mem_append.mpr ⟨lw_r2, List.forall_mem_append.mpr ⟨lw_r3, lw_r4⟩⟩⟩

def RX0 : String := "PostByEnemy$Duchy"
def TX0 : u_T := fun k => match k with
  | 0 => ("PostByEnemy$Duchy", "people", "I", false)
  | 1 => ("PostByEnemy$Duchy", "parcels", "I", false)
  | 2 => ("PostByEnemy$Duchy", "date", "I", false)
  | 3 => ("PostByEnemy$Duchy", "kinds", "[I", true)
  | 4 => ("PostByEnemy$Duchy", "figures", "[I", true)
  | 5 => ("PostByEnemy$Duchy", "places", "[I", true)
  | 6 => ("PostByEnemy$Duchy", "gots", "[I", true)
  | 7 => ("PostByEnemy$Duchy", "feelings", "[I", true)
  | 8 => ("PostByEnemy$Duchy", "receivers", "[I", true)
  | 9 => ("PostByEnemy$Duchy", "worths", "[I", true)
  | 10 => ("PostByEnemy$Duchy", "states", "[I", true)
  | 11 => ("PostByEnemy$Duchy", "carriers", "[I", true)
  | _ => ("PostByEnemy$Duchy", "lefts", "[I", true)
def tyX0 : Nat → FieldType := fun k => match k with
  | 0 => .int
  | 1 => .int
  | 2 => .int
  | 3 => .array .int
  | 4 => .array .int
  | 5 => .array .int
  | 6 => .array .int
  | 7 => .array .int
  | 8 => .array .int
  | 9 => .array .int
  | 10 => .array .int
  | 11 => .array .int
  | _ => .array .int
abbrev wsX00 : List Cond := u_ws RX0 TX0 13
theorem nmX0 : ∀ a, a < 13 → ∀ b, b < 13 → a ≠ b → (TX0 a).2.1 ≠ (TX0 b).2.1 := by decide +kernel
theorem tyX0_ok : ∀ k, k < 13 → parseFieldDescriptor (TX0 k).2.2.1 = some (tyX0 k) := by decide +kernel
abbrev cX0_init : ByteArray := prog_2_method_1_code
def yX0_init : MethodName := ⟨RX0, "<init>", "()V"⟩
abbrev cX0_become : ByteArray := prog_2_method_2_code
def yX0_become : MethodName := ⟨RX0, "become", "(LPostByEnemy$Duchy;)V"⟩
abbrev cX0_hasPerson : ByteArray := prog_2_method_3_code
def yX0_hasPerson : MethodName := ⟨RX0, "hasPerson", "(I)Z"⟩
abbrev cX0_hasPair : ByteArray := prog_2_method_4_code
def yX0_hasPair : MethodName := ⟨RX0, "hasPair", "(II)Z"⟩
abbrev cX0_hasParcel : ByteArray := prog_2_method_5_code
def yX0_hasParcel : MethodName := ⟨RX0, "hasParcel", "(I)Z"⟩
abbrev cX0_addPerson : ByteArray := prog_2_method_6_code
def yX0_addPerson : MethodName := ⟨RX0, "addPerson", "(III)Z"⟩
abbrev cX0_addParcel : ByteArray := prog_2_method_7_code
def yX0_addParcel : MethodName := ⟨RX0, "addParcel", "(II)Z"⟩
abbrev cX0_ofPerson : ByteArray := prog_2_method_8_code
def yX0_ofPerson : MethodName := ⟨RX0, "ofPerson", "(II)I"⟩
abbrev cX0_ofParcel : ByteArray := prog_2_method_9_code
def yX0_ofParcel : MethodName := ⟨RX0, "ofParcel", "(II)I"⟩
abbrev cX0_stateOf : ByteArray := prog_2_method_10_code
def yX0_stateOf : MethodName := ⟨RX0, "stateOf", "(I)I"⟩
abbrev cX0_receiverOf : ByteArray := prog_2_method_11_code
def yX0_receiverOf : MethodName := ⟨RX0, "receiverOf", "(I)I"⟩
abbrev cX0_carrierOf : ByteArray := prog_2_method_12_code
def yX0_carrierOf : MethodName := ⟨RX0, "carrierOf", "(I)I"⟩
abbrev cX0_hateOf : ByteArray := prog_2_method_13_code
def yX0_hateOf : MethodName := ⟨RX0, "hateOf", "(II)I"⟩
abbrev cX0_setHate : ByteArray := prog_2_method_14_code
def yX0_setHate : MethodName := ⟨RX0, "setHate", "(III)Z"⟩
abbrev cX0_addHate : ByteArray := prog_2_method_15_code
def yX0_addHate : MethodName := ⟨RX0, "addHate", "(III)Z"⟩
abbrev cX0_makePeace : ByteArray := prog_2_method_16_code
def yX0_makePeace : MethodName := ⟨RX0, "makePeace", "(II)Z"⟩
abbrev cX0_hatesTogether : ByteArray := prog_2_method_17_code
def yX0_hatesTogether : MethodName := ⟨RX0, "hatesTogether", "()I"⟩
abbrev cX0_apart : ByteArray := prog_2_method_18_code
def yX0_apart : MethodName := ⟨RX0, "apart", "(II)I"⟩
abbrev cX0_milesOf : ByteArray := prog_2_method_19_code
def yX0_milesOf : MethodName := ⟨RX0, "milesOf", "(I)I"⟩
abbrev cX0_maliceOf : ByteArray := prog_2_method_20_code
def yX0_maliceOf : MethodName := ⟨RX0, "maliceOf", "(II)I"⟩
abbrev cX0_maliceOfAll : ByteArray := prog_2_method_21_code
def yX0_maliceOfAll : MethodName := ⟨RX0, "maliceOfAll", "(I)I"⟩
abbrev cX0_enemyOf : ByteArray := prog_2_method_22_code
def yX0_enemyOf : MethodName := ⟨RX0, "enemyOf", "(II)I"⟩
abbrev cX0_enemyOfHowMany : ByteArray := prog_2_method_23_code
def yX0_enemyOfHowMany : MethodName := ⟨RX0, "enemyOfHowMany", "(I)I"⟩
abbrev cX0_mutualEnemies : ByteArray := prog_2_method_24_code
def yX0_mutualEnemies : MethodName := ⟨RX0, "mutualEnemies", "()I"⟩
abbrev cX0_carries : ByteArray := prog_2_method_25_code
def yX0_carries : MethodName := ⟨RX0, "carries", "(I)Z"⟩
abbrev cX0_brought : ByteArray := prog_2_method_26_code
def yX0_brought : MethodName := ⟨RX0, "brought", "()I"⟩
abbrev cX0_parcelsThat : ByteArray := prog_2_method_27_code
def yX0_parcelsThat : MethodName := ⟨RX0, "parcelsThat", "(I)I"⟩
abbrev cX0_passDays : ByteArray := prog_2_method_28_code
def yX0_passDays : MethodName := ⟨RX0, "passDays", "(I)V"⟩
abbrev cX0_passDay : ByteArray := prog_2_method_29_code
def yX0_passDay : MethodName := ⟨RX0, "passDay", "(Z)V"⟩
abbrev cX0_carryOn : ByteArray := prog_2_method_30_code
def yX0_carryOn : MethodName := ⟨RX0, "carryOn", "()V"⟩
abbrev cX0_giveOut : ByteArray := prog_2_method_31_code
def yX0_giveOut : MethodName := ⟨RX0, "giveOut", "()V"⟩
abbrev cX0_daysOnRoad : ByteArray := prog_2_method_32_code
def yX0_daysOnRoad : MethodName := ⟨RX0, "daysOnRoad", "(II)I"⟩
abbrev cX0_coolDown : ByteArray := prog_2_method_33_code
def yX0_coolDown : MethodName := ⟨RX0, "coolDown", "()V"⟩
def RX1 : String := "PostByEnemy$Row"
def TX1 : u_T := fun k => match k with
  | 0 => ("PostByEnemy$Row", "size", "I", false)
  | _ => ("PostByEnemy$Row", "numbers", "[I", true)
def tyX1 : Nat → FieldType := fun k => match k with
  | 0 => .int
  | _ => .array .int
abbrev wsX10 : List Cond := u_ws RX1 TX1 2
theorem nmX1 : ∀ a, a < 2 → ∀ b, b < 2 → a ≠ b → (TX1 a).2.1 ≠ (TX1 b).2.1 := by decide +kernel
theorem tyX1_ok : ∀ k, k < 2 → parseFieldDescriptor (TX1 k).2.2.1 = some (tyX1 k) := by decide +kernel
abbrev cX1_init : ByteArray := prog_3_method_1_code
def yX1_init : MethodName := ⟨RX1, "<init>", "()V"⟩
abbrev cX1_add : ByteArray := prog_3_method_2_code
def yX1_add : MethodName := ⟨RX1, "add", "(I)V"⟩
abbrev cX1_at : ByteArray := prog_3_method_3_code
def yX1_at : MethodName := ⟨RX1, "at", "(I)I"⟩
def RX2 : String := "PostByEnemy$Text"
def TX2 : u_T := fun k => match k with
  | 0 => ("PostByEnemy$Text", "size", "I", false)
  | _ => ("PostByEnemy$Text", "letters", "[I", true)
def tyX2 : Nat → FieldType := fun k => match k with
  | 0 => .int
  | _ => .array .int
abbrev wsX20 : List Cond := u_ws RX2 TX2 2
theorem nmX2 : ∀ a, a < 2 → ∀ b, b < 2 → a ≠ b → (TX2 a).2.1 ≠ (TX2 b).2.1 := by decide +kernel
theorem tyX2_ok : ∀ k, k < 2 → parseFieldDescriptor (TX2 k).2.2.1 = some (tyX2 k) := by decide +kernel
abbrev cX2_init : ByteArray := prog_4_method_1_code
def yX2_init : MethodName := ⟨RX2, "<init>", "()V"⟩
abbrev cX2_add : ByteArray := prog_4_method_2_code
def yX2_add : MethodName := ⟨RX2, "add", "(I)V"⟩
abbrev cX2_letterAt : ByteArray := prog_4_method_3_code
def yX2_letterAt : MethodName := ⟨RX2, "letterAt", "(I)I"⟩
abbrev cX2_formOf : ByteArray := prog_4_method_4_code
def yX2_formOf : MethodName := ⟨RX2, "formOf", "(I)Ljava/lang/String;"⟩
abbrev cX2_fits : ByteArray := prog_4_method_5_code
def yX2_fits : MethodName := ⟨RX2, "fits", "(CI)Z"⟩
abbrev cX2_lengthAt : ByteArray := prog_4_method_6_code
def yX2_lengthAt : MethodName := ⟨RX2, "lengthAt", "(I)I"⟩
abbrev cX2_firstMisfit : ByteArray := prog_4_method_7_code
def yX2_firstMisfit : MethodName := ⟨RX2, "firstMisfit", "()I"⟩
abbrev cX2_digitAt : ByteArray := prog_4_method_8_code
def yX2_digitAt : MethodName := ⟨RX2, "digitAt", "(I)I"⟩
abbrev cX2_numberAt : ByteArray := prog_4_method_9_code
def yX2_numberAt : MethodName := ⟨RX2, "numberAt", "(I)I"⟩
abbrev cX2_tell : ByteArray := prog_4_method_10_code
def yX2_tell : MethodName := ⟨RX2, "tell", "(ILPostByEnemy$Duchy;)Z"⟩
abbrev cX2_letDaysPass : ByteArray := prog_4_method_11_code
def yX2_letDaysPass : MethodName := ⟨RX2, "letDaysPass", "(ILPostByEnemy$Duchy;)Z"⟩
def RX3 : String := "PostByEnemy$Thought"
def TX3 : u_T := fun k => match k with
  | 0 => ("PostByEnemy$Thought", "mind", "LPostByEnemy$Duchy;", true)
  | 1 => ("PostByEnemy$Thought", "later", "LPostByEnemy$Duchy;", true)
  | 2 => ("PostByEnemy$Thought", "firstGot", "[I", true)
  | _ => ("PostByEnemy$Thought", "otherGot", "[I", true)
def tyX3 : Nat → FieldType := fun k => match k with
  | 0 => .object "PostByEnemy$Duchy"
  | 1 => .object "PostByEnemy$Duchy"
  | 2 => .array .int
  | _ => .array .int
abbrev wsX30 : List Cond := u_ws RX3 TX3 4
theorem nmX3 : ∀ a, a < 4 → ∀ b, b < 4 → a ≠ b → (TX3 a).2.1 ≠ (TX3 b).2.1 := by decide +kernel
theorem tyX3_ok : ∀ k, k < 4 → parseFieldDescriptor (TX3 k).2.2.1 = some (tyX3 k) := by decide +kernel
abbrev cX3_init : ByteArray := prog_5_method_1_code
def yX3_init : MethodName := ⟨RX3, "<init>", "()V"⟩
abbrev cX3_behind : ByteArray := prog_5_method_2_code
def yX3_behind : MethodName := ⟨RX3, "behind", "(LPostByEnemy$Duchy;I)LPostByEnemy$Duchy;"⟩
abbrev cX3_firstBrought : ByteArray := prog_5_method_3_code
def yX3_firstBrought : MethodName := ⟨RX3, "firstBrought", "(LPostByEnemy$Duchy;)I"⟩
abbrev cX3_daysTillAll : ByteArray := prog_5_method_4_code
def yX3_daysTillAll : MethodName := ⟨RX3, "daysTillAll", "(LPostByEnemy$Duchy;)I"⟩
abbrev cX3_bestSlight : ByteArray := prog_5_method_5_code
def yX3_bestSlight : MethodName := ⟨RX3, "bestSlight", "(LPostByEnemy$Duchy;I)I"⟩
abbrev cX3_worstPeace : ByteArray := prog_5_method_6_code
def yX3_worstPeace : MethodName := ⟨RX3, "worstPeace", "(LPostByEnemy$Duchy;I)I"⟩
abbrev cX3_isEnough : ByteArray := prog_5_method_7_code
def yX3_isEnough : MethodName := ⟨RX3, "isEnough", "(LPostByEnemy$Duchy;III)Z"⟩
abbrev cX3_slightAll : ByteArray := prog_5_method_8_code
def yX3_slightAll : MethodName := ⟨RX3, "slightAll", "(III)Z"⟩
abbrev cX3_bestPosting : ByteArray := prog_5_method_9_code
def yX3_bestPosting : MethodName := ⟨RX3, "bestPosting", "(LPostByEnemy$Duchy;IZ)I"⟩
abbrev cX3_court : ByteArray := prog_5_method_10_code
def yX3_court : MethodName := ⟨RX3, "court", "(LPostByEnemy$Duchy;III)I"⟩
abbrev cX3_broughtTo : ByteArray := prog_5_method_11_code
def yX3_broughtTo : MethodName := ⟨RX3, "broughtTo", "(I)I"⟩
abbrev cX3_broughtOfAll : ByteArray := prog_5_method_12_code
def yX3_broughtOfAll : MethodName := ⟨RX3, "broughtOfAll", "(LPostByEnemy$Duchy;III)J"⟩
abbrev cX3_fitting : ByteArray := prog_5_method_13_code
def yX3_fitting : MethodName := ⟨RX3, "fitting", "(LPostByEnemy$Duchy;IIZLPostByEnemy$Row;)I"⟩
abbrev cX3_goesAsTold : ByteArray := prog_5_method_14_code
def yX3_goesAsTold : MethodName := ⟨RX3, "goesAsTold", "(ILPostByEnemy$Row;)Z"⟩
abbrev cX3_ofDrawnDuchies : ByteArray := prog_5_method_15_code
def yX3_ofDrawnDuchies : MethodName := ⟨RX3, "ofDrawnDuchies", "(LPostByEnemy$Duchy;IIZ)I"⟩
abbrev cX3_drawHates : ByteArray := prog_5_method_16_code
def yX3_drawHates : MethodName := ⟨RX3, "drawHates", "(I)I"⟩
def RX4 : String := "PostByEnemy"
def TX4 : u_T := fun k => match k with
  | 0 => ("PostByEnemy", "now", "LPostByEnemy$Duchy;", true)
  | 1 => ("PostByEnemy", "taken", "LPostByEnemy$Duchy;", true)
  | 2 => ("PostByEnemy", "isTaken", "Z", false)
  | 3 => ("PostByEnemy", "thought", "LPostByEnemy$Thought;", true)
  | 4 => ("PostByEnemy", "text", "LPostByEnemy$Text;", true)
  | 5 => ("PostByEnemy", "told", "LPostByEnemy$Row;", true)
  | _ => ("PostByEnemy", "refused", "[I", true)
def tyX4 : Nat → FieldType := fun k => match k with
  | 0 => .object "PostByEnemy$Duchy"
  | 1 => .object "PostByEnemy$Duchy"
  | 2 => .boolean
  | 3 => .object "PostByEnemy$Thought"
  | 4 => .object "PostByEnemy$Text"
  | 5 => .object "PostByEnemy$Row"
  | _ => .array .int
abbrev wsX40 : List Cond := u_ws RX4 TX4 7
theorem nmX4 : ∀ a, a < 7 → ∀ b, b < 7 → a ≠ b → (TX4 a).2.1 ≠ (TX4 b).2.1 := by decide +kernel
theorem tyX4_ok : ∀ k, k < 7 → parseFieldDescriptor (TX4 k).2.2.1 = some (tyX4 k) := by decide +kernel
abbrev cX4_init : ByteArray := prog_1_method_1_code
def yX4_init : MethodName := ⟨RX4, "<init>", "()V"⟩
abbrev cX4_letter : ByteArray := prog_1_method_2_code
def yX4_letter : MethodName := ⟨RX4, "letter", "(I)I"⟩
abbrev cX4_duchy : ByteArray := prog_1_method_3_code
def yX4_duchy : MethodName := ⟨RX4, "duchy", "()I"⟩
abbrev cX4_person : ByteArray := prog_1_method_4_code
def yX4_person : MethodName := ⟨RX4, "person", "(II)I"⟩
abbrev cX4_parcel : ByteArray := prog_1_method_5_code
def yX4_parcel : MethodName := ⟨RX4, "parcel", "(II)I"⟩
abbrev cX4_hate : ByteArray := prog_1_method_6_code
def yX4_hate : MethodName := ⟨RX4, "hate", "(II)I"⟩
abbrev cX4_posts : ByteArray := prog_1_method_7_code
def yX4_posts : MethodName := ⟨RX4, "posts", "(II)I"⟩
abbrev cX4_hates : ByteArray := prog_1_method_8_code
def yX4_hates : MethodName := ⟨RX4, "hates", "(III)I"⟩
abbrev cX4_slights : ByteArray := prog_1_method_9_code
def yX4_slights : MethodName := ⟨RX4, "slights", "(II)I"⟩
abbrev cX4_peace : ByteArray := prog_1_method_10_code
def yX4_peace : MethodName := ⟨RX4, "peace", "(II)I"⟩
abbrev cX4_moves : ByteArray := prog_1_method_11_code
def yX4_moves : MethodName := ⟨RX4, "moves", "(II)I"⟩
abbrev cX4_turn : ByteArray := prog_1_method_12_code
def yX4_turn : MethodName := ⟨RX4, "turn", "(III)I"⟩
abbrev cX4_days : ByteArray := prog_1_method_13_code
def yX4_days : MethodName := ⟨RX4, "days", "(I)I"⟩
abbrev cX4_parcelThen : ByteArray := prog_1_method_14_code
def yX4_parcelThen : MethodName := ⟨RX4, "parcelThen", "(III)I"⟩
abbrev cX4_hateThen : ByteArray := prog_1_method_15_code
def yX4_hateThen : MethodName := ⟨RX4, "hateThen", "(III)I"⟩
abbrev cX4_gotThen : ByteArray := prog_1_method_16_code
def yX4_gotThen : MethodName := ⟨RX4, "gotThen", "(II)I"⟩
abbrev cX4_when : ByteArray := prog_1_method_17_code
def yX4_when : MethodName := ⟨RX4, "when", "(I)I"⟩
abbrev cX4_first : ByteArray := prog_1_method_18_code
def yX4_first : MethodName := ⟨RX4, "first", "(I)I"⟩
abbrev cX4_enemy : ByteArray := prog_1_method_19_code
def yX4_enemy : MethodName := ⟨RX4, "enemy", "(II)I"⟩
abbrev cX4_malice : ByteArray := prog_1_method_20_code
def yX4_malice : MethodName := ⟨RX4, "malice", "(II)I"⟩
abbrev cX4_loved : ByteArray := prog_1_method_21_code
def yX4_loved : MethodName := ⟨RX4, "loved", "()I"⟩
abbrev cX4_busiest : ByteArray := prog_1_method_22_code
def yX4_busiest : MethodName := ⟨RX4, "busiest", "(I)I"⟩
abbrev cX4_ring : ByteArray := prog_1_method_23_code
def yX4_ring : MethodName := ⟨RX4, "ring", "(II)I"⟩
abbrev cX4_slight : ByteArray := prog_1_method_24_code
def yX4_slight : MethodName := ⟨RX4, "slight", "(I)I"⟩
abbrev cX4_cost : ByteArray := prog_1_method_25_code
def yX4_cost : MethodName := ⟨RX4, "cost", "(II)I"⟩
abbrev cX4_makeUp : ByteArray := prog_1_method_26_code
def yX4_makeUp : MethodName := ⟨RX4, "makeUp", "(I)I"⟩
abbrev cX4_post : ByteArray := prog_1_method_27_code
def yX4_post : MethodName := ⟨RX4, "post", "(II)I"⟩
abbrev cX4_road : ByteArray := prog_1_method_28_code
def yX4_road : MethodName := ⟨RX4, "road", "(II)I"⟩
abbrev cX4_farthest : ByteArray := prog_1_method_29_code
def yX4_farthest : MethodName := ⟨RX4, "farthest", "()I"⟩
abbrev cX4_fair : ByteArray := prog_1_method_30_code
def yX4_fair : MethodName := ⟨RX4, "fair", "(I)I"⟩
abbrev cX4_two : ByteArray := prog_1_method_31_code
def yX4_two : MethodName := ⟨RX4, "two", "(III)I"⟩
abbrev cX4_snow : ByteArray := prog_1_method_32_code
def yX4_snow : MethodName := ⟨RX4, "snow", "(IIII)J"⟩
abbrev cX4_mean : ByteArray := prog_1_method_33_code
def yX4_mean : MethodName := ⟨RX4, "mean", "(I)J"⟩
abbrev cX4_who : ByteArray := prog_1_method_34_code
def yX4_who : MethodName := ⟨RX4, "who", "(III)I"⟩
abbrev cX4_row : ByteArray := prog_1_method_35_code
def yX4_row : MethodName := ⟨RX4, "row", "(I)I"⟩
abbrev cX4_judge : ByteArray := prog_1_method_36_code
def yX4_judge : MethodName := ⟨RX4, "judge", "()I"⟩
abbrev cX4_clear : ByteArray := prog_1_method_37_code
def yX4_clear : MethodName := ⟨RX4, "clear", "()I"⟩
abbrev cX4_lots : ByteArray := prog_1_method_38_code
def yX4_lots : MethodName := ⟨RX4, "lots", "(III)I"⟩
abbrev cX4_image : ByteArray := prog_1_method_39_code
def yX4_image : MethodName := ⟨RX4, "image", "()I"⟩
abbrev cX4_on : ByteArray := prog_1_method_40_code
def yX4_on : MethodName := ⟨RX4, "on", "()I"⟩
abbrev cX4_count : ByteArray := prog_1_method_41_code
def yX4_count : MethodName := ⟨RX4, "count", "(I)I"⟩
abbrev cX4_refuse : ByteArray := prog_1_method_42_code
def yX4_refuse : MethodName := ⟨RX4, "refuse", "(I)I"⟩
abbrev cX4_refuseLong : ByteArray := prog_1_method_43_code
def yX4_refuseLong : MethodName := ⟨RX4, "refuseLong", "(I)J"⟩
abbrev cX4_notWaiting : ByteArray := prog_1_method_44_code
def yX4_notWaiting : MethodName := ⟨RX4, "notWaiting", "(I)I"⟩
abbrev cX4_asTold : ByteArray := prog_1_method_45_code
def yX4_asTold : MethodName := ⟨RX4, "asTold", "(I)I"⟩
abbrev cX4_dayOrNone : ByteArray := prog_1_method_46_code
def yX4_dayOrNone : MethodName := ⟨RX4, "dayOrNone", "(I)I"⟩
abbrev cX4_daysTillBrought : ByteArray := prog_1_method_47_code
def yX4_daysTillBrought : MethodName := ⟨RX4, "daysTillBrought", "(LPostByEnemy$Duchy;II)I"⟩
abbrev cX4_partOf : ByteArray := prog_1_method_48_code
def yX4_partOf : MethodName := ⟨RX4, "partOf", "(JJI)J"⟩
abbrev cX4_greatestDivisor : ByteArray := prog_1_method_49_code
def yX4_greatestDivisor : MethodName := ⟨RX4, "greatestDivisor", "(JJ)J"⟩
def RX5 : String := "PostByEnemyModel"
def TX5 : u_T := fun k => match k with
  | 0 => ("PostByEnemyModel", "refused", "[I", true)
  | 1 => ("PostByEnemyModel", "kind", "[I", true)
  | 2 => ("PostByEnemyModel", "figure", "[I", true)
  | 3 => ("PostByEnemyModel", "place", "[I", true)
  | 4 => ("PostByEnemyModel", "got", "[I", true)
  | 5 => ("PostByEnemyModel", "hate", "[I", true)
  | 6 => ("PostByEnemyModel", "to", "[I", true)
  | 7 => ("PostByEnemyModel", "worth", "[I", true)
  | 8 => ("PostByEnemyModel", "state", "[I", true)
  | 9 => ("PostByEnemyModel", "left", "[I", true)
  | 10 => ("PostByEnemyModel", "by", "[I", true)
  | 11 => ("PostByEnemyModel", "people", "I", false)
  | 12 => ("PostByEnemyModel", "parcels", "I", false)
  | 13 => ("PostByEnemyModel", "day", "I", false)
  | 14 => ("PostByEnemyModel", "tape", "[I", true)
  | 15 => ("PostByEnemyModel", "letter", "[I", true)
  | 16 => ("PostByEnemyModel", "letterAt", "[I", true)
  | 17 => ("PostByEnemyModel", "told", "[I", true)
  | 18 => ("PostByEnemyModel", "taped", "I", false)
  | 19 => ("PostByEnemyModel", "at", "I", false)
  | 20 => ("PostByEnemyModel", "statements", "I", false)
  | 21 => ("PostByEnemyModel", "kept", "[I", true)
  | 22 => ("PostByEnemyModel", "hasImage", "Z", false)
  | 23 => ("PostByEnemyModel", "isKeeping", "Z", false)
  | 24 => ("PostByEnemyModel", "cursor", "I", false)
  | 25 => ("PostByEnemyModel", "broughtBy", "[I", true)
  | 26 => ("PostByEnemyModel", "row", "[I", true)
  | _ => ("PostByEnemyModel", "rowMany", "I", false)
def tyX5 : Nat → FieldType := fun k => match k with
  | 0 => .array .int
  | 1 => .array .int
  | 2 => .array .int
  | 3 => .array .int
  | 4 => .array .int
  | 5 => .array .int
  | 6 => .array .int
  | 7 => .array .int
  | 8 => .array .int
  | 9 => .array .int
  | 10 => .array .int
  | 11 => .int
  | 12 => .int
  | 13 => .int
  | 14 => .array .int
  | 15 => .array .int
  | 16 => .array .int
  | 17 => .array .int
  | 18 => .int
  | 19 => .int
  | 20 => .int
  | 21 => .array .int
  | 22 => .boolean
  | 23 => .boolean
  | 24 => .int
  | 25 => .array .int
  | 26 => .array .int
  | _ => .int
abbrev wsX50 : List Cond := u_ws RX5 TX5 28
theorem nmX5 : ∀ a, a < 28 → ∀ b, b < 28 → a ≠ b → (TX5 a).2.1 ≠ (TX5 b).2.1 := by decide +kernel
theorem tyX5_ok : ∀ k, k < 28 → parseFieldDescriptor (TX5 k).2.2.1 = some (tyX5 k) := by decide +kernel
abbrev cX5_init : ByteArray := prog_7_method_1_code
def yX5_init : MethodName := ⟨RX5, "<init>", "()V"⟩
abbrev cX5_no : ByteArray := prog_7_method_2_code
def yX5_no : MethodName := ⟨RX5, "no", "(I)I"⟩
abbrev cX5_lowestOf : ByteArray := prog_7_method_3_code
def yX5_lowestOf : MethodName := ⟨RX5, "lowestOf", "(I)J"⟩
abbrev cX5_isIn : ByteArray := prog_7_method_4_code
def yX5_isIn : MethodName := ⟨RX5, "isIn", "(III)Z"⟩
abbrev cX5_bound : ByteArray := prog_7_method_5_code
def yX5_bound : MethodName := ⟨RX5, "bound", "(III)I"⟩
abbrev cX5_held : ByteArray := prog_7_method_6_code
def yX5_held : MethodName := ⟨RX5, "held", "(III)I"⟩
abbrev cX5_has : ByteArray := prog_7_method_7_code
def yX5_has : MethodName := ⟨RX5, "has", "(II)Z"⟩
abbrev cX5_bits : ByteArray := prog_7_method_8_code
def yX5_bits : MethodName := ⟨RX5, "bits", "(I)I"⟩
abbrev cX5_apart : ByteArray := prog_7_method_9_code
def yX5_apart : MethodName := ⟨RX5, "apart", "(II)I"⟩
abbrev cX5_isOne : ByteArray := prog_7_method_10_code
def yX5_isOne : MethodName := ⟨RX5, "isOne", "(I)Z"⟩
abbrev cX5_areTwo : ByteArray := prog_7_method_11_code
def yX5_areTwo : MethodName := ⟨RX5, "areTwo", "(II)Z"⟩
abbrev cX5_isParcel : ByteArray := prog_7_method_12_code
def yX5_isParcel : MethodName := ⟨RX5, "isParcel", "(I)Z"⟩
abbrev cX5_spot : ByteArray := prog_7_method_13_code
def yX5_spot : MethodName := ⟨RX5, "spot", "(II)I"⟩
abbrev cX5_letter : ByteArray := prog_7_method_14_code
def yX5_letter : MethodName := ⟨RX5, "letter", "(I)I"⟩
abbrev cX5_next : ByteArray := prog_7_method_15_code
def yX5_next : MethodName := ⟨RX5, "next", "()I"⟩
abbrev cX5_readsDigits : ByteArray := prog_7_method_16_code
def yX5_readsDigits : MethodName := ⟨RX5, "readsDigits", "(II)Z"⟩
abbrev cX5_kindOf : ByteArray := prog_7_method_17_code
def yX5_kindOf : MethodName := ⟨RX5, "kindOf", "(I)I"⟩
abbrev cX5_readsOne : ByteArray := prog_7_method_18_code
def yX5_readsOne : MethodName := ⟨RX5, "readsOne", "(I)Z"⟩
abbrev cX5_readsAll : ByteArray := prog_7_method_19_code
def yX5_readsAll : MethodName := ⟨RX5, "readsAll", "(II)Z"⟩
abbrev cX5_statement : ByteArray := prog_7_method_20_code
def yX5_statement : MethodName := ⟨RX5, "statement", "()Z"⟩
abbrev cX5_comesOne : ByteArray := prog_7_method_21_code
def yX5_comesOne : MethodName := ⟨RX5, "comesOne", "(III)Z"⟩
abbrev cX5_comesParcel : ByteArray := prog_7_method_22_code
def yX5_comesParcel : MethodName := ⟨RX5, "comesParcel", "(II)Z"⟩
abbrev cX5_comesTwo : ByteArray := prog_7_method_23_code
def yX5_comesTwo : MethodName := ⟨RX5, "comesTwo", "(IIII)Z"⟩
abbrev cX5_comesDays : ByteArray := prog_7_method_24_code
def yX5_comesDays : MethodName := ⟨RX5, "comesDays", "(I)Z"⟩
abbrev cX5_comes : ByteArray := prog_7_method_25_code
def yX5_comes : MethodName := ⟨RX5, "comes", "(I)Z"⟩
abbrev cX5_duchy : ByteArray := prog_7_method_26_code
def yX5_duchy : MethodName := ⟨RX5, "duchy", "()I"⟩
abbrev cX5_passes : ByteArray := prog_7_method_27_code
def yX5_passes : MethodName := ⟨RX5, "passes", "([I)V"⟩
abbrev cX5_passOne : ByteArray := prog_7_method_28_code
def yX5_passOne : MethodName := ⟨RX5, "passOne", "(I)I"⟩
abbrev cX5_passesAll : ByteArray := prog_7_method_29_code
def yX5_passesAll : MethodName := ⟨RX5, "passesAll", "(IZ)V"⟩
abbrev cX5_thinks : ByteArray := prog_7_method_30_code
def yX5_thinks : MethodName := ⟨RX5, "thinks", "()V"⟩
abbrev cX5_forgets : ByteArray := prog_7_method_31_code
def yX5_forgets : MethodName := ⟨RX5, "forgets", "()V"⟩
abbrev cX5_changes : ByteArray := prog_7_method_32_code
def yX5_changes : MethodName := ⟨RX5, "changes", "()V"⟩
abbrev cX5_changesBack : ByteArray := prog_7_method_33_code
def yX5_changesBack : MethodName := ⟨RX5, "changesBack", "()V"⟩
abbrev cX5_image : ByteArray := prog_7_method_34_code
def yX5_image : MethodName := ⟨RX5, "image", "()I"⟩
abbrev cX5_on : ByteArray := prog_7_method_35_code
def yX5_on : MethodName := ⟨RX5, "on", "()I"⟩
abbrev cX5_slighted : ByteArray := prog_7_method_36_code
def yX5_slighted : MethodName := ⟨RX5, "slighted", "(III)V"⟩
abbrev cX5_madeUp : ByteArray := prog_7_method_37_code
def yX5_madeUp : MethodName := ⟨RX5, "madeUp", "(II)V"⟩
abbrev cX5_adds : ByteArray := prog_7_method_38_code
def yX5_adds : MethodName := ⟨RX5, "adds", "(II)V"⟩
abbrev cX5_maliceOf : ByteArray := prog_7_method_39_code
def yX5_maliceOf : MethodName := ⟨RX5, "maliceOf", "(II)I"⟩
abbrev cX5_milesOf : ByteArray := prog_7_method_40_code
def yX5_milesOf : MethodName := ⟨RX5, "milesOf", "(I)I"⟩
abbrev cX5_enemyBut : ByteArray := prog_7_method_41_code
def yX5_enemyBut : MethodName := ⟨RX5, "enemyBut", "(II)I"⟩
abbrev cX5_enemyOf : ByteArray := prog_7_method_42_code
def yX5_enemyOf : MethodName := ⟨RX5, "enemyOf", "(I)I"⟩
abbrev cX5_isCarrying : ByteArray := prog_7_method_43_code
def yX5_isCarrying : MethodName := ⟨RX5, "isCarrying", "(I)Z"⟩
abbrev cX5_comesNearer : ByteArray := prog_7_method_44_code
def yX5_comesNearer : MethodName := ⟨RX5, "comesNearer", "(I)V"⟩
abbrev cX5_isTaken : ByteArray := prog_7_method_45_code
def yX5_isTaken : MethodName := ⟨RX5, "isTaken", "(I)V"⟩
abbrev cX5_goesDay : ByteArray := prog_7_method_46_code
def yX5_goesDay : MethodName := ⟨RX5, "goesDay", "(Z)V"⟩
abbrev cX5_goes : ByteArray := prog_7_method_47_code
def yX5_goes : MethodName := ⟨RX5, "goes", "(I)V"⟩
abbrev cX5_thoseIn : ByteArray := prog_7_method_48_code
def yX5_thoseIn : MethodName := ⟨RX5, "thoseIn", "(I)I"⟩
abbrev cX5_allHate : ByteArray := prog_7_method_49_code
def yX5_allHate : MethodName := ⟨RX5, "allHate", "()I"⟩
abbrev cX5_person : ByteArray := prog_7_method_50_code
def yX5_person : MethodName := ⟨RX5, "person", "(II)I"⟩
abbrev cX5_parcel : ByteArray := prog_7_method_51_code
def yX5_parcel : MethodName := ⟨RX5, "parcel", "(II)I"⟩
abbrev cX5_hate : ByteArray := prog_7_method_52_code
def yX5_hate : MethodName := ⟨RX5, "hate", "(II)I"⟩
abbrev cX5_posts : ByteArray := prog_7_method_53_code
def yX5_posts : MethodName := ⟨RX5, "posts", "(II)I"⟩
abbrev cX5_hates : ByteArray := prog_7_method_54_code
def yX5_hates : MethodName := ⟨RX5, "hates", "(III)I"⟩
abbrev cX5_slights : ByteArray := prog_7_method_55_code
def yX5_slights : MethodName := ⟨RX5, "slights", "(II)I"⟩
abbrev cX5_peace : ByteArray := prog_7_method_56_code
def yX5_peace : MethodName := ⟨RX5, "peace", "(II)I"⟩
abbrev cX5_moves : ByteArray := prog_7_method_57_code
def yX5_moves : MethodName := ⟨RX5, "moves", "(II)I"⟩
abbrev cX5_turn : ByteArray := prog_7_method_58_code
def yX5_turn : MethodName := ⟨RX5, "turn", "(III)I"⟩
abbrev cX5_days : ByteArray := prog_7_method_59_code
def yX5_days : MethodName := ⟨RX5, "days", "(I)I"⟩
abbrev cX5_notDays : ByteArray := prog_7_method_60_code
def yX5_notDays : MethodName := ⟨RX5, "notDays", "(I)I"⟩
abbrev cX5_parcelThen : ByteArray := prog_7_method_61_code
def yX5_parcelThen : MethodName := ⟨RX5, "parcelThen", "(III)I"⟩
abbrev cX5_hateThen : ByteArray := prog_7_method_62_code
def yX5_hateThen : MethodName := ⟨RX5, "hateThen", "(III)I"⟩
abbrev cX5_gotThen : ByteArray := prog_7_method_63_code
def yX5_gotThen : MethodName := ⟨RX5, "gotThen", "(II)I"⟩
abbrev cX5_whenOf : ByteArray := prog_7_method_64_code
def yX5_whenOf : MethodName := ⟨RX5, "whenOf", "(I)I"⟩
abbrev cX5_lateOf : ByteArray := prog_7_method_65_code
def yX5_lateOf : MethodName := ⟨RX5, "lateOf", "(I)I"⟩
abbrev cX5_when : ByteArray := prog_7_method_66_code
def yX5_when : MethodName := ⟨RX5, "when", "(I)I"⟩
abbrev cX5_first : ByteArray := prog_7_method_67_code
def yX5_first : MethodName := ⟨RX5, "first", "(I)I"⟩
abbrev cX5_enemy : ByteArray := prog_7_method_68_code
def yX5_enemy : MethodName := ⟨RX5, "enemy", "(II)I"⟩
abbrev cX5_malice : ByteArray := prog_7_method_69_code
def yX5_malice : MethodName := ⟨RX5, "malice", "(II)I"⟩
abbrev cX5_loved : ByteArray := prog_7_method_70_code
def yX5_loved : MethodName := ⟨RX5, "loved", "()I"⟩
abbrev cX5_enemyOfMany : ByteArray := prog_7_method_71_code
def yX5_enemyOfMany : MethodName := ⟨RX5, "enemyOfMany", "(I)I"⟩
abbrev cX5_busiest : ByteArray := prog_7_method_72_code
def yX5_busiest : MethodName := ⟨RX5, "busiest", "(I)I"⟩
abbrev cX5_ring : ByteArray := prog_7_method_73_code
def yX5_ring : MethodName := ⟨RX5, "ring", "(II)I"⟩
abbrev cX5_lateSlighting : ByteArray := prog_7_method_74_code
def yX5_lateSlighting : MethodName := ⟨RX5, "lateSlighting", "(II)I"⟩
abbrev cX5_slight : ByteArray := prog_7_method_75_code
def yX5_slight : MethodName := ⟨RX5, "slight", "(I)I"⟩
abbrev cX5_bringsIn : ByteArray := prog_7_method_76_code
def yX5_bringsIn : MethodName := ⟨RX5, "bringsIn", "(III)Z"⟩
abbrev cX5_slightsOf : ByteArray := prog_7_method_77_code
def yX5_slightsOf : MethodName := ⟨RX5, "slightsOf", "(II)I"⟩
abbrev cX5_cost : ByteArray := prog_7_method_78_code
def yX5_cost : MethodName := ⟨RX5, "cost", "(II)I"⟩
abbrev cX5_latePeace : ByteArray := prog_7_method_79_code
def yX5_latePeace : MethodName := ⟨RX5, "latePeace", "(II)I"⟩
abbrev cX5_makeUp : ByteArray := prog_7_method_80_code
def yX5_makeUp : MethodName := ⟨RX5, "makeUp", "(I)I"⟩
abbrev cX5_latePosted : ByteArray := prog_7_method_81_code
def yX5_latePosted : MethodName := ⟨RX5, "latePosted", "(II)I"⟩
abbrev cX5_post : ByteArray := prog_7_method_82_code
def yX5_post : MethodName := ⟨RX5, "post", "(II)I"⟩
abbrev cX5_road : ByteArray := prog_7_method_83_code
def yX5_road : MethodName := ⟨RX5, "road", "(II)I"⟩
abbrev cX5_farthest : ByteArray := prog_7_method_84_code
def yX5_farthest : MethodName := ⟨RX5, "farthest", "()I"⟩
abbrev cX5_maliceFor : ByteArray := prog_7_method_85_code
def yX5_maliceFor : MethodName := ⟨RX5, "maliceFor", "(I)I"⟩
abbrev cX5_pairs : ByteArray := prog_7_method_86_code
def yX5_pairs : MethodName := ⟨RX5, "pairs", "()I"⟩
abbrev cX5_fair : ByteArray := prog_7_method_87_code
def yX5_fair : MethodName := ⟨RX5, "fair", "(I)I"⟩
abbrev cX5_broughtTo : ByteArray := prog_7_method_88_code
def yX5_broughtTo : MethodName := ⟨RX5, "broughtTo", "(I)I"⟩
abbrev cX5_findBrought : ByteArray := prog_7_method_89_code
def yX5_findBrought : MethodName := ⟨RX5, "findBrought", "(III)V"⟩
abbrev cX5_two : ByteArray := prog_7_method_90_code
def yX5_two : MethodName := ⟨RX5, "two", "(III)I"⟩
abbrev cX5_divisor : ByteArray := prog_7_method_91_code
def yX5_divisor : MethodName := ⟨RX5, "divisor", "(JJ)J"⟩
abbrev cX5_partOf : ByteArray := prog_7_method_92_code
def yX5_partOf : MethodName := ⟨RX5, "partOf", "(JJI)J"⟩
abbrev cX5_snow : ByteArray := prog_7_method_93_code
def yX5_snow : MethodName := ⟨RX5, "snow", "(IIII)J"⟩
abbrev cX5_mean : ByteArray := prog_7_method_94_code
def yX5_mean : MethodName := ⟨RX5, "mean", "(I)J"⟩
abbrev cX5_isSo : ByteArray := prog_7_method_95_code
def yX5_isSo : MethodName := ⟨RX5, "isSo", "(I)Z"⟩
abbrev cX5_bitsFor : ByteArray := prog_7_method_96_code
def yX5_bitsFor : MethodName := ⟨RX5, "bitsFor", "([IIII)I"⟩
abbrev cX5_who : ByteArray := prog_7_method_97_code
def yX5_who : MethodName := ⟨RX5, "who", "(III)I"⟩
abbrev cX5_row : ByteArray := prog_7_method_98_code
def yX5_row : MethodName := ⟨RX5, "row", "(I)I"⟩
abbrev cX5_judge : ByteArray := prog_7_method_99_code
def yX5_judge : MethodName := ⟨RX5, "judge", "()I"⟩
abbrev cX5_clear : ByteArray := prog_7_method_100_code
def yX5_clear : MethodName := ⟨RX5, "clear", "()I"⟩
abbrev cX5_lots : ByteArray := prog_7_method_101_code
def yX5_lots : MethodName := ⟨RX5, "lots", "(III)I"⟩
abbrev cX5_count : ByteArray := prog_7_method_102_code
def yX5_count : MethodName := ⟨RX5, "count", "(I)I"⟩
def RJ11 : String := "java/lang/Character"
abbrev cJ11_isValidCodePoint_9a6ad : ByteArray := prog_8_method_11_code
def yJ11_isValidCodePoint_9a6ad : MethodName := ⟨RJ11, "isValidCodePoint", "(I)Z"⟩
abbrev cJ11_highSurrogate_5068e : ByteArray := prog_8_method_28_code
def yJ11_highSurrogate_5068e : MethodName := ⟨RJ11, "highSurrogate", "(I)C"⟩
abbrev cJ11_lowSurrogate_5068e : ByteArray := prog_8_method_29_code
def yJ11_lowSurrogate_5068e : MethodName := ⟨RJ11, "lowSurrogate", "(I)C"⟩
def RJ9 : String := "java/lang/Math"
abbrev cJ9_abs_0f7a4 : ByteArray := prog_9_method_59_code
def yJ9_abs_0f7a4 : MethodName := ⟨RJ9, "abs", "(I)I"⟩
abbrev cJ9_max_7cf53 : ByteArray := prog_9_method_65_code
def yJ9_max_7cf53 : MethodName := ⟨RJ9, "max", "(II)I"⟩
abbrev cJ9_min_7cf53 : ByteArray := prog_9_method_69_code
def yJ9_min_7cf53 : MethodName := ⟨RJ9, "min", "(II)I"⟩
def RJ0 : String := "java/lang/String"
abbrev cJ0_length_8abf5 : ByteArray := prog_10_method_54_code
def yJ0_length_8abf5 : MethodName := ⟨RJ0, "length", "()I"⟩
abbrev cJ0_charAt_5068e : ByteArray := prog_10_method_56_code
def yJ0_charAt_5068e : MethodName := ⟨RJ0, "charAt", "(I)C"⟩
abbrev cJ0_indexOf_0f7a4 : ByteArray := prog_10_method_79_code
def yJ0_indexOf_0f7a4 : MethodName := ⟨RJ0, "indexOf", "(I)I"⟩
abbrev cJ0_indexOf_7cf53 : ByteArray := prog_10_method_80_code
def yJ0_indexOf_7cf53 : MethodName := ⟨RJ0, "indexOf", "(II)I"⟩
abbrev cJ0_coder_7d493 : ByteArray := prog_10_method_152_code
def yJ0_coder_7d493 : MethodName := ⟨RJ0, "coder", "()B"⟩
abbrev cJ0_isLatin1_aae02 : ByteArray := prog_10_method_154_code
def yJ0_isLatin1_aae02 : MethodName := ⟨RJ0, "isLatin1", "()Z"⟩
abbrev cJ0_checkIndex_df160 : ByteArray := prog_10_method_155_code
def yJ0_checkIndex_df160 : MethodName := ⟨RJ0, "checkIndex", "(II)V"⟩
abbrev cJ0_checkBoundsBeginEnd_23922 : ByteArray := prog_10_method_158_code
def yJ0_checkBoundsBeginEnd_23922 : MethodName := ⟨RJ0, "checkBoundsBeginEnd", "(III)V"⟩
def RJ1 : String := "java/lang/StringLatin1"
abbrev cJ1_charAt_3b067 : ByteArray := prog_11_method_2_code
def yJ1_charAt_3b067 : MethodName := ⟨RJ1, "charAt", "([BI)C"⟩
abbrev cJ1_canEncode_9a6ad : ByteArray := prog_11_method_4_code
def yJ1_canEncode_9a6ad : MethodName := ⟨RJ1, "canEncode", "(I)Z"⟩
abbrev cJ1_indexOf_4cfef : ByteArray := prog_11_method_22_code
def yJ1_indexOf_4cfef : MethodName := ⟨RJ1, "indexOf", "([BIII)I"⟩
abbrev cJ1_indexOfChar_4cfef : ByteArray := prog_11_method_23_code
def yJ1_indexOfChar_4cfef : MethodName := ⟨RJ1, "indexOfChar", "([BIII)I"⟩
def RJ2 : String := "java/lang/StringUTF16"
abbrev cJ2_getChar_3b067 : ByteArray := prog_12_method_5_code
def yJ2_getChar_3b067 : MethodName := ⟨RJ2, "getChar", "([BI)C"⟩
abbrev cJ2_length_9d52b : ByteArray := prog_12_method_6_code
def yJ2_length_9d52b : MethodName := ⟨RJ2, "length", "([B)I"⟩
abbrev cJ2_indexOf_4cfef : ByteArray := prog_12_method_40_code
def yJ2_indexOf_4cfef : MethodName := ⟨RJ2, "indexOf", "([BIII)I"⟩
abbrev cJ2_indexOfChar_4cfef : ByteArray := prog_12_method_47_code
def yJ2_indexOfChar_4cfef : MethodName := ⟨RJ2, "indexOfChar", "([BIII)I"⟩
abbrev cJ2_indexOfCharUnsafe_4cfef : ByteArray := prog_12_method_48_code
def yJ2_indexOfCharUnsafe_4cfef : MethodName := ⟨RJ2, "indexOfCharUnsafe", "([BIII)I"⟩
abbrev cJ2_indexOfSupplementary_4cfef : ByteArray := prog_12_method_49_code
def yJ2_indexOfSupplementary_4cfef : MethodName := ⟨RJ2, "indexOfSupplementary", "([BIII)I"⟩
abbrev cJ2_charAt_3b067 : ByteArray := prog_12_method_83_code
def yJ2_charAt_3b067 : MethodName := ⟨RJ2, "charAt", "([BI)C"⟩
abbrev cJ2_checkIndex_2214a : ByteArray := prog_12_method_91_code
def yJ2_checkIndex_2214a : MethodName := ⟨RJ2, "checkIndex", "(I[B)V"⟩
abbrev cJ2_checkBoundsBeginEnd_d044e : ByteArray := prog_12_method_93_code
def yJ2_checkBoundsBeginEnd_d044e : MethodName := ⟨RJ2, "checkBoundsBeginEnd", "(II[B)V"⟩
def RJ10 : String := "java/lang/System"
def RJ3 : String := "jdk/internal/util/Preconditions"
abbrev cJ3_checkIndex_8e157 : ByteArray := prog_14_method_11_code
def yJ3_checkIndex_8e157 : MethodName := ⟨RJ3, "checkIndex", "(IILjava/util/function/BiFunction;)I"⟩
abbrev cJ3_checkFromToIndex_8c36e : ByteArray := prog_14_method_12_code
def yJ3_checkFromToIndex_8c36e : MethodName := ⟨RJ3, "checkFromToIndex", "(IIILjava/util/function/BiFunction;)I"⟩
def RL : String := "PostByEnemyLaw"
abbrev cL_law : ByteArray := code
def yL_law : MethodName := ⟨RL, "law", "([I)Z"⟩
abbrev vwCl : List vw_C := [(RX0, TX0, 13), (RX1, TX1, 2), (RX2, TX2, 2), (RX3, TX3, 4), (RX4, TX4, 7), (RX5, TX5, 28)]
