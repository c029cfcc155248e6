theorem dX0_init_0 : decode cX0_init 0 = .ok (.aload_n 0, 1) := by decide +kernel
theorem dX0_init_1 : decode cX0_init 1 = .ok (.invokespecial 3, 3) := by decide +kernel
theorem dX0_init_4 : decode cX0_init 4 = .ok (.aload_n 0, 1) := by decide +kernel
theorem dX0_init_5 : decode cX0_init 5 = .ok (.iconst 0, 1) := by decide +kernel
theorem dX0_init_6 : decode cX0_init 6 = .ok (.putfield 9, 3) := by decide +kernel
theorem dX0_init_9 : decode cX0_init 9 = .ok (.aload_n 0, 1) := by decide +kernel
theorem dX0_init_10 : decode cX0_init 10 = .ok (.iconst 0, 1) := by decide +kernel
theorem dX0_init_11 : decode cX0_init 11 = .ok (.putfield 15, 3) := by decide +kernel
theorem dX0_init_14 : decode cX0_init 14 = .ok (.aload_n 0, 1) := by decide +kernel
theorem dX0_init_15 : decode cX0_init 15 = .ok (.iconst 0, 1) := by decide +kernel
theorem dX0_init_16 : decode cX0_init 16 = .ok (.putfield 18, 3) := by decide +kernel
theorem dX0_init_19 : decode cX0_init 19 = .ok (.aload_n 0, 1) := by decide +kernel
theorem dX0_init_20 : decode cX0_init 20 = .ok (.bipush 6, 2) := by decide +kernel
theorem dX0_init_22 : decode cX0_init 22 = .ok (.newarray .int, 2) := by decide +kernel
theorem dX0_init_24 : decode cX0_init 24 = .ok (.putfield 21, 3) := by decide +kernel
theorem dX0_init_27 : decode cX0_init 27 = .ok (.aload_n 0, 1) := by decide +kernel
theorem dX0_init_28 : decode cX0_init 28 = .ok (.bipush 6, 2) := by decide +kernel
theorem dX0_init_30 : decode cX0_init 30 = .ok (.newarray .int, 2) := by decide +kernel
theorem dX0_init_32 : decode cX0_init 32 = .ok (.putfield 25, 3) := by decide +kernel
theorem dX0_init_35 : decode cX0_init 35 = .ok (.aload_n 0, 1) := by decide +kernel
theorem dX0_init_36 : decode cX0_init 36 = .ok (.bipush 6, 2) := by decide +kernel
theorem dX0_init_38 : decode cX0_init 38 = .ok (.newarray .int, 2) := by decide +kernel
theorem dX0_init_40 : decode cX0_init 40 = .ok (.putfield 28, 3) := by decide +kernel
theorem dX0_init_43 : decode cX0_init 43 = .ok (.aload_n 0, 1) := by decide +kernel
theorem dX0_init_44 : decode cX0_init 44 = .ok (.bipush 6, 2) := by decide +kernel
theorem dX0_init_46 : decode cX0_init 46 = .ok (.newarray .int, 2) := by decide +kernel
theorem dX0_init_48 : decode cX0_init 48 = .ok (.putfield 31, 3) := by decide +kernel
theorem dX0_init_51 : decode cX0_init 51 = .ok (.aload_n 0, 1) := by decide +kernel
theorem dX0_init_52 : decode cX0_init 52 = .ok (.bipush 36, 2) := by decide +kernel
theorem dX0_init_54 : decode cX0_init 54 = .ok (.newarray .int, 2) := by decide +kernel
theorem dX0_init_56 : decode cX0_init 56 = .ok (.putfield 34, 3) := by decide +kernel
theorem dX0_init_59 : decode cX0_init 59 = .ok (.aload_n 0, 1) := by decide +kernel
theorem dX0_init_60 : decode cX0_init 60 = .ok (.bipush 8, 2) := by decide +kernel
theorem dX0_init_62 : decode cX0_init 62 = .ok (.newarray .int, 2) := by decide +kernel
theorem dX0_init_64 : decode cX0_init 64 = .ok (.putfield 37, 3) := by decide +kernel
theorem dX0_init_67 : decode cX0_init 67 = .ok (.aload_n 0, 1) := by decide +kernel
theorem dX0_init_68 : decode cX0_init 68 = .ok (.bipush 8, 2) := by decide +kernel
theorem dX0_init_70 : decode cX0_init 70 = .ok (.newarray .int, 2) := by decide +kernel
theorem dX0_init_72 : decode cX0_init 72 = .ok (.putfield 40, 3) := by decide +kernel
theorem dX0_init_75 : decode cX0_init 75 = .ok (.aload_n 0, 1) := by decide +kernel
theorem dX0_init_76 : decode cX0_init 76 = .ok (.bipush 8, 2) := by decide +kernel
theorem dX0_init_78 : decode cX0_init 78 = .ok (.newarray .int, 2) := by decide +kernel
theorem dX0_init_80 : decode cX0_init 80 = .ok (.putfield 43, 3) := by decide +kernel
theorem dX0_init_83 : decode cX0_init 83 = .ok (.aload_n 0, 1) := by decide +kernel
theorem dX0_init_84 : decode cX0_init 84 = .ok (.bipush 8, 2) := by decide +kernel
theorem dX0_init_86 : decode cX0_init 86 = .ok (.newarray .int, 2) := by decide +kernel
theorem dX0_init_88 : decode cX0_init 88 = .ok (.putfield 46, 3) := by decide +kernel
theorem dX0_init_91 : decode cX0_init 91 = .ok (.aload_n 0, 1) := by decide +kernel
theorem dX0_init_92 : decode cX0_init 92 = .ok (.bipush 8, 2) := by decide +kernel
theorem dX0_init_94 : decode cX0_init 94 = .ok (.newarray .int, 2) := by decide +kernel
theorem dX0_init_96 : decode cX0_init 96 = .ok (.putfield 49, 3) := by decide +kernel
theorem dX0_init_99 : decode cX0_init 99 = .ok (.return_, 1) := by decide +kernel
theorem dX0_become_0 : decode cX0_become 0 = .ok (.aload_n 1, 1) := by decide +kernel
theorem dX0_become_1 : decode cX0_become 1 = .ok (.ifnonnull 4, 3) := by decide +kernel
theorem dX0_become_4 : decode cX0_become 4 = .ok (.return_, 1) := by decide +kernel
theorem dX0_become_5 : decode cX0_become 5 = .ok (.aload_n 0, 1) := by decide +kernel
theorem dX0_become_6 : decode cX0_become 6 = .ok (.aload_n 1, 1) := by decide +kernel
theorem dX0_become_7 : decode cX0_become 7 = .ok (.getfield 9, 3) := by decide +kernel
theorem dX0_become_10 : decode cX0_become 10 = .ok (.putfield 9, 3) := by decide +kernel
theorem dX0_become_13 : decode cX0_become 13 = .ok (.aload_n 0, 1) := by decide +kernel
theorem dX0_become_14 : decode cX0_become 14 = .ok (.aload_n 1, 1) := by decide +kernel
theorem dX0_become_15 : decode cX0_become 15 = .ok (.getfield 15, 3) := by decide +kernel
theorem dX0_become_18 : decode cX0_become 18 = .ok (.putfield 15, 3) := by decide +kernel
theorem dX0_become_21 : decode cX0_become 21 = .ok (.aload_n 0, 1) := by decide +kernel
theorem dX0_become_22 : decode cX0_become 22 = .ok (.aload_n 1, 1) := by decide +kernel
theorem dX0_become_23 : decode cX0_become 23 = .ok (.getfield 18, 3) := by decide +kernel
theorem dX0_become_26 : decode cX0_become 26 = .ok (.putfield 18, 3) := by decide +kernel
theorem dX0_become_29 : decode cX0_become 29 = .ok (.aload_n 1, 1) := by decide +kernel
theorem dX0_become_30 : decode cX0_become 30 = .ok (.getfield 21, 3) := by decide +kernel
theorem dX0_become_33 : decode cX0_become 33 = .ok (.iconst 0, 1) := by decide +kernel
theorem dX0_become_34 : decode cX0_become 34 = .ok (.aload_n 0, 1) := by decide +kernel
theorem dX0_become_35 : decode cX0_become 35 = .ok (.getfield 21, 3) := by decide +kernel
theorem dX0_become_38 : decode cX0_become 38 = .ok (.iconst 0, 1) := by decide +kernel
theorem dX0_become_39 : decode cX0_become 39 = .ok (.bipush 6, 2) := by decide +kernel
theorem dX0_become_41 : decode cX0_become 41 = .ok (.invokestatic 52, 3) := by decide +kernel
theorem dX0_become_44 : decode cX0_become 44 = .ok (.aload_n 1, 1) := by decide +kernel
theorem dX0_become_45 : decode cX0_become 45 = .ok (.getfield 25, 3) := by decide +kernel
theorem dX0_become_48 : decode cX0_become 48 = .ok (.iconst 0, 1) := by decide +kernel
theorem dX0_become_49 : decode cX0_become 49 = .ok (.aload_n 0, 1) := by decide +kernel
theorem dX0_become_50 : decode cX0_become 50 = .ok (.getfield 25, 3) := by decide +kernel
theorem dX0_become_53 : decode cX0_become 53 = .ok (.iconst 0, 1) := by decide +kernel
theorem dX0_become_54 : decode cX0_become 54 = .ok (.bipush 6, 2) := by decide +kernel
theorem dX0_become_56 : decode cX0_become 56 = .ok (.invokestatic 52, 3) := by decide +kernel
theorem dX0_become_59 : decode cX0_become 59 = .ok (.aload_n 1, 1) := by decide +kernel
theorem dX0_become_60 : decode cX0_become 60 = .ok (.getfield 28, 3) := by decide +kernel
theorem dX0_become_63 : decode cX0_become 63 = .ok (.iconst 0, 1) := by decide +kernel
theorem dX0_become_64 : decode cX0_become 64 = .ok (.aload_n 0, 1) := by decide +kernel
theorem dX0_become_65 : decode cX0_become 65 = .ok (.getfield 28, 3) := by decide +kernel
theorem dX0_become_68 : decode cX0_become 68 = .ok (.iconst 0, 1) := by decide +kernel
theorem dX0_become_69 : decode cX0_become 69 = .ok (.bipush 6, 2) := by decide +kernel
theorem dX0_become_71 : decode cX0_become 71 = .ok (.invokestatic 52, 3) := by decide +kernel
theorem dX0_become_74 : decode cX0_become 74 = .ok (.aload_n 1, 1) := by decide +kernel
theorem dX0_become_75 : decode cX0_become 75 = .ok (.getfield 31, 3) := by decide +kernel
theorem dX0_become_78 : decode cX0_become 78 = .ok (.iconst 0, 1) := by decide +kernel
theorem dX0_become_79 : decode cX0_become 79 = .ok (.aload_n 0, 1) := by decide +kernel
theorem dX0_become_80 : decode cX0_become 80 = .ok (.getfield 31, 3) := by decide +kernel
theorem dX0_become_83 : decode cX0_become 83 = .ok (.iconst 0, 1) := by decide +kernel
theorem dX0_become_84 : decode cX0_become 84 = .ok (.bipush 6, 2) := by decide +kernel
theorem dX0_become_86 : decode cX0_become 86 = .ok (.invokestatic 52, 3) := by decide +kernel
theorem dX0_become_89 : decode cX0_become 89 = .ok (.aload_n 1, 1) := by decide +kernel
theorem dX0_become_90 : decode cX0_become 90 = .ok (.getfield 34, 3) := by decide +kernel
theorem dX0_become_93 : decode cX0_become 93 = .ok (.iconst 0, 1) := by decide +kernel
theorem dX0_become_94 : decode cX0_become 94 = .ok (.aload_n 0, 1) := by decide +kernel
theorem dX0_become_95 : decode cX0_become 95 = .ok (.getfield 34, 3) := by decide +kernel
theorem dX0_become_98 : decode cX0_become 98 = .ok (.iconst 0, 1) := by decide +kernel
theorem dX0_become_99 : decode cX0_become 99 = .ok (.bipush 36, 2) := by decide +kernel
theorem dX0_become_101 : decode cX0_become 101 = .ok (.invokestatic 52, 3) := by decide +kernel
theorem dX0_become_104 : decode cX0_become 104 = .ok (.aload_n 1, 1) := by decide +kernel
theorem dX0_become_105 : decode cX0_become 105 = .ok (.getfield 37, 3) := by decide +kernel
theorem dX0_become_108 : decode cX0_become 108 = .ok (.iconst 0, 1) := by decide +kernel
theorem dX0_become_109 : decode cX0_become 109 = .ok (.aload_n 0, 1) := by decide +kernel
theorem dX0_become_110 : decode cX0_become 110 = .ok (.getfield 37, 3) := by decide +kernel
theorem dX0_become_113 : decode cX0_become 113 = .ok (.iconst 0, 1) := by decide +kernel
theorem dX0_become_114 : decode cX0_become 114 = .ok (.bipush 8, 2) := by decide +kernel
theorem dX0_become_116 : decode cX0_become 116 = .ok (.invokestatic 52, 3) := by decide +kernel
theorem dX0_become_119 : decode cX0_become 119 = .ok (.aload_n 1, 1) := by decide +kernel
theorem dX0_become_120 : decode cX0_become 120 = .ok (.getfield 40, 3) := by decide +kernel
theorem dX0_become_123 : decode cX0_become 123 = .ok (.iconst 0, 1) := by decide +kernel
theorem dX0_become_124 : decode cX0_become 124 = .ok (.aload_n 0, 1) := by decide +kernel
theorem dX0_become_125 : decode cX0_become 125 = .ok (.getfield 40, 3) := by decide +kernel
theorem dX0_become_128 : decode cX0_become 128 = .ok (.iconst 0, 1) := by decide +kernel
theorem dX0_become_129 : decode cX0_become 129 = .ok (.bipush 8, 2) := by decide +kernel
theorem dX0_become_131 : decode cX0_become 131 = .ok (.invokestatic 52, 3) := by decide +kernel
theorem dX0_become_134 : decode cX0_become 134 = .ok (.aload_n 1, 1) := by decide +kernel
theorem dX0_become_135 : decode cX0_become 135 = .ok (.getfield 43, 3) := by decide +kernel
theorem dX0_become_138 : decode cX0_become 138 = .ok (.iconst 0, 1) := by decide +kernel
theorem dX0_become_139 : decode cX0_become 139 = .ok (.aload_n 0, 1) := by decide +kernel
theorem dX0_become_140 : decode cX0_become 140 = .ok (.getfield 43, 3) := by decide +kernel
theorem dX0_become_143 : decode cX0_become 143 = .ok (.iconst 0, 1) := by decide +kernel
theorem dX0_become_144 : decode cX0_become 144 = .ok (.bipush 8, 2) := by decide +kernel
theorem dX0_become_146 : decode cX0_become 146 = .ok (.invokestatic 52, 3) := by decide +kernel
theorem dX0_become_149 : decode cX0_become 149 = .ok (.aload_n 1, 1) := by decide +kernel
theorem dX0_become_150 : decode cX0_become 150 = .ok (.getfield 46, 3) := by decide +kernel
theorem dX0_become_153 : decode cX0_become 153 = .ok (.iconst 0, 1) := by decide +kernel
theorem dX0_become_154 : decode cX0_become 154 = .ok (.aload_n 0, 1) := by decide +kernel
theorem dX0_become_155 : decode cX0_become 155 = .ok (.getfield 46, 3) := by decide +kernel
theorem dX0_become_158 : decode cX0_become 158 = .ok (.iconst 0, 1) := by decide +kernel
theorem dX0_become_159 : decode cX0_become 159 = .ok (.bipush 8, 2) := by decide +kernel
theorem dX0_become_161 : decode cX0_become 161 = .ok (.invokestatic 52, 3) := by decide +kernel
theorem dX0_become_164 : decode cX0_become 164 = .ok (.aload_n 1, 1) := by decide +kernel
theorem dX0_become_165 : decode cX0_become 165 = .ok (.getfield 49, 3) := by decide +kernel
theorem dX0_become_168 : decode cX0_become 168 = .ok (.iconst 0, 1) := by decide +kernel
theorem dX0_become_169 : decode cX0_become 169 = .ok (.aload_n 0, 1) := by decide +kernel
theorem dX0_become_170 : decode cX0_become 170 = .ok (.getfield 49, 3) := by decide +kernel
theorem dX0_become_173 : decode cX0_become 173 = .ok (.iconst 0, 1) := by decide +kernel
theorem dX0_become_174 : decode cX0_become 174 = .ok (.bipush 8, 2) := by decide +kernel
theorem dX0_become_176 : decode cX0_become 176 = .ok (.invokestatic 52, 3) := by decide +kernel
theorem dX0_become_179 : decode cX0_become 179 = .ok (.return_, 1) := by decide +kernel
theorem dX0_hasPerson_0 : decode cX0_hasPerson 0 = .ok (.iload_n 1, 1) := by decide +kernel
theorem dX0_hasPerson_1 : decode cX0_hasPerson 1 = .ok (.ifCond .lt 15, 3) := by decide +kernel
theorem dX0_hasPerson_4 : decode cX0_hasPerson 4 = .ok (.iload_n 1, 1) := by decide +kernel
theorem dX0_hasPerson_5 : decode cX0_hasPerson 5 = .ok (.aload_n 0, 1) := by decide +kernel
theorem dX0_hasPerson_6 : decode cX0_hasPerson 6 = .ok (.getfield 9, 3) := by decide +kernel
theorem dX0_hasPerson_9 : decode cX0_hasPerson 9 = .ok (.if_icmp .ge 7, 3) := by decide +kernel
theorem dX0_hasPerson_12 : decode cX0_hasPerson 12 = .ok (.iconst 1, 1) := by decide +kernel
theorem dX0_hasPerson_13 : decode cX0_hasPerson 13 = .ok (.goto 4, 3) := by decide +kernel
theorem dX0_hasPerson_16 : decode cX0_hasPerson 16 = .ok (.iconst 0, 1) := by decide +kernel
theorem dX0_hasPerson_17 : decode cX0_hasPerson 17 = .ok (.ireturn, 1) := by decide +kernel
theorem dX0_hasPair_0 : decode cX0_hasPair 0 = .ok (.iload_n 1, 1) := by decide +kernel
theorem dX0_hasPair_1 : decode cX0_hasPair 1 = .ok (.ifCond .lt 32, 3) := by decide +kernel
theorem dX0_hasPair_4 : decode cX0_hasPair 4 = .ok (.iload_n 1, 1) := by decide +kernel
theorem dX0_hasPair_5 : decode cX0_hasPair 5 = .ok (.aload_n 0, 1) := by decide +kernel
theorem dX0_hasPair_6 : decode cX0_hasPair 6 = .ok (.getfield 9, 3) := by decide +kernel
theorem dX0_hasPair_9 : decode cX0_hasPair 9 = .ok (.if_icmp .ge 24, 3) := by decide +kernel
theorem dX0_hasPair_12 : decode cX0_hasPair 12 = .ok (.iload_n 2, 1) := by decide +kernel
theorem dX0_hasPair_13 : decode cX0_hasPair 13 = .ok (.ifCond .lt 20, 3) := by decide +kernel
theorem dX0_hasPair_16 : decode cX0_hasPair 16 = .ok (.iload_n 2, 1) := by decide +kernel
theorem dX0_hasPair_17 : decode cX0_hasPair 17 = .ok (.aload_n 0, 1) := by decide +kernel
theorem dX0_hasPair_18 : decode cX0_hasPair 18 = .ok (.getfield 9, 3) := by decide +kernel
theorem dX0_hasPair_21 : decode cX0_hasPair 21 = .ok (.if_icmp .ge 12, 3) := by decide +kernel
theorem dX0_hasPair_24 : decode cX0_hasPair 24 = .ok (.iload_n 1, 1) := by decide +kernel
theorem dX0_hasPair_25 : decode cX0_hasPair 25 = .ok (.iload_n 2, 1) := by decide +kernel
theorem dX0_hasPair_26 : decode cX0_hasPair 26 = .ok (.if_icmp .eq 7, 3) := by decide +kernel
theorem dX0_hasPair_29 : decode cX0_hasPair 29 = .ok (.iconst 1, 1) := by decide +kernel
theorem dX0_hasPair_30 : decode cX0_hasPair 30 = .ok (.goto 4, 3) := by decide +kernel
theorem dX0_hasPair_33 : decode cX0_hasPair 33 = .ok (.iconst 0, 1) := by decide +kernel
theorem dX0_hasPair_34 : decode cX0_hasPair 34 = .ok (.ireturn, 1) := by decide +kernel
theorem dX0_hasParcel_0 : decode cX0_hasParcel 0 = .ok (.iload_n 1, 1) := by decide +kernel
theorem dX0_hasParcel_1 : decode cX0_hasParcel 1 = .ok (.ifCond .lt 15, 3) := by decide +kernel
theorem dX0_hasParcel_4 : decode cX0_hasParcel 4 = .ok (.iload_n 1, 1) := by decide +kernel
theorem dX0_hasParcel_5 : decode cX0_hasParcel 5 = .ok (.aload_n 0, 1) := by decide +kernel
theorem dX0_hasParcel_6 : decode cX0_hasParcel 6 = .ok (.getfield 15, 3) := by decide +kernel
theorem dX0_hasParcel_9 : decode cX0_hasParcel 9 = .ok (.if_icmp .ge 7, 3) := by decide +kernel
theorem dX0_hasParcel_12 : decode cX0_hasParcel 12 = .ok (.iconst 1, 1) := by decide +kernel
theorem dX0_hasParcel_13 : decode cX0_hasParcel 13 = .ok (.goto 4, 3) := by decide +kernel
theorem dX0_hasParcel_16 : decode cX0_hasParcel 16 = .ok (.iconst 0, 1) := by decide +kernel
theorem dX0_hasParcel_17 : decode cX0_hasParcel 17 = .ok (.ireturn, 1) := by decide +kernel
theorem dX0_addPerson_0 : decode cX0_addPerson 0 = .ok (.aload_n 0, 1) := by decide +kernel
theorem dX0_addPerson_1 : decode cX0_addPerson 1 = .ok (.getfield 9, 3) := by decide +kernel
theorem dX0_addPerson_4 : decode cX0_addPerson 4 = .ok (.ifCond .lt 18, 3) := by decide +kernel
theorem dX0_addPerson_7 : decode cX0_addPerson 7 = .ok (.aload_n 0, 1) := by decide +kernel
theorem dX0_addPerson_8 : decode cX0_addPerson 8 = .ok (.getfield 9, 3) := by decide +kernel
theorem dX0_addPerson_11 : decode cX0_addPerson 11 = .ok (.bipush 6, 2) := by decide +kernel
theorem dX0_addPerson_13 : decode cX0_addPerson 13 = .ok (.if_icmp .ge 9, 3) := by decide +kernel
theorem dX0_addPerson_16 : decode cX0_addPerson 16 = .ok (.iload_n 3, 1) := by decide +kernel
theorem dX0_addPerson_17 : decode cX0_addPerson 17 = .ok (.bipush 30, 2) := by decide +kernel
theorem dX0_addPerson_19 : decode cX0_addPerson 19 = .ok (.if_icmp .le 5, 3) := by decide +kernel
theorem dX0_addPerson_22 : decode cX0_addPerson 22 = .ok (.iconst 0, 1) := by decide +kernel
theorem dX0_addPerson_23 : decode cX0_addPerson 23 = .ok (.ireturn, 1) := by decide +kernel
theorem dX0_addPerson_24 : decode cX0_addPerson 24 = .ok (.aload_n 0, 1) := by decide +kernel
theorem dX0_addPerson_25 : decode cX0_addPerson 25 = .ok (.getfield 21, 3) := by decide +kernel
theorem dX0_addPerson_28 : decode cX0_addPerson 28 = .ok (.aload_n 0, 1) := by decide +kernel
theorem dX0_addPerson_29 : decode cX0_addPerson 29 = .ok (.getfield 9, 3) := by decide +kernel
theorem dX0_addPerson_32 : decode cX0_addPerson 32 = .ok (.iload_n 1, 1) := by decide +kernel
theorem dX0_addPerson_33 : decode cX0_addPerson 33 = .ok (.iastore, 1) := by decide +kernel
theorem dX0_addPerson_34 : decode cX0_addPerson 34 = .ok (.aload_n 0, 1) := by decide +kernel
theorem dX0_addPerson_35 : decode cX0_addPerson 35 = .ok (.getfield 25, 3) := by decide +kernel
theorem dX0_addPerson_38 : decode cX0_addPerson 38 = .ok (.aload_n 0, 1) := by decide +kernel
theorem dX0_addPerson_39 : decode cX0_addPerson 39 = .ok (.getfield 9, 3) := by decide +kernel
theorem dX0_addPerson_42 : decode cX0_addPerson 42 = .ok (.iload_n 2, 1) := by decide +kernel
theorem dX0_addPerson_43 : decode cX0_addPerson 43 = .ok (.iastore, 1) := by decide +kernel
theorem dX0_addPerson_44 : decode cX0_addPerson 44 = .ok (.aload_n 0, 1) := by decide +kernel
theorem dX0_addPerson_45 : decode cX0_addPerson 45 = .ok (.getfield 28, 3) := by decide +kernel
theorem dX0_addPerson_48 : decode cX0_addPerson 48 = .ok (.aload_n 0, 1) := by decide +kernel
theorem dX0_addPerson_49 : decode cX0_addPerson 49 = .ok (.getfield 9, 3) := by decide +kernel
theorem dX0_addPerson_52 : decode cX0_addPerson 52 = .ok (.iload_n 3, 1) := by decide +kernel
theorem dX0_addPerson_53 : decode cX0_addPerson 53 = .ok (.iastore, 1) := by decide +kernel
theorem dX0_addPerson_54 : decode cX0_addPerson 54 = .ok (.aload_n 0, 1) := by decide +kernel
theorem dX0_addPerson_55 : decode cX0_addPerson 55 = .ok (.getfield 31, 3) := by decide +kernel
theorem dX0_addPerson_58 : decode cX0_addPerson 58 = .ok (.aload_n 0, 1) := by decide +kernel
theorem dX0_addPerson_59 : decode cX0_addPerson 59 = .ok (.getfield 9, 3) := by decide +kernel
theorem dX0_addPerson_62 : decode cX0_addPerson 62 = .ok (.iconst 0, 1) := by decide +kernel
theorem dX0_addPerson_63 : decode cX0_addPerson 63 = .ok (.iastore, 1) := by decide +kernel
theorem dX0_addPerson_64 : decode cX0_addPerson 64 = .ok (.aload_n 0, 1) := by decide +kernel
theorem dX0_addPerson_65 : decode cX0_addPerson 65 = .ok (.dup, 1) := by decide +kernel
theorem dX0_addPerson_66 : decode cX0_addPerson 66 = .ok (.getfield 9, 3) := by decide +kernel
theorem dX0_addPerson_69 : decode cX0_addPerson 69 = .ok (.iconst 1, 1) := by decide +kernel
theorem dX0_addPerson_70 : decode cX0_addPerson 70 = .ok (.iadd, 1) := by decide +kernel
theorem dX0_addPerson_71 : decode cX0_addPerson 71 = .ok (.putfield 9, 3) := by decide +kernel
theorem dX0_addPerson_74 : decode cX0_addPerson 74 = .ok (.iconst 1, 1) := by decide +kernel
theorem dX0_addPerson_75 : decode cX0_addPerson 75 = .ok (.ireturn, 1) := by decide +kernel
theorem dX0_addParcel_0 : decode cX0_addParcel 0 = .ok (.aload_n 0, 1) := by decide +kernel
theorem dX0_addParcel_1 : decode cX0_addParcel 1 = .ok (.getfield 15, 3) := by decide +kernel
theorem dX0_addParcel_4 : decode cX0_addParcel 4 = .ok (.ifCond .lt 20, 3) := by decide +kernel
theorem dX0_addParcel_7 : decode cX0_addParcel 7 = .ok (.aload_n 0, 1) := by decide +kernel
theorem dX0_addParcel_8 : decode cX0_addParcel 8 = .ok (.getfield 15, 3) := by decide +kernel
theorem dX0_addParcel_11 : decode cX0_addParcel 11 = .ok (.bipush 8, 2) := by decide +kernel
theorem dX0_addParcel_13 : decode cX0_addParcel 13 = .ok (.if_icmp .ge 11, 3) := by decide +kernel
theorem dX0_addParcel_16 : decode cX0_addParcel 16 = .ok (.aload_n 0, 1) := by decide +kernel
theorem dX0_addParcel_17 : decode cX0_addParcel 17 = .ok (.iload_n 1, 1) := by decide +kernel
theorem dX0_addParcel_18 : decode cX0_addParcel 18 = .ok (.invokevirtual 58, 3) := by decide +kernel
theorem dX0_addParcel_21 : decode cX0_addParcel 21 = .ok (.ifCond .ne 5, 3) := by decide +kernel
theorem dX0_addParcel_24 : decode cX0_addParcel 24 = .ok (.iconst 0, 1) := by decide +kernel
theorem dX0_addParcel_25 : decode cX0_addParcel 25 = .ok (.ireturn, 1) := by decide +kernel
theorem dX0_addParcel_26 : decode cX0_addParcel 26 = .ok (.aload_n 0, 1) := by decide +kernel
theorem dX0_addParcel_27 : decode cX0_addParcel 27 = .ok (.getfield 37, 3) := by decide +kernel
theorem dX0_addParcel_30 : decode cX0_addParcel 30 = .ok (.aload_n 0, 1) := by decide +kernel
theorem dX0_addParcel_31 : decode cX0_addParcel 31 = .ok (.getfield 15, 3) := by decide +kernel
theorem dX0_addParcel_34 : decode cX0_addParcel 34 = .ok (.iload_n 1, 1) := by decide +kernel
theorem dX0_addParcel_35 : decode cX0_addParcel 35 = .ok (.iastore, 1) := by decide +kernel
theorem dX0_addParcel_36 : decode cX0_addParcel 36 = .ok (.aload_n 0, 1) := by decide +kernel
theorem dX0_addParcel_37 : decode cX0_addParcel 37 = .ok (.getfield 40, 3) := by decide +kernel
theorem dX0_addParcel_40 : decode cX0_addParcel 40 = .ok (.aload_n 0, 1) := by decide +kernel
theorem dX0_addParcel_41 : decode cX0_addParcel 41 = .ok (.getfield 15, 3) := by decide +kernel
theorem dX0_addParcel_44 : decode cX0_addParcel 44 = .ok (.iload_n 2, 1) := by decide +kernel
theorem dX0_addParcel_45 : decode cX0_addParcel 45 = .ok (.iastore, 1) := by decide +kernel
theorem dX0_addParcel_46 : decode cX0_addParcel 46 = .ok (.aload_n 0, 1) := by decide +kernel
theorem dX0_addParcel_47 : decode cX0_addParcel 47 = .ok (.getfield 43, 3) := by decide +kernel
theorem dX0_addParcel_50 : decode cX0_addParcel 50 = .ok (.aload_n 0, 1) := by decide +kernel
theorem dX0_addParcel_51 : decode cX0_addParcel 51 = .ok (.getfield 15, 3) := by decide +kernel
theorem dX0_addParcel_54 : decode cX0_addParcel 54 = .ok (.iconst 0, 1) := by decide +kernel
theorem dX0_addParcel_55 : decode cX0_addParcel 55 = .ok (.iastore, 1) := by decide +kernel
theorem dX0_addParcel_56 : decode cX0_addParcel 56 = .ok (.aload_n 0, 1) := by decide +kernel
theorem dX0_addParcel_57 : decode cX0_addParcel 57 = .ok (.getfield 46, 3) := by decide +kernel
theorem dX0_addParcel_60 : decode cX0_addParcel 60 = .ok (.aload_n 0, 1) := by decide +kernel
theorem dX0_addParcel_61 : decode cX0_addParcel 61 = .ok (.getfield 15, 3) := by decide +kernel
theorem dX0_addParcel_64 : decode cX0_addParcel 64 = .ok (.bipush (-9), 2) := by decide +kernel
theorem dX0_addParcel_66 : decode cX0_addParcel 66 = .ok (.iastore, 1) := by decide +kernel
theorem dX0_addParcel_67 : decode cX0_addParcel 67 = .ok (.aload_n 0, 1) := by decide +kernel
theorem dX0_addParcel_68 : decode cX0_addParcel 68 = .ok (.getfield 49, 3) := by decide +kernel
theorem dX0_addParcel_71 : decode cX0_addParcel 71 = .ok (.aload_n 0, 1) := by decide +kernel
theorem dX0_addParcel_72 : decode cX0_addParcel 72 = .ok (.getfield 15, 3) := by decide +kernel
theorem dX0_addParcel_75 : decode cX0_addParcel 75 = .ok (.iconst 0, 1) := by decide +kernel
theorem dX0_addParcel_76 : decode cX0_addParcel 76 = .ok (.iastore, 1) := by decide +kernel
theorem dX0_addParcel_77 : decode cX0_addParcel 77 = .ok (.aload_n 0, 1) := by decide +kernel
theorem dX0_addParcel_78 : decode cX0_addParcel 78 = .ok (.dup, 1) := by decide +kernel
theorem dX0_addParcel_79 : decode cX0_addParcel 79 = .ok (.getfield 15, 3) := by decide +kernel
theorem dX0_addParcel_82 : decode cX0_addParcel 82 = .ok (.iconst 1, 1) := by decide +kernel
theorem dX0_addParcel_83 : decode cX0_addParcel 83 = .ok (.iadd, 1) := by decide +kernel
theorem dX0_addParcel_84 : decode cX0_addParcel 84 = .ok (.putfield 15, 3) := by decide +kernel
theorem dX0_addParcel_87 : decode cX0_addParcel 87 = .ok (.iconst 1, 1) := by decide +kernel
theorem dX0_addParcel_88 : decode cX0_addParcel 88 = .ok (.ireturn, 1) := by decide +kernel
theorem dX0_ofPerson_0 : decode cX0_ofPerson 0 = .ok (.aload_n 0, 1) := by decide +kernel
theorem dX0_ofPerson_1 : decode cX0_ofPerson 1 = .ok (.iload_n 1, 1) := by decide +kernel
theorem dX0_ofPerson_2 : decode cX0_ofPerson 2 = .ok (.invokevirtual 58, 3) := by decide +kernel
theorem dX0_ofPerson_5 : decode cX0_ofPerson 5 = .ok (.ifCond .ne 6, 3) := by decide +kernel
theorem dX0_ofPerson_8 : decode cX0_ofPerson 8 = .ok (.bipush (-9), 2) := by decide +kernel
theorem dX0_ofPerson_10 : decode cX0_ofPerson 10 = .ok (.ireturn, 1) := by decide +kernel
theorem dX0_ofPerson_11 : decode cX0_ofPerson 11 = .ok (.iload_n 2, 1) := by decide +kernel
theorem dX0_ofPerson_12 : decode cX0_ofPerson 12 = .ok (.tableswitch 74 0 4 #[36, 43, 50, 57, 64], 36) := by decide +kernel
theorem dX0_ofPerson_48 : decode cX0_ofPerson 48 = .ok (.aload_n 0, 1) := by decide +kernel
theorem dX0_ofPerson_49 : decode cX0_ofPerson 49 = .ok (.getfield 21, 3) := by decide +kernel
theorem dX0_ofPerson_52 : decode cX0_ofPerson 52 = .ok (.iload_n 1, 1) := by decide +kernel
theorem dX0_ofPerson_53 : decode cX0_ofPerson 53 = .ok (.iaload, 1) := by decide +kernel
theorem dX0_ofPerson_54 : decode cX0_ofPerson 54 = .ok (.ireturn, 1) := by decide +kernel
theorem dX0_ofPerson_55 : decode cX0_ofPerson 55 = .ok (.aload_n 0, 1) := by decide +kernel
theorem dX0_ofPerson_56 : decode cX0_ofPerson 56 = .ok (.getfield 25, 3) := by decide +kernel
theorem dX0_ofPerson_59 : decode cX0_ofPerson 59 = .ok (.iload_n 1, 1) := by decide +kernel
theorem dX0_ofPerson_60 : decode cX0_ofPerson 60 = .ok (.iaload, 1) := by decide +kernel
theorem dX0_ofPerson_61 : decode cX0_ofPerson 61 = .ok (.ireturn, 1) := by decide +kernel
theorem dX0_ofPerson_62 : decode cX0_ofPerson 62 = .ok (.aload_n 0, 1) := by decide +kernel
theorem dX0_ofPerson_63 : decode cX0_ofPerson 63 = .ok (.getfield 28, 3) := by decide +kernel
theorem dX0_ofPerson_66 : decode cX0_ofPerson 66 = .ok (.iload_n 1, 1) := by decide +kernel
theorem dX0_ofPerson_67 : decode cX0_ofPerson 67 = .ok (.iaload, 1) := by decide +kernel
theorem dX0_ofPerson_68 : decode cX0_ofPerson 68 = .ok (.ireturn, 1) := by decide +kernel
theorem dX0_ofPerson_69 : decode cX0_ofPerson 69 = .ok (.aload_n 0, 1) := by decide +kernel
theorem dX0_ofPerson_70 : decode cX0_ofPerson 70 = .ok (.getfield 31, 3) := by decide +kernel
theorem dX0_ofPerson_73 : decode cX0_ofPerson 73 = .ok (.iload_n 1, 1) := by decide +kernel
theorem dX0_ofPerson_74 : decode cX0_ofPerson 74 = .ok (.iaload, 1) := by decide +kernel
theorem dX0_ofPerson_75 : decode cX0_ofPerson 75 = .ok (.ireturn, 1) := by decide +kernel
theorem dX0_ofPerson_76 : decode cX0_ofPerson 76 = .ok (.aload_n 0, 1) := by decide +kernel
theorem dX0_ofPerson_77 : decode cX0_ofPerson 77 = .ok (.getfield 21, 3) := by decide +kernel
theorem dX0_ofPerson_80 : decode cX0_ofPerson 80 = .ok (.iload_n 1, 1) := by decide +kernel
theorem dX0_ofPerson_81 : decode cX0_ofPerson 81 = .ok (.iaload, 1) := by decide +kernel
theorem dX0_ofPerson_82 : decode cX0_ofPerson 82 = .ok (.invokestatic 62, 3) := by decide +kernel
theorem dX0_ofPerson_85 : decode cX0_ofPerson 85 = .ok (.ireturn, 1) := by decide +kernel
theorem dX0_ofPerson_86 : decode cX0_ofPerson 86 = .ok (.aload_n 0, 1) := by decide +kernel
theorem dX0_ofPerson_87 : decode cX0_ofPerson 87 = .ok (.iload_n 1, 1) := by decide +kernel
theorem dX0_ofPerson_88 : decode cX0_ofPerson 88 = .ok (.invokevirtual 66, 3) := by decide +kernel
theorem dX0_ofPerson_91 : decode cX0_ofPerson 91 = .ok (.ifCond .eq 7, 3) := by decide +kernel
theorem dX0_ofPerson_94 : decode cX0_ofPerson 94 = .ok (.iconst 1, 1) := by decide +kernel
theorem dX0_ofPerson_95 : decode cX0_ofPerson 95 = .ok (.goto 4, 3) := by decide +kernel
theorem dX0_ofPerson_98 : decode cX0_ofPerson 98 = .ok (.iconst 0, 1) := by decide +kernel
theorem dX0_ofPerson_99 : decode cX0_ofPerson 99 = .ok (.ireturn, 1) := by decide +kernel
theorem dX0_ofParcel_0 : decode cX0_ofParcel 0 = .ok (.aload_n 0, 1) := by decide +kernel
theorem dX0_ofParcel_1 : decode cX0_ofParcel 1 = .ok (.iload_n 1, 1) := by decide +kernel
theorem dX0_ofParcel_2 : decode cX0_ofParcel 2 = .ok (.invokevirtual 69, 3) := by decide +kernel
theorem dX0_ofParcel_5 : decode cX0_ofParcel 5 = .ok (.ifCond .ne 6, 3) := by decide +kernel
theorem dX0_ofParcel_8 : decode cX0_ofParcel 8 = .ok (.bipush (-9), 2) := by decide +kernel
theorem dX0_ofParcel_10 : decode cX0_ofParcel 10 = .ok (.ireturn, 1) := by decide +kernel
theorem dX0_ofParcel_11 : decode cX0_ofParcel 11 = .ok (.iload_n 2, 1) := by decide +kernel
theorem dX0_ofParcel_12 : decode cX0_ofParcel 12 = .ok (.tableswitch 60 0 3 #[32, 39, 46, 53], 32) := by decide +kernel
theorem dX0_ofParcel_44 : decode cX0_ofParcel 44 = .ok (.aload_n 0, 1) := by decide +kernel
theorem dX0_ofParcel_45 : decode cX0_ofParcel 45 = .ok (.getfield 37, 3) := by decide +kernel
theorem dX0_ofParcel_48 : decode cX0_ofParcel 48 = .ok (.iload_n 1, 1) := by decide +kernel
theorem dX0_ofParcel_49 : decode cX0_ofParcel 49 = .ok (.iaload, 1) := by decide +kernel
theorem dX0_ofParcel_50 : decode cX0_ofParcel 50 = .ok (.ireturn, 1) := by decide +kernel
theorem dX0_ofParcel_51 : decode cX0_ofParcel 51 = .ok (.aload_n 0, 1) := by decide +kernel
theorem dX0_ofParcel_52 : decode cX0_ofParcel 52 = .ok (.getfield 40, 3) := by decide +kernel
theorem dX0_ofParcel_55 : decode cX0_ofParcel 55 = .ok (.iload_n 1, 1) := by decide +kernel
theorem dX0_ofParcel_56 : decode cX0_ofParcel 56 = .ok (.iaload, 1) := by decide +kernel
theorem dX0_ofParcel_57 : decode cX0_ofParcel 57 = .ok (.ireturn, 1) := by decide +kernel
theorem dX0_ofParcel_58 : decode cX0_ofParcel 58 = .ok (.aload_n 0, 1) := by decide +kernel
theorem dX0_ofParcel_59 : decode cX0_ofParcel 59 = .ok (.getfield 43, 3) := by decide +kernel
theorem dX0_ofParcel_62 : decode cX0_ofParcel 62 = .ok (.iload_n 1, 1) := by decide +kernel
theorem dX0_ofParcel_63 : decode cX0_ofParcel 63 = .ok (.iaload, 1) := by decide +kernel
theorem dX0_ofParcel_64 : decode cX0_ofParcel 64 = .ok (.ireturn, 1) := by decide +kernel
theorem dX0_ofParcel_65 : decode cX0_ofParcel 65 = .ok (.aload_n 0, 1) := by decide +kernel
theorem dX0_ofParcel_66 : decode cX0_ofParcel 66 = .ok (.getfield 49, 3) := by decide +kernel
theorem dX0_ofParcel_69 : decode cX0_ofParcel 69 = .ok (.iload_n 1, 1) := by decide +kernel
theorem dX0_ofParcel_70 : decode cX0_ofParcel 70 = .ok (.iaload, 1) := by decide +kernel
theorem dX0_ofParcel_71 : decode cX0_ofParcel 71 = .ok (.ireturn, 1) := by decide +kernel
theorem dX0_ofParcel_72 : decode cX0_ofParcel 72 = .ok (.aload_n 0, 1) := by decide +kernel
theorem dX0_ofParcel_73 : decode cX0_ofParcel 73 = .ok (.getfield 46, 3) := by decide +kernel
theorem dX0_ofParcel_76 : decode cX0_ofParcel 76 = .ok (.iload_n 1, 1) := by decide +kernel
theorem dX0_ofParcel_77 : decode cX0_ofParcel 77 = .ok (.iaload, 1) := by decide +kernel
theorem dX0_ofParcel_78 : decode cX0_ofParcel 78 = .ok (.ireturn, 1) := by decide +kernel
theorem dX0_stateOf_0 : decode cX0_stateOf 0 = .ok (.aload_n 0, 1) := by decide +kernel
theorem dX0_stateOf_1 : decode cX0_stateOf 1 = .ok (.iload_n 1, 1) := by decide +kernel
theorem dX0_stateOf_2 : decode cX0_stateOf 2 = .ok (.invokevirtual 69, 3) := by decide +kernel
theorem dX0_stateOf_5 : decode cX0_stateOf 5 = .ok (.ifCond .eq 12, 3) := by decide +kernel
theorem dX0_stateOf_8 : decode cX0_stateOf 8 = .ok (.aload_n 0, 1) := by decide +kernel
theorem dX0_stateOf_9 : decode cX0_stateOf 9 = .ok (.getfield 43, 3) := by decide +kernel
theorem dX0_stateOf_12 : decode cX0_stateOf 12 = .ok (.iload_n 1, 1) := by decide +kernel
theorem dX0_stateOf_13 : decode cX0_stateOf 13 = .ok (.iaload, 1) := by decide +kernel
theorem dX0_stateOf_14 : decode cX0_stateOf 14 = .ok (.goto 4, 3) := by decide +kernel
theorem dX0_stateOf_17 : decode cX0_stateOf 17 = .ok (.iconst 0, 1) := by decide +kernel
theorem dX0_stateOf_18 : decode cX0_stateOf 18 = .ok (.ireturn, 1) := by decide +kernel
theorem dX0_receiverOf_0 : decode cX0_receiverOf 0 = .ok (.aload_n 0, 1) := by decide +kernel
theorem dX0_receiverOf_1 : decode cX0_receiverOf 1 = .ok (.iload_n 1, 1) := by decide +kernel
theorem dX0_receiverOf_2 : decode cX0_receiverOf 2 = .ok (.invokevirtual 69, 3) := by decide +kernel
theorem dX0_receiverOf_5 : decode cX0_receiverOf 5 = .ok (.ifCond .eq 12, 3) := by decide +kernel
theorem dX0_receiverOf_8 : decode cX0_receiverOf 8 = .ok (.aload_n 0, 1) := by decide +kernel
theorem dX0_receiverOf_9 : decode cX0_receiverOf 9 = .ok (.getfield 37, 3) := by decide +kernel
theorem dX0_receiverOf_12 : decode cX0_receiverOf 12 = .ok (.iload_n 1, 1) := by decide +kernel
theorem dX0_receiverOf_13 : decode cX0_receiverOf 13 = .ok (.iaload, 1) := by decide +kernel
theorem dX0_receiverOf_14 : decode cX0_receiverOf 14 = .ok (.goto 5, 3) := by decide +kernel
theorem dX0_receiverOf_17 : decode cX0_receiverOf 17 = .ok (.bipush (-9), 2) := by decide +kernel
theorem dX0_receiverOf_19 : decode cX0_receiverOf 19 = .ok (.ireturn, 1) := by decide +kernel
theorem dX0_carrierOf_0 : decode cX0_carrierOf 0 = .ok (.aload_n 0, 1) := by decide +kernel
theorem dX0_carrierOf_1 : decode cX0_carrierOf 1 = .ok (.iload_n 1, 1) := by decide +kernel
theorem dX0_carrierOf_2 : decode cX0_carrierOf 2 = .ok (.invokevirtual 69, 3) := by decide +kernel
theorem dX0_carrierOf_5 : decode cX0_carrierOf 5 = .ok (.ifCond .eq 12, 3) := by decide +kernel
theorem dX0_carrierOf_8 : decode cX0_carrierOf 8 = .ok (.aload_n 0, 1) := by decide +kernel
theorem dX0_carrierOf_9 : decode cX0_carrierOf 9 = .ok (.getfield 46, 3) := by decide +kernel
theorem dX0_carrierOf_12 : decode cX0_carrierOf 12 = .ok (.iload_n 1, 1) := by decide +kernel
theorem dX0_carrierOf_13 : decode cX0_carrierOf 13 = .ok (.iaload, 1) := by decide +kernel
theorem dX0_carrierOf_14 : decode cX0_carrierOf 14 = .ok (.goto 5, 3) := by decide +kernel
theorem dX0_carrierOf_17 : decode cX0_carrierOf 17 = .ok (.bipush (-9), 2) := by decide +kernel
theorem dX0_carrierOf_19 : decode cX0_carrierOf 19 = .ok (.ireturn, 1) := by decide +kernel
theorem dX0_hateOf_0 : decode cX0_hateOf 0 = .ok (.aload_n 0, 1) := by decide +kernel
theorem dX0_hateOf_1 : decode cX0_hateOf 1 = .ok (.iload_n 1, 1) := by decide +kernel
theorem dX0_hateOf_2 : decode cX0_hateOf 2 = .ok (.iload_n 2, 1) := by decide +kernel
theorem dX0_hateOf_3 : decode cX0_hateOf 3 = .ok (.invokevirtual 72, 3) := by decide +kernel
theorem dX0_hateOf_6 : decode cX0_hateOf 6 = .ok (.ifCond .eq 17, 3) := by decide +kernel
theorem dX0_hateOf_9 : decode cX0_hateOf 9 = .ok (.aload_n 0, 1) := by decide +kernel
theorem dX0_hateOf_10 : decode cX0_hateOf 10 = .ok (.getfield 34, 3) := by decide +kernel
theorem dX0_hateOf_13 : decode cX0_hateOf 13 = .ok (.iload_n 1, 1) := by decide +kernel
theorem dX0_hateOf_14 : decode cX0_hateOf 14 = .ok (.bipush 6, 2) := by decide +kernel
theorem dX0_hateOf_16 : decode cX0_hateOf 16 = .ok (.imul, 1) := by decide +kernel
theorem dX0_hateOf_17 : decode cX0_hateOf 17 = .ok (.iload_n 2, 1) := by decide +kernel
theorem dX0_hateOf_18 : decode cX0_hateOf 18 = .ok (.iadd, 1) := by decide +kernel
theorem dX0_hateOf_19 : decode cX0_hateOf 19 = .ok (.iaload, 1) := by decide +kernel
theorem dX0_hateOf_20 : decode cX0_hateOf 20 = .ok (.goto 4, 3) := by decide +kernel
theorem dX0_hateOf_23 : decode cX0_hateOf 23 = .ok (.iconst 0, 1) := by decide +kernel
theorem dX0_hateOf_24 : decode cX0_hateOf 24 = .ok (.ireturn, 1) := by decide +kernel
theorem dX0_setHate_0 : decode cX0_setHate 0 = .ok (.aload_n 0, 1) := by decide +kernel
theorem dX0_setHate_1 : decode cX0_setHate 1 = .ok (.iload_n 1, 1) := by decide +kernel
theorem dX0_setHate_2 : decode cX0_setHate 2 = .ok (.iload_n 2, 1) := by decide +kernel
theorem dX0_setHate_3 : decode cX0_setHate 3 = .ok (.invokevirtual 72, 3) := by decide +kernel
theorem dX0_setHate_6 : decode cX0_setHate 6 = .ok (.ifCond .ne 5, 3) := by decide +kernel
theorem dX0_setHate_9 : decode cX0_setHate 9 = .ok (.iconst 0, 1) := by decide +kernel
theorem dX0_setHate_10 : decode cX0_setHate 10 = .ok (.ireturn, 1) := by decide +kernel
theorem dX0_setHate_11 : decode cX0_setHate 11 = .ok (.aload_n 0, 1) := by decide +kernel
theorem dX0_setHate_12 : decode cX0_setHate 12 = .ok (.getfield 34, 3) := by decide +kernel
theorem dX0_setHate_15 : decode cX0_setHate 15 = .ok (.iload_n 1, 1) := by decide +kernel
theorem dX0_setHate_16 : decode cX0_setHate 16 = .ok (.bipush 6, 2) := by decide +kernel
theorem dX0_setHate_18 : decode cX0_setHate 18 = .ok (.imul, 1) := by decide +kernel
theorem dX0_setHate_19 : decode cX0_setHate 19 = .ok (.iload_n 2, 1) := by decide +kernel
theorem dX0_setHate_20 : decode cX0_setHate 20 = .ok (.iadd, 1) := by decide +kernel
theorem dX0_setHate_21 : decode cX0_setHate 21 = .ok (.iload_n 3, 1) := by decide +kernel
theorem dX0_setHate_22 : decode cX0_setHate 22 = .ok (.iastore, 1) := by decide +kernel
theorem dX0_setHate_23 : decode cX0_setHate 23 = .ok (.iconst 1, 1) := by decide +kernel
theorem dX0_setHate_24 : decode cX0_setHate 24 = .ok (.ireturn, 1) := by decide +kernel
theorem dX0_addHate_0 : decode cX0_addHate 0 = .ok (.aload_n 0, 1) := by decide +kernel
theorem dX0_addHate_1 : decode cX0_addHate 1 = .ok (.iload_n 1, 1) := by decide +kernel
theorem dX0_addHate_2 : decode cX0_addHate 2 = .ok (.iload_n 2, 1) := by decide +kernel
theorem dX0_addHate_3 : decode cX0_addHate 3 = .ok (.invokevirtual 72, 3) := by decide +kernel
theorem dX0_addHate_6 : decode cX0_addHate 6 = .ok (.ifCond .ne 5, 3) := by decide +kernel
theorem dX0_addHate_9 : decode cX0_addHate 9 = .ok (.iconst 0, 1) := by decide +kernel
theorem dX0_addHate_10 : decode cX0_addHate 10 = .ok (.ireturn, 1) := by decide +kernel
theorem dX0_addHate_11 : decode cX0_addHate 11 = .ok (.iload_n 1, 1) := by decide +kernel
theorem dX0_addHate_12 : decode cX0_addHate 12 = .ok (.bipush 6, 2) := by decide +kernel
theorem dX0_addHate_14 : decode cX0_addHate 14 = .ok (.imul, 1) := by decide +kernel
theorem dX0_addHate_15 : decode cX0_addHate 15 = .ok (.iload_n 2, 1) := by decide +kernel
theorem dX0_addHate_16 : decode cX0_addHate 16 = .ok (.iadd, 1) := by decide +kernel
theorem dX0_addHate_17 : decode cX0_addHate 17 = .ok (.istore 4, 2) := by decide +kernel
theorem dX0_addHate_19 : decode cX0_addHate 19 = .ok (.aload_n 0, 1) := by decide +kernel
theorem dX0_addHate_20 : decode cX0_addHate 20 = .ok (.getfield 34, 3) := by decide +kernel
theorem dX0_addHate_23 : decode cX0_addHate 23 = .ok (.iload 4, 2) := by decide +kernel
theorem dX0_addHate_25 : decode cX0_addHate 25 = .ok (.iconst 0, 1) := by decide +kernel
theorem dX0_addHate_26 : decode cX0_addHate 26 = .ok (.bipush 99, 2) := by decide +kernel
theorem dX0_addHate_28 : decode cX0_addHate 28 = .ok (.aload_n 0, 1) := by decide +kernel
theorem dX0_addHate_29 : decode cX0_addHate 29 = .ok (.getfield 34, 3) := by decide +kernel
theorem dX0_addHate_32 : decode cX0_addHate 32 = .ok (.iload 4, 2) := by decide +kernel
theorem dX0_addHate_34 : decode cX0_addHate 34 = .ok (.iaload, 1) := by decide +kernel
theorem dX0_addHate_35 : decode cX0_addHate 35 = .ok (.iload_n 3, 1) := by decide +kernel
theorem dX0_addHate_36 : decode cX0_addHate 36 = .ok (.iadd, 1) := by decide +kernel
theorem dX0_addHate_37 : decode cX0_addHate 37 = .ok (.invokestatic 76, 3) := by decide +kernel
theorem dX0_addHate_40 : decode cX0_addHate 40 = .ok (.invokestatic 82, 3) := by decide +kernel
theorem dX0_addHate_43 : decode cX0_addHate 43 = .ok (.iastore, 1) := by decide +kernel
theorem dX0_addHate_44 : decode cX0_addHate 44 = .ok (.iconst 1, 1) := by decide +kernel
theorem dX0_addHate_45 : decode cX0_addHate 45 = .ok (.ireturn, 1) := by decide +kernel
theorem dX0_makePeace_0 : decode cX0_makePeace 0 = .ok (.aload_n 0, 1) := by decide +kernel
theorem dX0_makePeace_1 : decode cX0_makePeace 1 = .ok (.iload_n 1, 1) := by decide +kernel
theorem dX0_makePeace_2 : decode cX0_makePeace 2 = .ok (.iload_n 2, 1) := by decide +kernel
theorem dX0_makePeace_3 : decode cX0_makePeace 3 = .ok (.aload_n 0, 1) := by decide +kernel
theorem dX0_makePeace_4 : decode cX0_makePeace 4 = .ok (.iload_n 1, 1) := by decide +kernel
theorem dX0_makePeace_5 : decode cX0_makePeace 5 = .ok (.iload_n 2, 1) := by decide +kernel
theorem dX0_makePeace_6 : decode cX0_makePeace 6 = .ok (.invokevirtual 85, 3) := by decide +kernel
theorem dX0_makePeace_9 : decode cX0_makePeace 9 = .ok (.iconst 2, 1) := by decide +kernel
theorem dX0_makePeace_10 : decode cX0_makePeace 10 = .ok (.idiv, 1) := by decide +kernel
theorem dX0_makePeace_11 : decode cX0_makePeace 11 = .ok (.invokevirtual 88, 3) := by decide +kernel
theorem dX0_makePeace_14 : decode cX0_makePeace 14 = .ok (.pop, 1) := by decide +kernel
theorem dX0_makePeace_15 : decode cX0_makePeace 15 = .ok (.aload_n 0, 1) := by decide +kernel
theorem dX0_makePeace_16 : decode cX0_makePeace 16 = .ok (.iload_n 2, 1) := by decide +kernel
theorem dX0_makePeace_17 : decode cX0_makePeace 17 = .ok (.iload_n 1, 1) := by decide +kernel
theorem dX0_makePeace_18 : decode cX0_makePeace 18 = .ok (.aload_n 0, 1) := by decide +kernel
theorem dX0_makePeace_19 : decode cX0_makePeace 19 = .ok (.iload_n 2, 1) := by decide +kernel
theorem dX0_makePeace_20 : decode cX0_makePeace 20 = .ok (.iload_n 1, 1) := by decide +kernel
theorem dX0_makePeace_21 : decode cX0_makePeace 21 = .ok (.invokevirtual 85, 3) := by decide +kernel
theorem dX0_makePeace_24 : decode cX0_makePeace 24 = .ok (.iconst 2, 1) := by decide +kernel
theorem dX0_makePeace_25 : decode cX0_makePeace 25 = .ok (.idiv, 1) := by decide +kernel
theorem dX0_makePeace_26 : decode cX0_makePeace 26 = .ok (.invokevirtual 88, 3) := by decide +kernel
theorem dX0_makePeace_29 : decode cX0_makePeace 29 = .ok (.ireturn, 1) := by decide +kernel
theorem dX0_hatesTogether_0 : decode cX0_hatesTogether 0 = .ok (.iconst 0, 1) := by decide +kernel
theorem dX0_hatesTogether_1 : decode cX0_hatesTogether 1 = .ok (.istore_n 1, 1) := by decide +kernel
theorem dX0_hatesTogether_2 : decode cX0_hatesTogether 2 = .ok (.iconst 0, 1) := by decide +kernel
theorem dX0_hatesTogether_3 : decode cX0_hatesTogether 3 = .ok (.istore_n 2, 1) := by decide +kernel
theorem dX0_hatesTogether_4 : decode cX0_hatesTogether 4 = .ok (.iload_n 2, 1) := by decide +kernel
theorem dX0_hatesTogether_5 : decode cX0_hatesTogether 5 = .ok (.aload_n 0, 1) := by decide +kernel
theorem dX0_hatesTogether_6 : decode cX0_hatesTogether 6 = .ok (.getfield 34, 3) := by decide +kernel
theorem dX0_hatesTogether_9 : decode cX0_hatesTogether 9 = .ok (.arraylength, 1) := by decide +kernel
theorem dX0_hatesTogether_10 : decode cX0_hatesTogether 10 = .ok (.if_icmp .ge 18, 3) := by decide +kernel
theorem dX0_hatesTogether_13 : decode cX0_hatesTogether 13 = .ok (.iload_n 1, 1) := by decide +kernel
theorem dX0_hatesTogether_14 : decode cX0_hatesTogether 14 = .ok (.aload_n 0, 1) := by decide +kernel
theorem dX0_hatesTogether_15 : decode cX0_hatesTogether 15 = .ok (.getfield 34, 3) := by decide +kernel
theorem dX0_hatesTogether_18 : decode cX0_hatesTogether 18 = .ok (.iload_n 2, 1) := by decide +kernel
theorem dX0_hatesTogether_19 : decode cX0_hatesTogether 19 = .ok (.iaload, 1) := by decide +kernel
theorem dX0_hatesTogether_20 : decode cX0_hatesTogether 20 = .ok (.iadd, 1) := by decide +kernel
theorem dX0_hatesTogether_21 : decode cX0_hatesTogether 21 = .ok (.istore_n 1, 1) := by decide +kernel
theorem dX0_hatesTogether_22 : decode cX0_hatesTogether 22 = .ok (.iinc 2 1, 3) := by decide +kernel
theorem dX0_hatesTogether_25 : decode cX0_hatesTogether 25 = .ok (.goto (-21), 3) := by decide +kernel
theorem dX0_hatesTogether_28 : decode cX0_hatesTogether 28 = .ok (.iload_n 1, 1) := by decide +kernel
theorem dX0_hatesTogether_29 : decode cX0_hatesTogether 29 = .ok (.ireturn, 1) := by decide +kernel
theorem dX0_apart_0 : decode cX0_apart 0 = .ok (.aload_n 0, 1) := by decide +kernel
theorem dX0_apart_1 : decode cX0_apart 1 = .ok (.iload_n 1, 1) := by decide +kernel
theorem dX0_apart_2 : decode cX0_apart 2 = .ok (.iload_n 2, 1) := by decide +kernel
theorem dX0_apart_3 : decode cX0_apart 3 = .ok (.invokevirtual 72, 3) := by decide +kernel
theorem dX0_apart_6 : decode cX0_apart 6 = .ok (.ifCond .eq 22, 3) := by decide +kernel
theorem dX0_apart_9 : decode cX0_apart 9 = .ok (.aload_n 0, 1) := by decide +kernel
theorem dX0_apart_10 : decode cX0_apart 10 = .ok (.getfield 28, 3) := by decide +kernel
theorem dX0_apart_13 : decode cX0_apart 13 = .ok (.iload_n 1, 1) := by decide +kernel
theorem dX0_apart_14 : decode cX0_apart 14 = .ok (.iaload, 1) := by decide +kernel
theorem dX0_apart_15 : decode cX0_apart 15 = .ok (.aload_n 0, 1) := by decide +kernel
theorem dX0_apart_16 : decode cX0_apart 16 = .ok (.getfield 28, 3) := by decide +kernel
theorem dX0_apart_19 : decode cX0_apart 19 = .ok (.iload_n 2, 1) := by decide +kernel
theorem dX0_apart_20 : decode cX0_apart 20 = .ok (.iaload, 1) := by decide +kernel
theorem dX0_apart_21 : decode cX0_apart 21 = .ok (.isub, 1) := by decide +kernel
theorem dX0_apart_22 : decode cX0_apart 22 = .ok (.invokestatic 92, 3) := by decide +kernel
theorem dX0_apart_25 : decode cX0_apart 25 = .ok (.goto 4, 3) := by decide +kernel
theorem dX0_apart_28 : decode cX0_apart 28 = .ok (.iconst 0, 1) := by decide +kernel
theorem dX0_apart_29 : decode cX0_apart 29 = .ok (.ireturn, 1) := by decide +kernel
theorem dX0_milesOf_0 : decode cX0_milesOf 0 = .ok (.iload_n 0, 1) := by decide +kernel
theorem dX0_milesOf_1 : decode cX0_milesOf 1 = .ok (.lookupswitch 41 #[(0, 35), (1, 37), (5, 39)], 35) := by decide +kernel
theorem dX0_milesOf_36 : decode cX0_milesOf 36 = .ok (.iconst 2, 1) := by decide +kernel
theorem dX0_milesOf_37 : decode cX0_milesOf 37 = .ok (.ireturn, 1) := by decide +kernel
theorem dX0_milesOf_38 : decode cX0_milesOf 38 = .ok (.iconst 1, 1) := by decide +kernel
theorem dX0_milesOf_39 : decode cX0_milesOf 39 = .ok (.ireturn, 1) := by decide +kernel
theorem dX0_milesOf_40 : decode cX0_milesOf 40 = .ok (.iconst 4, 1) := by decide +kernel
theorem dX0_milesOf_41 : decode cX0_milesOf 41 = .ok (.ireturn, 1) := by decide +kernel
theorem dX0_milesOf_42 : decode cX0_milesOf 42 = .ok (.iconst 3, 1) := by decide +kernel
theorem dX0_milesOf_43 : decode cX0_milesOf 43 = .ok (.ireturn, 1) := by decide +kernel
theorem dX0_maliceOf_0 : decode cX0_maliceOf 0 = .ok (.iload_n 1, 1) := by decide +kernel
theorem dX0_maliceOf_1 : decode cX0_maliceOf 1 = .ok (.ifCond .lt 28, 3) := by decide +kernel
theorem dX0_maliceOf_4 : decode cX0_maliceOf 4 = .ok (.iload_n 1, 1) := by decide +kernel
theorem dX0_maliceOf_5 : decode cX0_maliceOf 5 = .ok (.aload_n 0, 1) := by decide +kernel
theorem dX0_maliceOf_6 : decode cX0_maliceOf 6 = .ok (.getfield 9, 3) := by decide +kernel
theorem dX0_maliceOf_9 : decode cX0_maliceOf 9 = .ok (.if_icmp .ge 20, 3) := by decide +kernel
theorem dX0_maliceOf_12 : decode cX0_maliceOf 12 = .ok (.iload_n 2, 1) := by decide +kernel
theorem dX0_maliceOf_13 : decode cX0_maliceOf 13 = .ok (.ifCond .lt 16, 3) := by decide +kernel
theorem dX0_maliceOf_16 : decode cX0_maliceOf 16 = .ok (.iload_n 2, 1) := by decide +kernel
theorem dX0_maliceOf_17 : decode cX0_maliceOf 17 = .ok (.aload_n 0, 1) := by decide +kernel
theorem dX0_maliceOf_18 : decode cX0_maliceOf 18 = .ok (.getfield 9, 3) := by decide +kernel
theorem dX0_maliceOf_21 : decode cX0_maliceOf 21 = .ok (.if_icmp .ge 8, 3) := by decide +kernel
theorem dX0_maliceOf_24 : decode cX0_maliceOf 24 = .ok (.iload_n 1, 1) := by decide +kernel
theorem dX0_maliceOf_25 : decode cX0_maliceOf 25 = .ok (.iload_n 2, 1) := by decide +kernel
theorem dX0_maliceOf_26 : decode cX0_maliceOf 26 = .ok (.if_icmp .ne 5, 3) := by decide +kernel
theorem dX0_maliceOf_29 : decode cX0_maliceOf 29 = .ok (.iconst 0, 1) := by decide +kernel
theorem dX0_maliceOf_30 : decode cX0_maliceOf 30 = .ok (.ireturn, 1) := by decide +kernel
theorem dX0_maliceOf_31 : decode cX0_maliceOf 31 = .ok (.aload_n 0, 1) := by decide +kernel
theorem dX0_maliceOf_32 : decode cX0_maliceOf 32 = .ok (.getfield 34, 3) := by decide +kernel
theorem dX0_maliceOf_35 : decode cX0_maliceOf 35 = .ok (.iload_n 1, 1) := by decide +kernel
theorem dX0_maliceOf_36 : decode cX0_maliceOf 36 = .ok (.bipush 6, 2) := by decide +kernel
theorem dX0_maliceOf_38 : decode cX0_maliceOf 38 = .ok (.imul, 1) := by decide +kernel
theorem dX0_maliceOf_39 : decode cX0_maliceOf 39 = .ok (.iload_n 2, 1) := by decide +kernel
theorem dX0_maliceOf_40 : decode cX0_maliceOf 40 = .ok (.iadd, 1) := by decide +kernel
theorem dX0_maliceOf_41 : decode cX0_maliceOf 41 = .ok (.iaload, 1) := by decide +kernel
theorem dX0_maliceOf_42 : decode cX0_maliceOf 42 = .ok (.istore_n 3, 1) := by decide +kernel
theorem dX0_maliceOf_43 : decode cX0_maliceOf 43 = .ok (.aload_n 0, 1) := by decide +kernel
theorem dX0_maliceOf_44 : decode cX0_maliceOf 44 = .ok (.getfield 25, 3) := by decide +kernel
theorem dX0_maliceOf_47 : decode cX0_maliceOf 47 = .ok (.iload_n 1, 1) := by decide +kernel
theorem dX0_maliceOf_48 : decode cX0_maliceOf 48 = .ok (.iaload, 1) := by decide +kernel
theorem dX0_maliceOf_49 : decode cX0_maliceOf 49 = .ok (.istore 4, 2) := by decide +kernel
theorem dX0_maliceOf_51 : decode cX0_maliceOf 51 = .ok (.aload_n 0, 1) := by decide +kernel
theorem dX0_maliceOf_52 : decode cX0_maliceOf 52 = .ok (.getfield 28, 3) := by decide +kernel
theorem dX0_maliceOf_55 : decode cX0_maliceOf 55 = .ok (.iload_n 1, 1) := by decide +kernel
theorem dX0_maliceOf_56 : decode cX0_maliceOf 56 = .ok (.iaload, 1) := by decide +kernel
theorem dX0_maliceOf_57 : decode cX0_maliceOf 57 = .ok (.aload_n 0, 1) := by decide +kernel
theorem dX0_maliceOf_58 : decode cX0_maliceOf 58 = .ok (.getfield 28, 3) := by decide +kernel
theorem dX0_maliceOf_61 : decode cX0_maliceOf 61 = .ok (.iload_n 2, 1) := by decide +kernel
theorem dX0_maliceOf_62 : decode cX0_maliceOf 62 = .ok (.iaload, 1) := by decide +kernel
theorem dX0_maliceOf_63 : decode cX0_maliceOf 63 = .ok (.isub, 1) := by decide +kernel
theorem dX0_maliceOf_64 : decode cX0_maliceOf 64 = .ok (.istore 5, 2) := by decide +kernel
theorem dX0_maliceOf_66 : decode cX0_maliceOf 66 = .ok (.iload_n 3, 1) := by decide +kernel
theorem dX0_maliceOf_67 : decode cX0_maliceOf 67 = .ok (.ifCond .le 10, 3) := by decide +kernel
theorem dX0_maliceOf_70 : decode cX0_maliceOf 70 = .ok (.iload_n 3, 1) := by decide +kernel
theorem dX0_maliceOf_71 : decode cX0_maliceOf 71 = .ok (.iload 4, 2) := by decide +kernel
theorem dX0_maliceOf_73 : decode cX0_maliceOf 73 = .ok (.iadd, 1) := by decide +kernel
theorem dX0_maliceOf_74 : decode cX0_maliceOf 74 = .ok (.goto 4, 3) := by decide +kernel
theorem dX0_maliceOf_77 : decode cX0_maliceOf 77 = .ok (.iconst 0, 1) := by decide +kernel
theorem dX0_maliceOf_78 : decode cX0_maliceOf 78 = .ok (.istore 6, 2) := by decide +kernel
theorem dX0_maliceOf_80 : decode cX0_maliceOf 80 = .ok (.aload_n 0, 1) := by decide +kernel
theorem dX0_maliceOf_81 : decode cX0_maliceOf 81 = .ok (.getfield 21, 3) := by decide +kernel
theorem dX0_maliceOf_84 : decode cX0_maliceOf 84 = .ok (.iload_n 1, 1) := by decide +kernel
theorem dX0_maliceOf_85 : decode cX0_maliceOf 85 = .ok (.iaload, 1) := by decide +kernel
theorem dX0_maliceOf_86 : decode cX0_maliceOf 86 = .ok (.tableswitch 76 1 5 #[34, 38, 41, 46, 53], 34) := by decide +kernel
theorem dX0_maliceOf_120 : decode cX0_maliceOf 120 = .ok (.iload_n 3, 1) := by decide +kernel
theorem dX0_maliceOf_121 : decode cX0_maliceOf 121 = .ok (.iconst 2, 1) := by decide +kernel
theorem dX0_maliceOf_122 : decode cX0_maliceOf 122 = .ok (.idiv, 1) := by decide +kernel
theorem dX0_maliceOf_123 : decode cX0_maliceOf 123 = .ok (.ireturn, 1) := by decide +kernel
theorem dX0_maliceOf_124 : decode cX0_maliceOf 124 = .ok (.iload 6, 2) := by decide +kernel
theorem dX0_maliceOf_126 : decode cX0_maliceOf 126 = .ok (.ireturn, 1) := by decide +kernel
theorem dX0_maliceOf_127 : decode cX0_maliceOf 127 = .ok (.iconst 2, 1) := by decide +kernel
theorem dX0_maliceOf_128 : decode cX0_maliceOf 128 = .ok (.iload 6, 2) := by decide +kernel
theorem dX0_maliceOf_130 : decode cX0_maliceOf 130 = .ok (.imul, 1) := by decide +kernel
theorem dX0_maliceOf_131 : decode cX0_maliceOf 131 = .ok (.ireturn, 1) := by decide +kernel
theorem dX0_maliceOf_132 : decode cX0_maliceOf 132 = .ok (.iload_n 3, 1) := by decide +kernel
theorem dX0_maliceOf_133 : decode cX0_maliceOf 133 = .ok (.iconst 2, 1) := by decide +kernel
theorem dX0_maliceOf_134 : decode cX0_maliceOf 134 = .ok (.idiv, 1) := by decide +kernel
theorem dX0_maliceOf_135 : decode cX0_maliceOf 135 = .ok (.iload 4, 2) := by decide +kernel
theorem dX0_maliceOf_137 : decode cX0_maliceOf 137 = .ok (.iadd, 1) := by decide +kernel
theorem dX0_maliceOf_138 : decode cX0_maliceOf 138 = .ok (.ireturn, 1) := by decide +kernel
theorem dX0_maliceOf_139 : decode cX0_maliceOf 139 = .ok (.iload 5, 2) := by decide +kernel
theorem dX0_maliceOf_141 : decode cX0_maliceOf 141 = .ok (.bipush 10, 2) := by decide +kernel
theorem dX0_maliceOf_143 : decode cX0_maliceOf 143 = .ok (.if_icmp .ge 10, 3) := by decide +kernel
theorem dX0_maliceOf_146 : decode cX0_maliceOf 146 = .ok (.iload 5, 2) := by decide +kernel
theorem dX0_maliceOf_148 : decode cX0_maliceOf 148 = .ok (.bipush (-10), 2) := by decide +kernel
theorem dX0_maliceOf_150 : decode cX0_maliceOf 150 = .ok (.if_icmp .gt 7, 3) := by decide +kernel
theorem dX0_maliceOf_153 : decode cX0_maliceOf 153 = .ok (.iconst 0, 1) := by decide +kernel
theorem dX0_maliceOf_154 : decode cX0_maliceOf 154 = .ok (.goto 7, 3) := by decide +kernel
theorem dX0_maliceOf_157 : decode cX0_maliceOf 157 = .ok (.iconst 2, 1) := by decide +kernel
theorem dX0_maliceOf_158 : decode cX0_maliceOf 158 = .ok (.iload 6, 2) := by decide +kernel
theorem dX0_maliceOf_160 : decode cX0_maliceOf 160 = .ok (.imul, 1) := by decide +kernel
theorem dX0_maliceOf_161 : decode cX0_maliceOf 161 = .ok (.ireturn, 1) := by decide +kernel
theorem dX0_maliceOf_162 : decode cX0_maliceOf 162 = .ok (.iload_n 3, 1) := by decide +kernel
theorem dX0_maliceOf_163 : decode cX0_maliceOf 163 = .ok (.ireturn, 1) := by decide +kernel
theorem dX0_maliceOfAll_0 : decode cX0_maliceOfAll 0 = .ok (.iconst 0, 1) := by decide +kernel
theorem dX0_maliceOfAll_1 : decode cX0_maliceOfAll 1 = .ok (.istore_n 2, 1) := by decide +kernel
theorem dX0_maliceOfAll_2 : decode cX0_maliceOfAll 2 = .ok (.iconst 0, 1) := by decide +kernel
theorem dX0_maliceOfAll_3 : decode cX0_maliceOfAll 3 = .ok (.istore_n 3, 1) := by decide +kernel
theorem dX0_maliceOfAll_4 : decode cX0_maliceOfAll 4 = .ok (.iload_n 3, 1) := by decide +kernel
theorem dX0_maliceOfAll_5 : decode cX0_maliceOfAll 5 = .ok (.aload_n 0, 1) := by decide +kernel
theorem dX0_maliceOfAll_6 : decode cX0_maliceOfAll 6 = .ok (.getfield 9, 3) := by decide +kernel
theorem dX0_maliceOfAll_9 : decode cX0_maliceOfAll 9 = .ok (.if_icmp .ge 18, 3) := by decide +kernel
theorem dX0_maliceOfAll_12 : decode cX0_maliceOfAll 12 = .ok (.iload_n 2, 1) := by decide +kernel
theorem dX0_maliceOfAll_13 : decode cX0_maliceOfAll 13 = .ok (.aload_n 0, 1) := by decide +kernel
theorem dX0_maliceOfAll_14 : decode cX0_maliceOfAll 14 = .ok (.iload_n 3, 1) := by decide +kernel
theorem dX0_maliceOfAll_15 : decode cX0_maliceOfAll 15 = .ok (.iload_n 1, 1) := by decide +kernel
theorem dX0_maliceOfAll_16 : decode cX0_maliceOfAll 16 = .ok (.invokevirtual 95, 3) := by decide +kernel
theorem dX0_maliceOfAll_19 : decode cX0_maliceOfAll 19 = .ok (.iadd, 1) := by decide +kernel
theorem dX0_maliceOfAll_20 : decode cX0_maliceOfAll 20 = .ok (.istore_n 2, 1) := by decide +kernel
theorem dX0_maliceOfAll_21 : decode cX0_maliceOfAll 21 = .ok (.iinc 3 1, 3) := by decide +kernel
theorem dX0_maliceOfAll_24 : decode cX0_maliceOfAll 24 = .ok (.goto (-20), 3) := by decide +kernel
theorem dX0_maliceOfAll_27 : decode cX0_maliceOfAll 27 = .ok (.iload_n 2, 1) := by decide +kernel
theorem dX0_maliceOfAll_28 : decode cX0_maliceOfAll 28 = .ok (.ireturn, 1) := by decide +kernel
theorem dX0_enemyOf_0 : decode cX0_enemyOf 0 = .ok (.bipush (-9), 2) := by decide +kernel
theorem dX0_enemyOf_2 : decode cX0_enemyOf 2 = .ok (.istore_n 3, 1) := by decide +kernel
theorem dX0_enemyOf_3 : decode cX0_enemyOf 3 = .ok (.iconst 4, 1) := by decide +kernel
theorem dX0_enemyOf_4 : decode cX0_enemyOf 4 = .ok (.istore 4, 2) := by decide +kernel
theorem dX0_enemyOf_6 : decode cX0_enemyOf 6 = .ok (.iconst 0, 1) := by decide +kernel
theorem dX0_enemyOf_7 : decode cX0_enemyOf 7 = .ok (.istore 5, 2) := by decide +kernel
theorem dX0_enemyOf_9 : decode cX0_enemyOf 9 = .ok (.iload 5, 2) := by decide +kernel
theorem dX0_enemyOf_11 : decode cX0_enemyOf 11 = .ok (.aload_n 0, 1) := by decide +kernel
theorem dX0_enemyOf_12 : decode cX0_enemyOf 12 = .ok (.getfield 9, 3) := by decide +kernel
theorem dX0_enemyOf_15 : decode cX0_enemyOf 15 = .ok (.if_icmp .ge 47, 3) := by decide +kernel
theorem dX0_enemyOf_18 : decode cX0_enemyOf 18 = .ok (.iload 5, 2) := by decide +kernel
theorem dX0_enemyOf_20 : decode cX0_enemyOf 20 = .ok (.iload_n 1, 1) := by decide +kernel
theorem dX0_enemyOf_21 : decode cX0_enemyOf 21 = .ok (.if_icmp .eq 35, 3) := by decide +kernel
theorem dX0_enemyOf_24 : decode cX0_enemyOf 24 = .ok (.iload 5, 2) := by decide +kernel
theorem dX0_enemyOf_26 : decode cX0_enemyOf 26 = .ok (.iload_n 2, 1) := by decide +kernel
theorem dX0_enemyOf_27 : decode cX0_enemyOf 27 = .ok (.if_icmp .ne 6, 3) := by decide +kernel
theorem dX0_enemyOf_30 : decode cX0_enemyOf 30 = .ok (.goto 26, 3) := by decide +kernel
theorem dX0_enemyOf_33 : decode cX0_enemyOf 33 = .ok (.aload_n 0, 1) := by decide +kernel
theorem dX0_enemyOf_34 : decode cX0_enemyOf 34 = .ok (.iload 5, 2) := by decide +kernel
theorem dX0_enemyOf_36 : decode cX0_enemyOf 36 = .ok (.iload_n 1, 1) := by decide +kernel
theorem dX0_enemyOf_37 : decode cX0_enemyOf 37 = .ok (.invokevirtual 95, 3) := by decide +kernel
theorem dX0_enemyOf_40 : decode cX0_enemyOf 40 = .ok (.istore 6, 2) := by decide +kernel
theorem dX0_enemyOf_42 : decode cX0_enemyOf 42 = .ok (.iload 6, 2) := by decide +kernel
theorem dX0_enemyOf_44 : decode cX0_enemyOf 44 = .ok (.iload 4, 2) := by decide +kernel
theorem dX0_enemyOf_46 : decode cX0_enemyOf 46 = .ok (.if_icmp .le 10, 3) := by decide +kernel
theorem dX0_enemyOf_49 : decode cX0_enemyOf 49 = .ok (.iload 6, 2) := by decide +kernel
theorem dX0_enemyOf_51 : decode cX0_enemyOf 51 = .ok (.istore 4, 2) := by decide +kernel
theorem dX0_enemyOf_53 : decode cX0_enemyOf 53 = .ok (.iload 5, 2) := by decide +kernel
theorem dX0_enemyOf_55 : decode cX0_enemyOf 55 = .ok (.istore_n 3, 1) := by decide +kernel
theorem dX0_enemyOf_56 : decode cX0_enemyOf 56 = .ok (.iinc 5 1, 3) := by decide +kernel
theorem dX0_enemyOf_59 : decode cX0_enemyOf 59 = .ok (.goto (-50), 3) := by decide +kernel
theorem dX0_enemyOf_62 : decode cX0_enemyOf 62 = .ok (.iload_n 3, 1) := by decide +kernel
theorem dX0_enemyOf_63 : decode cX0_enemyOf 63 = .ok (.ireturn, 1) := by decide +kernel
theorem dX0_enemyOfHowMany_0 : decode cX0_enemyOfHowMany 0 = .ok (.iconst 0, 1) := by decide +kernel
theorem dX0_enemyOfHowMany_1 : decode cX0_enemyOfHowMany 1 = .ok (.istore_n 2, 1) := by decide +kernel
theorem dX0_enemyOfHowMany_2 : decode cX0_enemyOfHowMany 2 = .ok (.iconst 0, 1) := by decide +kernel
theorem dX0_enemyOfHowMany_3 : decode cX0_enemyOfHowMany 3 = .ok (.istore_n 3, 1) := by decide +kernel
theorem dX0_enemyOfHowMany_4 : decode cX0_enemyOfHowMany 4 = .ok (.iload_n 3, 1) := by decide +kernel
theorem dX0_enemyOfHowMany_5 : decode cX0_enemyOfHowMany 5 = .ok (.aload_n 0, 1) := by decide +kernel
theorem dX0_enemyOfHowMany_6 : decode cX0_enemyOfHowMany 6 = .ok (.getfield 9, 3) := by decide +kernel
theorem dX0_enemyOfHowMany_9 : decode cX0_enemyOfHowMany 9 = .ok (.if_icmp .ge 23, 3) := by decide +kernel
theorem dX0_enemyOfHowMany_12 : decode cX0_enemyOfHowMany 12 = .ok (.aload_n 0, 1) := by decide +kernel
theorem dX0_enemyOfHowMany_13 : decode cX0_enemyOfHowMany 13 = .ok (.iload_n 3, 1) := by decide +kernel
theorem dX0_enemyOfHowMany_14 : decode cX0_enemyOfHowMany 14 = .ok (.bipush (-9), 2) := by decide +kernel
theorem dX0_enemyOfHowMany_16 : decode cX0_enemyOfHowMany 16 = .ok (.invokevirtual 98, 3) := by decide +kernel
theorem dX0_enemyOfHowMany_19 : decode cX0_enemyOfHowMany 19 = .ok (.iload_n 1, 1) := by decide +kernel
theorem dX0_enemyOfHowMany_20 : decode cX0_enemyOfHowMany 20 = .ok (.if_icmp .ne 6, 3) := by decide +kernel
theorem dX0_enemyOfHowMany_23 : decode cX0_enemyOfHowMany 23 = .ok (.iinc 2 1, 3) := by decide +kernel
theorem dX0_enemyOfHowMany_26 : decode cX0_enemyOfHowMany 26 = .ok (.iinc 3 1, 3) := by decide +kernel
theorem dX0_enemyOfHowMany_29 : decode cX0_enemyOfHowMany 29 = .ok (.goto (-25), 3) := by decide +kernel
theorem dX0_enemyOfHowMany_32 : decode cX0_enemyOfHowMany 32 = .ok (.iload_n 2, 1) := by decide +kernel
theorem dX0_enemyOfHowMany_33 : decode cX0_enemyOfHowMany 33 = .ok (.ireturn, 1) := by decide +kernel
theorem dX0_mutualEnemies_0 : decode cX0_mutualEnemies 0 = .ok (.iconst 0, 1) := by decide +kernel
theorem dX0_mutualEnemies_1 : decode cX0_mutualEnemies 1 = .ok (.istore_n 1, 1) := by decide +kernel
theorem dX0_mutualEnemies_2 : decode cX0_mutualEnemies 2 = .ok (.iconst 0, 1) := by decide +kernel
theorem dX0_mutualEnemies_3 : decode cX0_mutualEnemies 3 = .ok (.istore_n 2, 1) := by decide +kernel
theorem dX0_mutualEnemies_4 : decode cX0_mutualEnemies 4 = .ok (.iload_n 2, 1) := by decide +kernel
theorem dX0_mutualEnemies_5 : decode cX0_mutualEnemies 5 = .ok (.aload_n 0, 1) := by decide +kernel
theorem dX0_mutualEnemies_6 : decode cX0_mutualEnemies 6 = .ok (.getfield 9, 3) := by decide +kernel
theorem dX0_mutualEnemies_9 : decode cX0_mutualEnemies 9 = .ok (.if_icmp .ge 36, 3) := by decide +kernel
theorem dX0_mutualEnemies_12 : decode cX0_mutualEnemies 12 = .ok (.aload_n 0, 1) := by decide +kernel
theorem dX0_mutualEnemies_13 : decode cX0_mutualEnemies 13 = .ok (.iload_n 2, 1) := by decide +kernel
theorem dX0_mutualEnemies_14 : decode cX0_mutualEnemies 14 = .ok (.bipush (-9), 2) := by decide +kernel
theorem dX0_mutualEnemies_16 : decode cX0_mutualEnemies 16 = .ok (.invokevirtual 98, 3) := by decide +kernel
theorem dX0_mutualEnemies_19 : decode cX0_mutualEnemies 19 = .ok (.istore_n 3, 1) := by decide +kernel
theorem dX0_mutualEnemies_20 : decode cX0_mutualEnemies 20 = .ok (.iload_n 3, 1) := by decide +kernel
theorem dX0_mutualEnemies_21 : decode cX0_mutualEnemies 21 = .ok (.iload_n 2, 1) := by decide +kernel
theorem dX0_mutualEnemies_22 : decode cX0_mutualEnemies 22 = .ok (.if_icmp .le 17, 3) := by decide +kernel
theorem dX0_mutualEnemies_25 : decode cX0_mutualEnemies 25 = .ok (.aload_n 0, 1) := by decide +kernel
theorem dX0_mutualEnemies_26 : decode cX0_mutualEnemies 26 = .ok (.iload_n 3, 1) := by decide +kernel
theorem dX0_mutualEnemies_27 : decode cX0_mutualEnemies 27 = .ok (.bipush (-9), 2) := by decide +kernel
theorem dX0_mutualEnemies_29 : decode cX0_mutualEnemies 29 = .ok (.invokevirtual 98, 3) := by decide +kernel
theorem dX0_mutualEnemies_32 : decode cX0_mutualEnemies 32 = .ok (.iload_n 2, 1) := by decide +kernel
theorem dX0_mutualEnemies_33 : decode cX0_mutualEnemies 33 = .ok (.if_icmp .ne 6, 3) := by decide +kernel
theorem dX0_mutualEnemies_36 : decode cX0_mutualEnemies 36 = .ok (.iinc 1 1, 3) := by decide +kernel
theorem dX0_mutualEnemies_39 : decode cX0_mutualEnemies 39 = .ok (.iinc 2 1, 3) := by decide +kernel
theorem dX0_mutualEnemies_42 : decode cX0_mutualEnemies 42 = .ok (.goto (-38), 3) := by decide +kernel
theorem dX0_mutualEnemies_45 : decode cX0_mutualEnemies 45 = .ok (.iload_n 1, 1) := by decide +kernel
theorem dX0_mutualEnemies_46 : decode cX0_mutualEnemies 46 = .ok (.ireturn, 1) := by decide +kernel
theorem dX0_carries_0 : decode cX0_carries 0 = .ok (.iconst 0, 1) := by decide +kernel
theorem dX0_carries_1 : decode cX0_carries 1 = .ok (.istore_n 2, 1) := by decide +kernel
theorem dX0_carries_2 : decode cX0_carries 2 = .ok (.iload_n 2, 1) := by decide +kernel
theorem dX0_carries_3 : decode cX0_carries 3 = .ok (.aload_n 0, 1) := by decide +kernel
theorem dX0_carries_4 : decode cX0_carries 4 = .ok (.getfield 15, 3) := by decide +kernel
theorem dX0_carries_7 : decode cX0_carries 7 = .ok (.if_icmp .ge 31, 3) := by decide +kernel
theorem dX0_carries_10 : decode cX0_carries 10 = .ok (.aload_n 0, 1) := by decide +kernel
theorem dX0_carries_11 : decode cX0_carries 11 = .ok (.getfield 43, 3) := by decide +kernel
theorem dX0_carries_14 : decode cX0_carries 14 = .ok (.iload_n 2, 1) := by decide +kernel
theorem dX0_carries_15 : decode cX0_carries 15 = .ok (.iaload, 1) := by decide +kernel
theorem dX0_carries_16 : decode cX0_carries 16 = .ok (.iconst 1, 1) := by decide +kernel
theorem dX0_carries_17 : decode cX0_carries 17 = .ok (.if_icmp .ne 15, 3) := by decide +kernel
theorem dX0_carries_20 : decode cX0_carries 20 = .ok (.aload_n 0, 1) := by decide +kernel
theorem dX0_carries_21 : decode cX0_carries 21 = .ok (.getfield 46, 3) := by decide +kernel
theorem dX0_carries_24 : decode cX0_carries 24 = .ok (.iload_n 2, 1) := by decide +kernel
theorem dX0_carries_25 : decode cX0_carries 25 = .ok (.iaload, 1) := by decide +kernel
theorem dX0_carries_26 : decode cX0_carries 26 = .ok (.iload_n 1, 1) := by decide +kernel
theorem dX0_carries_27 : decode cX0_carries 27 = .ok (.if_icmp .ne 5, 3) := by decide +kernel
theorem dX0_carries_30 : decode cX0_carries 30 = .ok (.iconst 1, 1) := by decide +kernel
theorem dX0_carries_31 : decode cX0_carries 31 = .ok (.ireturn, 1) := by decide +kernel
theorem dX0_carries_32 : decode cX0_carries 32 = .ok (.iinc 2 1, 3) := by decide +kernel
theorem dX0_carries_35 : decode cX0_carries 35 = .ok (.goto (-33), 3) := by decide +kernel
theorem dX0_carries_38 : decode cX0_carries 38 = .ok (.iconst 0, 1) := by decide +kernel
theorem dX0_carries_39 : decode cX0_carries 39 = .ok (.ireturn, 1) := by decide +kernel
theorem dX0_brought_0 : decode cX0_brought 0 = .ok (.iconst 0, 1) := by decide +kernel
theorem dX0_brought_1 : decode cX0_brought 1 = .ok (.istore_n 1, 1) := by decide +kernel
theorem dX0_brought_2 : decode cX0_brought 2 = .ok (.iconst 0, 1) := by decide +kernel
theorem dX0_brought_3 : decode cX0_brought 3 = .ok (.istore_n 2, 1) := by decide +kernel
theorem dX0_brought_4 : decode cX0_brought 4 = .ok (.iload_n 2, 1) := by decide +kernel
theorem dX0_brought_5 : decode cX0_brought 5 = .ok (.aload_n 0, 1) := by decide +kernel
theorem dX0_brought_6 : decode cX0_brought 6 = .ok (.getfield 15, 3) := by decide +kernel
theorem dX0_brought_9 : decode cX0_brought 9 = .ok (.if_icmp .ge 22, 3) := by decide +kernel
theorem dX0_brought_12 : decode cX0_brought 12 = .ok (.aload_n 0, 1) := by decide +kernel
theorem dX0_brought_13 : decode cX0_brought 13 = .ok (.getfield 43, 3) := by decide +kernel
theorem dX0_brought_16 : decode cX0_brought 16 = .ok (.iload_n 2, 1) := by decide +kernel
theorem dX0_brought_17 : decode cX0_brought 17 = .ok (.iaload, 1) := by decide +kernel
theorem dX0_brought_18 : decode cX0_brought 18 = .ok (.iconst 2, 1) := by decide +kernel
theorem dX0_brought_19 : decode cX0_brought 19 = .ok (.if_icmp .ne 6, 3) := by decide +kernel
theorem dX0_brought_22 : decode cX0_brought 22 = .ok (.iinc 1 1, 3) := by decide +kernel
theorem dX0_brought_25 : decode cX0_brought 25 = .ok (.iinc 2 1, 3) := by decide +kernel
theorem dX0_brought_28 : decode cX0_brought 28 = .ok (.goto (-24), 3) := by decide +kernel
theorem dX0_brought_31 : decode cX0_brought 31 = .ok (.iload_n 1, 1) := by decide +kernel
theorem dX0_brought_32 : decode cX0_brought 32 = .ok (.ireturn, 1) := by decide +kernel
theorem dX0_parcelsThat_0 : decode cX0_parcelsThat 0 = .ok (.iconst 0, 1) := by decide +kernel
theorem dX0_parcelsThat_1 : decode cX0_parcelsThat 1 = .ok (.istore_n 2, 1) := by decide +kernel
theorem dX0_parcelsThat_2 : decode cX0_parcelsThat 2 = .ok (.iconst 0, 1) := by decide +kernel
theorem dX0_parcelsThat_3 : decode cX0_parcelsThat 3 = .ok (.istore_n 3, 1) := by decide +kernel
theorem dX0_parcelsThat_4 : decode cX0_parcelsThat 4 = .ok (.iload_n 3, 1) := by decide +kernel
theorem dX0_parcelsThat_5 : decode cX0_parcelsThat 5 = .ok (.aload_n 0, 1) := by decide +kernel
theorem dX0_parcelsThat_6 : decode cX0_parcelsThat 6 = .ok (.getfield 15, 3) := by decide +kernel
theorem dX0_parcelsThat_9 : decode cX0_parcelsThat 9 = .ok (.if_icmp .ge 25, 3) := by decide +kernel
theorem dX0_parcelsThat_12 : decode cX0_parcelsThat 12 = .ok (.aload_n 0, 1) := by decide +kernel
theorem dX0_parcelsThat_13 : decode cX0_parcelsThat 13 = .ok (.getfield 43, 3) := by decide +kernel
theorem dX0_parcelsThat_16 : decode cX0_parcelsThat 16 = .ok (.iload_n 3, 1) := by decide +kernel
theorem dX0_parcelsThat_17 : decode cX0_parcelsThat 17 = .ok (.iaload, 1) := by decide +kernel
theorem dX0_parcelsThat_18 : decode cX0_parcelsThat 18 = .ok (.iload_n 1, 1) := by decide +kernel
theorem dX0_parcelsThat_19 : decode cX0_parcelsThat 19 = .ok (.if_icmp .ne 9, 3) := by decide +kernel
theorem dX0_parcelsThat_22 : decode cX0_parcelsThat 22 = .ok (.iload_n 2, 1) := by decide +kernel
theorem dX0_parcelsThat_23 : decode cX0_parcelsThat 23 = .ok (.iconst 1, 1) := by decide +kernel
theorem dX0_parcelsThat_24 : decode cX0_parcelsThat 24 = .ok (.iload_n 3, 1) := by decide +kernel
theorem dX0_parcelsThat_25 : decode cX0_parcelsThat 25 = .ok (.ishl, 1) := by decide +kernel
theorem dX0_parcelsThat_26 : decode cX0_parcelsThat 26 = .ok (.ior, 1) := by decide +kernel
theorem dX0_parcelsThat_27 : decode cX0_parcelsThat 27 = .ok (.istore_n 2, 1) := by decide +kernel
theorem dX0_parcelsThat_28 : decode cX0_parcelsThat 28 = .ok (.iinc 3 1, 3) := by decide +kernel
theorem dX0_parcelsThat_31 : decode cX0_parcelsThat 31 = .ok (.goto (-27), 3) := by decide +kernel
theorem dX0_parcelsThat_34 : decode cX0_parcelsThat 34 = .ok (.iload_n 2, 1) := by decide +kernel
theorem dX0_parcelsThat_35 : decode cX0_parcelsThat 35 = .ok (.ireturn, 1) := by decide +kernel
theorem dX0_passDays_0 : decode cX0_passDays 0 = .ok (.iconst 0, 1) := by decide +kernel
theorem dX0_passDays_1 : decode cX0_passDays 1 = .ok (.istore_n 2, 1) := by decide +kernel
theorem dX0_passDays_2 : decode cX0_passDays 2 = .ok (.iload_n 2, 1) := by decide +kernel
theorem dX0_passDays_3 : decode cX0_passDays 3 = .ok (.iload_n 1, 1) := by decide +kernel
theorem dX0_passDays_4 : decode cX0_passDays 4 = .ok (.if_icmp .ge 14, 3) := by decide +kernel
theorem dX0_passDays_7 : decode cX0_passDays 7 = .ok (.aload_n 0, 1) := by decide +kernel
theorem dX0_passDays_8 : decode cX0_passDays 8 = .ok (.iconst 0, 1) := by decide +kernel
theorem dX0_passDays_9 : decode cX0_passDays 9 = .ok (.invokevirtual 101, 3) := by decide +kernel
theorem dX0_passDays_12 : decode cX0_passDays 12 = .ok (.iinc 2 1, 3) := by decide +kernel
theorem dX0_passDays_15 : decode cX0_passDays 15 = .ok (.goto (-13), 3) := by decide +kernel
theorem dX0_passDays_18 : decode cX0_passDays 18 = .ok (.return_, 1) := by decide +kernel
theorem dX0_passDay_0 : decode cX0_passDay 0 = .ok (.aload_n 0, 1) := by decide +kernel
theorem dX0_passDay_1 : decode cX0_passDay 1 = .ok (.dup, 1) := by decide +kernel
theorem dX0_passDay_2 : decode cX0_passDay 2 = .ok (.getfield 18, 3) := by decide +kernel
theorem dX0_passDay_5 : decode cX0_passDay 5 = .ok (.iconst 1, 1) := by decide +kernel
theorem dX0_passDay_6 : decode cX0_passDay 6 = .ok (.iadd, 1) := by decide +kernel
theorem dX0_passDay_7 : decode cX0_passDay 7 = .ok (.putfield 18, 3) := by decide +kernel
theorem dX0_passDay_10 : decode cX0_passDay 10 = .ok (.iload_n 1, 1) := by decide +kernel
theorem dX0_passDay_11 : decode cX0_passDay 11 = .ok (.ifCond .ne 7, 3) := by decide +kernel
theorem dX0_passDay_14 : decode cX0_passDay 14 = .ok (.aload_n 0, 1) := by decide +kernel
theorem dX0_passDay_15 : decode cX0_passDay 15 = .ok (.invokevirtual 105, 3) := by decide +kernel
theorem dX0_passDay_18 : decode cX0_passDay 18 = .ok (.aload_n 0, 1) := by decide +kernel
theorem dX0_passDay_19 : decode cX0_passDay 19 = .ok (.invokevirtual 108, 3) := by decide +kernel
theorem dX0_passDay_22 : decode cX0_passDay 22 = .ok (.aload_n 0, 1) := by decide +kernel
theorem dX0_passDay_23 : decode cX0_passDay 23 = .ok (.getfield 18, 3) := by decide +kernel
theorem dX0_passDay_26 : decode cX0_passDay 26 = .ok (.bipush 7, 2) := by decide +kernel
theorem dX0_passDay_28 : decode cX0_passDay 28 = .ok (.irem, 1) := by decide +kernel
theorem dX0_passDay_29 : decode cX0_passDay 29 = .ok (.ifCond .ne 7, 3) := by decide +kernel
theorem dX0_passDay_32 : decode cX0_passDay 32 = .ok (.aload_n 0, 1) := by decide +kernel
theorem dX0_passDay_33 : decode cX0_passDay 33 = .ok (.invokevirtual 111, 3) := by decide +kernel
theorem dX0_passDay_36 : decode cX0_passDay 36 = .ok (.return_, 1) := by decide +kernel
theorem dX0_carryOn_0 : decode cX0_carryOn 0 = .ok (.iconst 0, 1) := by decide +kernel
theorem dX0_carryOn_1 : decode cX0_carryOn 1 = .ok (.istore_n 1, 1) := by decide +kernel
theorem dX0_carryOn_2 : decode cX0_carryOn 2 = .ok (.iload_n 1, 1) := by decide +kernel
theorem dX0_carryOn_3 : decode cX0_carryOn 3 = .ok (.aload_n 0, 1) := by decide +kernel
theorem dX0_carryOn_4 : decode cX0_carryOn 4 = .ok (.getfield 15, 3) := by decide +kernel
theorem dX0_carryOn_7 : decode cX0_carryOn 7 = .ok (.if_icmp .ge 112, 3) := by decide +kernel
theorem dX0_carryOn_10 : decode cX0_carryOn 10 = .ok (.aload_n 0, 1) := by decide +kernel
theorem dX0_carryOn_11 : decode cX0_carryOn 11 = .ok (.getfield 43, 3) := by decide +kernel
theorem dX0_carryOn_14 : decode cX0_carryOn 14 = .ok (.iload_n 1, 1) := by decide +kernel
theorem dX0_carryOn_15 : decode cX0_carryOn 15 = .ok (.iaload, 1) := by decide +kernel
theorem dX0_carryOn_16 : decode cX0_carryOn 16 = .ok (.iconst 1, 1) := by decide +kernel
theorem dX0_carryOn_17 : decode cX0_carryOn 17 = .ok (.if_icmp .eq 6, 3) := by decide +kernel
theorem dX0_carryOn_20 : decode cX0_carryOn 20 = .ok (.goto 93, 3) := by decide +kernel
theorem dX0_carryOn_23 : decode cX0_carryOn 23 = .ok (.aload_n 0, 1) := by decide +kernel
theorem dX0_carryOn_24 : decode cX0_carryOn 24 = .ok (.getfield 49, 3) := by decide +kernel
theorem dX0_carryOn_27 : decode cX0_carryOn 27 = .ok (.iload_n 1, 1) := by decide +kernel
theorem dX0_carryOn_28 : decode cX0_carryOn 28 = .ok (.dup2, 1) := by decide +kernel
theorem dX0_carryOn_29 : decode cX0_carryOn 29 = .ok (.iaload, 1) := by decide +kernel
theorem dX0_carryOn_30 : decode cX0_carryOn 30 = .ok (.iconst 1, 1) := by decide +kernel
theorem dX0_carryOn_31 : decode cX0_carryOn 31 = .ok (.isub, 1) := by decide +kernel
theorem dX0_carryOn_32 : decode cX0_carryOn 32 = .ok (.iastore, 1) := by decide +kernel
theorem dX0_carryOn_33 : decode cX0_carryOn 33 = .ok (.aload_n 0, 1) := by decide +kernel
theorem dX0_carryOn_34 : decode cX0_carryOn 34 = .ok (.getfield 49, 3) := by decide +kernel
theorem dX0_carryOn_37 : decode cX0_carryOn 37 = .ok (.iload_n 1, 1) := by decide +kernel
theorem dX0_carryOn_38 : decode cX0_carryOn 38 = .ok (.iaload, 1) := by decide +kernel
theorem dX0_carryOn_39 : decode cX0_carryOn 39 = .ok (.ifCond .le 6, 3) := by decide +kernel
theorem dX0_carryOn_42 : decode cX0_carryOn 42 = .ok (.goto 71, 3) := by decide +kernel
theorem dX0_carryOn_45 : decode cX0_carryOn 45 = .ok (.aload_n 0, 1) := by decide +kernel
theorem dX0_carryOn_46 : decode cX0_carryOn 46 = .ok (.getfield 43, 3) := by decide +kernel
theorem dX0_carryOn_49 : decode cX0_carryOn 49 = .ok (.iload_n 1, 1) := by decide +kernel
theorem dX0_carryOn_50 : decode cX0_carryOn 50 = .ok (.iconst 2, 1) := by decide +kernel
theorem dX0_carryOn_51 : decode cX0_carryOn 51 = .ok (.iastore, 1) := by decide +kernel
theorem dX0_carryOn_52 : decode cX0_carryOn 52 = .ok (.aload_n 0, 1) := by decide +kernel
theorem dX0_carryOn_53 : decode cX0_carryOn 53 = .ok (.getfield 49, 3) := by decide +kernel
theorem dX0_carryOn_56 : decode cX0_carryOn 56 = .ok (.iload_n 1, 1) := by decide +kernel
theorem dX0_carryOn_57 : decode cX0_carryOn 57 = .ok (.iconst 0, 1) := by decide +kernel
theorem dX0_carryOn_58 : decode cX0_carryOn 58 = .ok (.iastore, 1) := by decide +kernel
theorem dX0_carryOn_59 : decode cX0_carryOn 59 = .ok (.aload_n 0, 1) := by decide +kernel
theorem dX0_carryOn_60 : decode cX0_carryOn 60 = .ok (.getfield 37, 3) := by decide +kernel
theorem dX0_carryOn_63 : decode cX0_carryOn 63 = .ok (.iload_n 1, 1) := by decide +kernel
theorem dX0_carryOn_64 : decode cX0_carryOn 64 = .ok (.iaload, 1) := by decide +kernel
theorem dX0_carryOn_65 : decode cX0_carryOn 65 = .ok (.istore_n 2, 1) := by decide +kernel
theorem dX0_carryOn_66 : decode cX0_carryOn 66 = .ok (.aload_n 0, 1) := by decide +kernel
theorem dX0_carryOn_67 : decode cX0_carryOn 67 = .ok (.iload_n 2, 1) := by decide +kernel
theorem dX0_carryOn_68 : decode cX0_carryOn 68 = .ok (.invokevirtual 58, 3) := by decide +kernel
theorem dX0_carryOn_71 : decode cX0_carryOn 71 = .ok (.ifCond .eq 23, 3) := by decide +kernel
theorem dX0_carryOn_74 : decode cX0_carryOn 74 = .ok (.aload_n 0, 1) := by decide +kernel
theorem dX0_carryOn_75 : decode cX0_carryOn 75 = .ok (.getfield 31, 3) := by decide +kernel
theorem dX0_carryOn_78 : decode cX0_carryOn 78 = .ok (.iload_n 2, 1) := by decide +kernel
theorem dX0_carryOn_79 : decode cX0_carryOn 79 = .ok (.sipush 999, 3) := by decide +kernel
theorem dX0_carryOn_82 : decode cX0_carryOn 82 = .ok (.aload_n 0, 1) := by decide +kernel
theorem dX0_carryOn_83 : decode cX0_carryOn 83 = .ok (.getfield 31, 3) := by decide +kernel
theorem dX0_carryOn_86 : decode cX0_carryOn 86 = .ok (.iload_n 2, 1) := by decide +kernel
theorem dX0_carryOn_87 : decode cX0_carryOn 87 = .ok (.iaload, 1) := by decide +kernel
theorem dX0_carryOn_88 : decode cX0_carryOn 88 = .ok (.iconst 1, 1) := by decide +kernel
theorem dX0_carryOn_89 : decode cX0_carryOn 89 = .ok (.iadd, 1) := by decide +kernel
theorem dX0_carryOn_90 : decode cX0_carryOn 90 = .ok (.invokestatic 76, 3) := by decide +kernel
theorem dX0_carryOn_93 : decode cX0_carryOn 93 = .ok (.iastore, 1) := by decide +kernel
theorem dX0_carryOn_94 : decode cX0_carryOn 94 = .ok (.aload_n 0, 1) := by decide +kernel
theorem dX0_carryOn_95 : decode cX0_carryOn 95 = .ok (.aload_n 0, 1) := by decide +kernel
theorem dX0_carryOn_96 : decode cX0_carryOn 96 = .ok (.getfield 46, 3) := by decide +kernel
theorem dX0_carryOn_99 : decode cX0_carryOn 99 = .ok (.iload_n 1, 1) := by decide +kernel
theorem dX0_carryOn_100 : decode cX0_carryOn 100 = .ok (.iaload, 1) := by decide +kernel
theorem dX0_carryOn_101 : decode cX0_carryOn 101 = .ok (.iload_n 2, 1) := by decide +kernel
theorem dX0_carryOn_102 : decode cX0_carryOn 102 = .ok (.aload_n 0, 1) := by decide +kernel
theorem dX0_carryOn_103 : decode cX0_carryOn 103 = .ok (.getfield 40, 3) := by decide +kernel
theorem dX0_carryOn_106 : decode cX0_carryOn 106 = .ok (.iload_n 1, 1) := by decide +kernel
theorem dX0_carryOn_107 : decode cX0_carryOn 107 = .ok (.iaload, 1) := by decide +kernel
theorem dX0_carryOn_108 : decode cX0_carryOn 108 = .ok (.ineg, 1) := by decide +kernel
theorem dX0_carryOn_109 : decode cX0_carryOn 109 = .ok (.invokevirtual 114, 3) := by decide +kernel
theorem dX0_carryOn_112 : decode cX0_carryOn 112 = .ok (.pop, 1) := by decide +kernel
theorem dX0_carryOn_113 : decode cX0_carryOn 113 = .ok (.iinc 1 1, 3) := by decide +kernel
theorem dX0_carryOn_116 : decode cX0_carryOn 116 = .ok (.goto (-114), 3) := by decide +kernel
theorem dX0_carryOn_119 : decode cX0_carryOn 119 = .ok (.return_, 1) := by decide +kernel
theorem dX0_giveOut_0 : decode cX0_giveOut 0 = .ok (.iconst 0, 1) := by decide +kernel
theorem dX0_giveOut_1 : decode cX0_giveOut 1 = .ok (.istore_n 1, 1) := by decide +kernel
theorem dX0_giveOut_2 : decode cX0_giveOut 2 = .ok (.iload_n 1, 1) := by decide +kernel
theorem dX0_giveOut_3 : decode cX0_giveOut 3 = .ok (.aload_n 0, 1) := by decide +kernel
theorem dX0_giveOut_4 : decode cX0_giveOut 4 = .ok (.getfield 15, 3) := by decide +kernel
theorem dX0_giveOut_7 : decode cX0_giveOut 7 = .ok (.if_icmp .ge 93, 3) := by decide +kernel
theorem dX0_giveOut_10 : decode cX0_giveOut 10 = .ok (.aload_n 0, 1) := by decide +kernel
theorem dX0_giveOut_11 : decode cX0_giveOut 11 = .ok (.getfield 43, 3) := by decide +kernel
theorem dX0_giveOut_14 : decode cX0_giveOut 14 = .ok (.iload_n 1, 1) := by decide +kernel
theorem dX0_giveOut_15 : decode cX0_giveOut 15 = .ok (.iaload, 1) := by decide +kernel
theorem dX0_giveOut_16 : decode cX0_giveOut 16 = .ok (.ifCond .eq 6, 3) := by decide +kernel
theorem dX0_giveOut_19 : decode cX0_giveOut 19 = .ok (.goto 75, 3) := by decide +kernel
theorem dX0_giveOut_22 : decode cX0_giveOut 22 = .ok (.aload_n 0, 1) := by decide +kernel
theorem dX0_giveOut_23 : decode cX0_giveOut 23 = .ok (.aload_n 0, 1) := by decide +kernel
theorem dX0_giveOut_24 : decode cX0_giveOut 24 = .ok (.getfield 37, 3) := by decide +kernel
theorem dX0_giveOut_27 : decode cX0_giveOut 27 = .ok (.iload_n 1, 1) := by decide +kernel
theorem dX0_giveOut_28 : decode cX0_giveOut 28 = .ok (.iaload, 1) := by decide +kernel
theorem dX0_giveOut_29 : decode cX0_giveOut 29 = .ok (.bipush (-9), 2) := by decide +kernel
theorem dX0_giveOut_31 : decode cX0_giveOut 31 = .ok (.invokevirtual 98, 3) := by decide +kernel
theorem dX0_giveOut_34 : decode cX0_giveOut 34 = .ok (.istore_n 2, 1) := by decide +kernel
theorem dX0_giveOut_35 : decode cX0_giveOut 35 = .ok (.aload_n 0, 1) := by decide +kernel
theorem dX0_giveOut_36 : decode cX0_giveOut 36 = .ok (.iload_n 2, 1) := by decide +kernel
theorem dX0_giveOut_37 : decode cX0_giveOut 37 = .ok (.invokevirtual 58, 3) := by decide +kernel
theorem dX0_giveOut_40 : decode cX0_giveOut 40 = .ok (.ifCond .eq 54, 3) := by decide +kernel
theorem dX0_giveOut_43 : decode cX0_giveOut 43 = .ok (.aload_n 0, 1) := by decide +kernel
theorem dX0_giveOut_44 : decode cX0_giveOut 44 = .ok (.iload_n 2, 1) := by decide +kernel
theorem dX0_giveOut_45 : decode cX0_giveOut 45 = .ok (.invokevirtual 66, 3) := by decide +kernel
theorem dX0_giveOut_48 : decode cX0_giveOut 48 = .ok (.ifCond .ne 46, 3) := by decide +kernel
theorem dX0_giveOut_51 : decode cX0_giveOut 51 = .ok (.aload_n 0, 1) := by decide +kernel
theorem dX0_giveOut_52 : decode cX0_giveOut 52 = .ok (.getfield 43, 3) := by decide +kernel
theorem dX0_giveOut_55 : decode cX0_giveOut 55 = .ok (.iload_n 1, 1) := by decide +kernel
theorem dX0_giveOut_56 : decode cX0_giveOut 56 = .ok (.iconst 1, 1) := by decide +kernel
theorem dX0_giveOut_57 : decode cX0_giveOut 57 = .ok (.iastore, 1) := by decide +kernel
theorem dX0_giveOut_58 : decode cX0_giveOut 58 = .ok (.aload_n 0, 1) := by decide +kernel
theorem dX0_giveOut_59 : decode cX0_giveOut 59 = .ok (.getfield 46, 3) := by decide +kernel
theorem dX0_giveOut_62 : decode cX0_giveOut 62 = .ok (.iload_n 1, 1) := by decide +kernel
theorem dX0_giveOut_63 : decode cX0_giveOut 63 = .ok (.iload_n 2, 1) := by decide +kernel
theorem dX0_giveOut_64 : decode cX0_giveOut 64 = .ok (.iastore, 1) := by decide +kernel
theorem dX0_giveOut_65 : decode cX0_giveOut 65 = .ok (.aload_n 0, 1) := by decide +kernel
theorem dX0_giveOut_66 : decode cX0_giveOut 66 = .ok (.getfield 49, 3) := by decide +kernel
theorem dX0_giveOut_69 : decode cX0_giveOut 69 = .ok (.iload_n 1, 1) := by decide +kernel
theorem dX0_giveOut_70 : decode cX0_giveOut 70 = .ok (.aload_n 0, 1) := by decide +kernel
theorem dX0_giveOut_71 : decode cX0_giveOut 71 = .ok (.iload_n 2, 1) := by decide +kernel
theorem dX0_giveOut_72 : decode cX0_giveOut 72 = .ok (.aload_n 0, 1) := by decide +kernel
theorem dX0_giveOut_73 : decode cX0_giveOut 73 = .ok (.getfield 37, 3) := by decide +kernel
theorem dX0_giveOut_76 : decode cX0_giveOut 76 = .ok (.iload_n 1, 1) := by decide +kernel
theorem dX0_giveOut_77 : decode cX0_giveOut 77 = .ok (.iaload, 1) := by decide +kernel
theorem dX0_giveOut_78 : decode cX0_giveOut 78 = .ok (.invokevirtual 117, 3) := by decide +kernel
theorem dX0_giveOut_81 : decode cX0_giveOut 81 = .ok (.aload_n 0, 1) := by decide +kernel
theorem dX0_giveOut_82 : decode cX0_giveOut 82 = .ok (.getfield 21, 3) := by decide +kernel
theorem dX0_giveOut_85 : decode cX0_giveOut 85 = .ok (.iload_n 2, 1) := by decide +kernel
theorem dX0_giveOut_86 : decode cX0_giveOut 86 = .ok (.iaload, 1) := by decide +kernel
theorem dX0_giveOut_87 : decode cX0_giveOut 87 = .ok (.invokestatic 62, 3) := by decide +kernel
theorem dX0_giveOut_90 : decode cX0_giveOut 90 = .ok (.invokestatic 120, 3) := by decide +kernel
theorem dX0_giveOut_93 : decode cX0_giveOut 93 = .ok (.iastore, 1) := by decide +kernel
theorem dX0_giveOut_94 : decode cX0_giveOut 94 = .ok (.iinc 1 1, 3) := by decide +kernel
theorem dX0_giveOut_97 : decode cX0_giveOut 97 = .ok (.goto (-95), 3) := by decide +kernel
theorem dX0_giveOut_100 : decode cX0_giveOut 100 = .ok (.return_, 1) := by decide +kernel
theorem dX0_daysOnRoad_0 : decode cX0_daysOnRoad 0 = .ok (.iload_n 1, 1) := by decide +kernel
theorem dX0_daysOnRoad_1 : decode cX0_daysOnRoad 1 = .ok (.iconst 1, 1) := by decide +kernel
theorem dX0_daysOnRoad_2 : decode cX0_daysOnRoad 2 = .ok (.if_icmp .ge 7, 3) := by decide +kernel
theorem dX0_daysOnRoad_5 : decode cX0_daysOnRoad 5 = .ok (.iconst 1, 1) := by decide +kernel
theorem dX0_daysOnRoad_6 : decode cX0_daysOnRoad 6 = .ok (.goto 12, 3) := by decide +kernel
theorem dX0_daysOnRoad_9 : decode cX0_daysOnRoad 9 = .ok (.iload_n 0, 1) := by decide +kernel
theorem dX0_daysOnRoad_10 : decode cX0_daysOnRoad 10 = .ok (.iload_n 1, 1) := by decide +kernel
theorem dX0_daysOnRoad_11 : decode cX0_daysOnRoad 11 = .ok (.iadd, 1) := by decide +kernel
theorem dX0_daysOnRoad_12 : decode cX0_daysOnRoad 12 = .ok (.iconst 1, 1) := by decide +kernel
theorem dX0_daysOnRoad_13 : decode cX0_daysOnRoad 13 = .ok (.isub, 1) := by decide +kernel
theorem dX0_daysOnRoad_14 : decode cX0_daysOnRoad 14 = .ok (.iload_n 1, 1) := by decide +kernel
theorem dX0_daysOnRoad_15 : decode cX0_daysOnRoad 15 = .ok (.idiv, 1) := by decide +kernel
theorem dX0_daysOnRoad_16 : decode cX0_daysOnRoad 16 = .ok (.iconst 1, 1) := by decide +kernel
theorem dX0_daysOnRoad_17 : decode cX0_daysOnRoad 17 = .ok (.iadd, 1) := by decide +kernel
theorem dX0_daysOnRoad_18 : decode cX0_daysOnRoad 18 = .ok (.ireturn, 1) := by decide +kernel
theorem dX0_coolDown_0 : decode cX0_coolDown 0 = .ok (.iconst 0, 1) := by decide +kernel
theorem dX0_coolDown_1 : decode cX0_coolDown 1 = .ok (.istore_n 1, 1) := by decide +kernel
theorem dX0_coolDown_2 : decode cX0_coolDown 2 = .ok (.iload_n 1, 1) := by decide +kernel
theorem dX0_coolDown_3 : decode cX0_coolDown 3 = .ok (.aload_n 0, 1) := by decide +kernel
theorem dX0_coolDown_4 : decode cX0_coolDown 4 = .ok (.getfield 34, 3) := by decide +kernel
theorem dX0_coolDown_7 : decode cX0_coolDown 7 = .ok (.arraylength, 1) := by decide +kernel
theorem dX0_coolDown_8 : decode cX0_coolDown 8 = .ok (.if_icmp .ge 28, 3) := by decide +kernel
theorem dX0_coolDown_11 : decode cX0_coolDown 11 = .ok (.aload_n 0, 1) := by decide +kernel
theorem dX0_coolDown_12 : decode cX0_coolDown 12 = .ok (.getfield 34, 3) := by decide +kernel
theorem dX0_coolDown_15 : decode cX0_coolDown 15 = .ok (.iload_n 1, 1) := by decide +kernel
theorem dX0_coolDown_16 : decode cX0_coolDown 16 = .ok (.iaload, 1) := by decide +kernel
theorem dX0_coolDown_17 : decode cX0_coolDown 17 = .ok (.ifCond .le 13, 3) := by decide +kernel
theorem dX0_coolDown_20 : decode cX0_coolDown 20 = .ok (.aload_n 0, 1) := by decide +kernel
theorem dX0_coolDown_21 : decode cX0_coolDown 21 = .ok (.getfield 34, 3) := by decide +kernel
theorem dX0_coolDown_24 : decode cX0_coolDown 24 = .ok (.iload_n 1, 1) := by decide +kernel
theorem dX0_coolDown_25 : decode cX0_coolDown 25 = .ok (.dup2, 1) := by decide +kernel
theorem dX0_coolDown_26 : decode cX0_coolDown 26 = .ok (.iaload, 1) := by decide +kernel
theorem dX0_coolDown_27 : decode cX0_coolDown 27 = .ok (.iconst 1, 1) := by decide +kernel
theorem dX0_coolDown_28 : decode cX0_coolDown 28 = .ok (.isub, 1) := by decide +kernel
theorem dX0_coolDown_29 : decode cX0_coolDown 29 = .ok (.iastore, 1) := by decide +kernel
theorem dX0_coolDown_30 : decode cX0_coolDown 30 = .ok (.iinc 1 1, 3) := by decide +kernel
theorem dX0_coolDown_33 : decode cX0_coolDown 33 = .ok (.goto (-31), 3) := by decide +kernel
theorem dX0_coolDown_36 : decode cX0_coolDown 36 = .ok (.return_, 1) := by decide +kernel
theorem dX1_init_0 : decode cX1_init 0 = .ok (.aload_n 0, 1) := by decide +kernel
theorem dX1_init_1 : decode cX1_init 1 = .ok (.invokespecial 3, 3) := by decide +kernel
theorem dX1_init_4 : decode cX1_init 4 = .ok (.aload_n 0, 1) := by decide +kernel
theorem dX1_init_5 : decode cX1_init 5 = .ok (.iconst 0, 1) := by decide +kernel
theorem dX1_init_6 : decode cX1_init 6 = .ok (.putfield 9, 3) := by decide +kernel
theorem dX1_init_9 : decode cX1_init 9 = .ok (.aload_n 0, 1) := by decide +kernel
theorem dX1_init_10 : decode cX1_init 10 = .ok (.bipush 16, 2) := by decide +kernel
theorem dX1_init_12 : decode cX1_init 12 = .ok (.newarray .int, 2) := by decide +kernel
theorem dX1_init_14 : decode cX1_init 14 = .ok (.putfield 15, 3) := by decide +kernel
theorem dX1_init_17 : decode cX1_init 17 = .ok (.return_, 1) := by decide +kernel
theorem dX1_add_0 : decode cX1_add 0 = .ok (.aload_n 0, 1) := by decide +kernel
theorem dX1_add_1 : decode cX1_add 1 = .ok (.getfield 9, 3) := by decide +kernel
theorem dX1_add_4 : decode cX1_add 4 = .ok (.ifCond .lt 35, 3) := by decide +kernel
theorem dX1_add_7 : decode cX1_add 7 = .ok (.aload_n 0, 1) := by decide +kernel
theorem dX1_add_8 : decode cX1_add 8 = .ok (.getfield 9, 3) := by decide +kernel
theorem dX1_add_11 : decode cX1_add 11 = .ok (.aload_n 0, 1) := by decide +kernel
theorem dX1_add_12 : decode cX1_add 12 = .ok (.getfield 15, 3) := by decide +kernel
theorem dX1_add_15 : decode cX1_add 15 = .ok (.arraylength, 1) := by decide +kernel
theorem dX1_add_16 : decode cX1_add 16 = .ok (.if_icmp .ge 23, 3) := by decide +kernel
theorem dX1_add_19 : decode cX1_add 19 = .ok (.aload_n 0, 1) := by decide +kernel
theorem dX1_add_20 : decode cX1_add 20 = .ok (.getfield 15, 3) := by decide +kernel
theorem dX1_add_23 : decode cX1_add 23 = .ok (.aload_n 0, 1) := by decide +kernel
theorem dX1_add_24 : decode cX1_add 24 = .ok (.getfield 9, 3) := by decide +kernel
theorem dX1_add_27 : decode cX1_add 27 = .ok (.iload_n 1, 1) := by decide +kernel
theorem dX1_add_28 : decode cX1_add 28 = .ok (.iastore, 1) := by decide +kernel
theorem dX1_add_29 : decode cX1_add 29 = .ok (.aload_n 0, 1) := by decide +kernel
theorem dX1_add_30 : decode cX1_add 30 = .ok (.dup, 1) := by decide +kernel
theorem dX1_add_31 : decode cX1_add 31 = .ok (.getfield 9, 3) := by decide +kernel
theorem dX1_add_34 : decode cX1_add 34 = .ok (.iconst 1, 1) := by decide +kernel
theorem dX1_add_35 : decode cX1_add 35 = .ok (.iadd, 1) := by decide +kernel
theorem dX1_add_36 : decode cX1_add 36 = .ok (.putfield 9, 3) := by decide +kernel
theorem dX1_add_39 : decode cX1_add 39 = .ok (.return_, 1) := by decide +kernel
theorem dX1_at_0 : decode cX1_at 0 = .ok (.iload_n 1, 1) := by decide +kernel
theorem dX1_at_1 : decode cX1_at 1 = .ok (.ifCond .lt 21, 3) := by decide +kernel
theorem dX1_at_4 : decode cX1_at 4 = .ok (.iload_n 1, 1) := by decide +kernel
theorem dX1_at_5 : decode cX1_at 5 = .ok (.aload_n 0, 1) := by decide +kernel
theorem dX1_at_6 : decode cX1_at 6 = .ok (.getfield 15, 3) := by decide +kernel
theorem dX1_at_9 : decode cX1_at 9 = .ok (.arraylength, 1) := by decide +kernel
theorem dX1_at_10 : decode cX1_at 10 = .ok (.if_icmp .ge 12, 3) := by decide +kernel
theorem dX1_at_13 : decode cX1_at 13 = .ok (.aload_n 0, 1) := by decide +kernel
theorem dX1_at_14 : decode cX1_at 14 = .ok (.getfield 15, 3) := by decide +kernel
theorem dX1_at_17 : decode cX1_at 17 = .ok (.iload_n 1, 1) := by decide +kernel
theorem dX1_at_18 : decode cX1_at 18 = .ok (.iaload, 1) := by decide +kernel
theorem dX1_at_19 : decode cX1_at 19 = .ok (.goto 5, 3) := by decide +kernel
theorem dX1_at_22 : decode cX1_at 22 = .ok (.bipush (-9), 2) := by decide +kernel
theorem dX1_at_24 : decode cX1_at 24 = .ok (.ireturn, 1) := by decide +kernel
theorem dX2_init_0 : decode cX2_init 0 = .ok (.aload_n 0, 1) := by decide +kernel
theorem dX2_init_1 : decode cX2_init 1 = .ok (.invokespecial 3, 3) := by decide +kernel
theorem dX2_init_4 : decode cX2_init 4 = .ok (.aload_n 0, 1) := by decide +kernel
theorem dX2_init_5 : decode cX2_init 5 = .ok (.iconst 0, 1) := by decide +kernel
theorem dX2_init_6 : decode cX2_init 6 = .ok (.putfield 9, 3) := by decide +kernel
theorem dX2_init_9 : decode cX2_init 9 = .ok (.aload_n 0, 1) := by decide +kernel
theorem dX2_init_10 : decode cX2_init 10 = .ok (.bipush 96, 2) := by decide +kernel
theorem dX2_init_12 : decode cX2_init 12 = .ok (.newarray .int, 2) := by decide +kernel
theorem dX2_init_14 : decode cX2_init 14 = .ok (.putfield 15, 3) := by decide +kernel
theorem dX2_init_17 : decode cX2_init 17 = .ok (.return_, 1) := by decide +kernel
theorem dX2_add_0 : decode cX2_add 0 = .ok (.aload_n 0, 1) := by decide +kernel
theorem dX2_add_1 : decode cX2_add 1 = .ok (.getfield 9, 3) := by decide +kernel
theorem dX2_add_4 : decode cX2_add 4 = .ok (.ifCond .lt 35, 3) := by decide +kernel
theorem dX2_add_7 : decode cX2_add 7 = .ok (.aload_n 0, 1) := by decide +kernel
theorem dX2_add_8 : decode cX2_add 8 = .ok (.getfield 9, 3) := by decide +kernel
theorem dX2_add_11 : decode cX2_add 11 = .ok (.aload_n 0, 1) := by decide +kernel
theorem dX2_add_12 : decode cX2_add 12 = .ok (.getfield 15, 3) := by decide +kernel
theorem dX2_add_15 : decode cX2_add 15 = .ok (.arraylength, 1) := by decide +kernel
theorem dX2_add_16 : decode cX2_add 16 = .ok (.if_icmp .ge 23, 3) := by decide +kernel
theorem dX2_add_19 : decode cX2_add 19 = .ok (.aload_n 0, 1) := by decide +kernel
theorem dX2_add_20 : decode cX2_add 20 = .ok (.getfield 15, 3) := by decide +kernel
theorem dX2_add_23 : decode cX2_add 23 = .ok (.aload_n 0, 1) := by decide +kernel
theorem dX2_add_24 : decode cX2_add 24 = .ok (.getfield 9, 3) := by decide +kernel
theorem dX2_add_27 : decode cX2_add 27 = .ok (.iload_n 1, 1) := by decide +kernel
theorem dX2_add_28 : decode cX2_add 28 = .ok (.iastore, 1) := by decide +kernel
theorem dX2_add_29 : decode cX2_add 29 = .ok (.aload_n 0, 1) := by decide +kernel
theorem dX2_add_30 : decode cX2_add 30 = .ok (.dup, 1) := by decide +kernel
theorem dX2_add_31 : decode cX2_add 31 = .ok (.getfield 9, 3) := by decide +kernel
theorem dX2_add_34 : decode cX2_add 34 = .ok (.iconst 1, 1) := by decide +kernel
theorem dX2_add_35 : decode cX2_add 35 = .ok (.iadd, 1) := by decide +kernel
theorem dX2_add_36 : decode cX2_add 36 = .ok (.putfield 9, 3) := by decide +kernel
theorem dX2_add_39 : decode cX2_add 39 = .ok (.return_, 1) := by decide +kernel
theorem dX2_letterAt_0 : decode cX2_letterAt 0 = .ok (.iload_n 1, 1) := by decide +kernel
theorem dX2_letterAt_1 : decode cX2_letterAt 1 = .ok (.ifCond .lt 29, 3) := by decide +kernel
theorem dX2_letterAt_4 : decode cX2_letterAt 4 = .ok (.iload_n 1, 1) := by decide +kernel
theorem dX2_letterAt_5 : decode cX2_letterAt 5 = .ok (.aload_n 0, 1) := by decide +kernel
theorem dX2_letterAt_6 : decode cX2_letterAt 6 = .ok (.getfield 9, 3) := by decide +kernel
theorem dX2_letterAt_9 : decode cX2_letterAt 9 = .ok (.if_icmp .ge 21, 3) := by decide +kernel
theorem dX2_letterAt_12 : decode cX2_letterAt 12 = .ok (.iload_n 1, 1) := by decide +kernel
theorem dX2_letterAt_13 : decode cX2_letterAt 13 = .ok (.aload_n 0, 1) := by decide +kernel
theorem dX2_letterAt_14 : decode cX2_letterAt 14 = .ok (.getfield 15, 3) := by decide +kernel
theorem dX2_letterAt_17 : decode cX2_letterAt 17 = .ok (.arraylength, 1) := by decide +kernel
theorem dX2_letterAt_18 : decode cX2_letterAt 18 = .ok (.if_icmp .ge 12, 3) := by decide +kernel
theorem dX2_letterAt_21 : decode cX2_letterAt 21 = .ok (.aload_n 0, 1) := by decide +kernel
theorem dX2_letterAt_22 : decode cX2_letterAt 22 = .ok (.getfield 15, 3) := by decide +kernel
theorem dX2_letterAt_25 : decode cX2_letterAt 25 = .ok (.iload_n 1, 1) := by decide +kernel
theorem dX2_letterAt_26 : decode cX2_letterAt 26 = .ok (.iaload, 1) := by decide +kernel
theorem dX2_letterAt_27 : decode cX2_letterAt 27 = .ok (.goto 4, 3) := by decide +kernel
theorem dX2_letterAt_30 : decode cX2_letterAt 30 = .ok (.iconst (-1), 1) := by decide +kernel
theorem dX2_letterAt_31 : decode cX2_letterAt 31 = .ok (.ireturn, 1) := by decide +kernel
theorem dX2_formOf_0 : decode cX2_formOf 0 = .ok (.iload_n 0, 1) := by decide +kernel
theorem dX2_formOf_1 : decode cX2_formOf 1 = .ok (.tableswitch 101 99 115 #[89, 98, 101, 101, 101, 86, 101, 101, 101, 101, 95, 101, 101, 83, 101, 101, 92], 83) := by decide +kernel
theorem dX2_formOf_84 : decode cX2_formOf 84 = .ok (.ldc 19, 2) := by decide +kernel
theorem dX2_formOf_86 : decode cX2_formOf 86 = .ok (.areturn, 1) := by decide +kernel
theorem dX2_formOf_87 : decode cX2_formOf 87 = .ok (.ldc 21, 2) := by decide +kernel
theorem dX2_formOf_89 : decode cX2_formOf 89 = .ok (.areturn, 1) := by decide +kernel
theorem dX2_formOf_90 : decode cX2_formOf 90 = .ok (.ldc 23, 2) := by decide +kernel
theorem dX2_formOf_92 : decode cX2_formOf 92 = .ok (.areturn, 1) := by decide +kernel
theorem dX2_formOf_93 : decode cX2_formOf 93 = .ok (.ldc 25, 2) := by decide +kernel
theorem dX2_formOf_95 : decode cX2_formOf 95 = .ok (.areturn, 1) := by decide +kernel
theorem dX2_formOf_96 : decode cX2_formOf 96 = .ok (.ldc 27, 2) := by decide +kernel
theorem dX2_formOf_98 : decode cX2_formOf 98 = .ok (.areturn, 1) := by decide +kernel
theorem dX2_formOf_99 : decode cX2_formOf 99 = .ok (.ldc 29, 2) := by decide +kernel
theorem dX2_formOf_101 : decode cX2_formOf 101 = .ok (.areturn, 1) := by decide +kernel
theorem dX2_formOf_102 : decode cX2_formOf 102 = .ok (.ldc 31, 2) := by decide +kernel
theorem dX2_formOf_104 : decode cX2_formOf 104 = .ok (.areturn, 1) := by decide +kernel
theorem dX2_fits_0 : decode cX2_fits 0 = .ok (.iload_n 0, 1) := by decide +kernel
theorem dX2_fits_1 : decode cX2_fits 1 = .ok (.bipush 75, 2) := by decide +kernel
theorem dX2_fits_3 : decode cX2_fits 3 = .ok (.if_icmp .ne 23, 3) := by decide +kernel
theorem dX2_fits_6 : decode cX2_fits 6 = .ok (.iload_n 1, 1) := by decide +kernel
theorem dX2_fits_7 : decode cX2_fits 7 = .ok (.ifCond .lt 17, 3) := by decide +kernel
theorem dX2_fits_10 : decode cX2_fits 10 = .ok (.ldc 33, 2) := by decide +kernel
theorem dX2_fits_12 : decode cX2_fits 12 = .ok (.iload_n 1, 1) := by decide +kernel
theorem dX2_fits_13 : decode cX2_fits 13 = .ok (.i2c, 1) := by decide +kernel
theorem dX2_fits_14 : decode cX2_fits 14 = .ok (.invokevirtual 35, 3) := by decide +kernel
theorem dX2_fits_17 : decode cX2_fits 17 = .ok (.ifCond .lt 7, 3) := by decide +kernel
theorem dX2_fits_20 : decode cX2_fits 20 = .ok (.iconst 1, 1) := by decide +kernel
theorem dX2_fits_21 : decode cX2_fits 21 = .ok (.goto 4, 3) := by decide +kernel
theorem dX2_fits_24 : decode cX2_fits 24 = .ok (.iconst 0, 1) := by decide +kernel
theorem dX2_fits_25 : decode cX2_fits 25 = .ok (.ireturn, 1) := by decide +kernel
theorem dX2_fits_26 : decode cX2_fits 26 = .ok (.iload_n 0, 1) := by decide +kernel
theorem dX2_fits_27 : decode cX2_fits 27 = .ok (.bipush 35, 2) := by decide +kernel
theorem dX2_fits_29 : decode cX2_fits 29 = .ok (.if_icmp .ne 21, 3) := by decide +kernel
theorem dX2_fits_32 : decode cX2_fits 32 = .ok (.iload_n 1, 1) := by decide +kernel
theorem dX2_fits_33 : decode cX2_fits 33 = .ok (.bipush 48, 2) := by decide +kernel
theorem dX2_fits_35 : decode cX2_fits 35 = .ok (.if_icmp .lt 13, 3) := by decide +kernel
theorem dX2_fits_38 : decode cX2_fits 38 = .ok (.iload_n 1, 1) := by decide +kernel
theorem dX2_fits_39 : decode cX2_fits 39 = .ok (.bipush 57, 2) := by decide +kernel
theorem dX2_fits_41 : decode cX2_fits 41 = .ok (.if_icmp .gt 7, 3) := by decide +kernel
theorem dX2_fits_44 : decode cX2_fits 44 = .ok (.iconst 1, 1) := by decide +kernel
theorem dX2_fits_45 : decode cX2_fits 45 = .ok (.goto 4, 3) := by decide +kernel
theorem dX2_fits_48 : decode cX2_fits 48 = .ok (.iconst 0, 1) := by decide +kernel
theorem dX2_fits_49 : decode cX2_fits 49 = .ok (.ireturn, 1) := by decide +kernel
theorem dX2_fits_50 : decode cX2_fits 50 = .ok (.iload_n 1, 1) := by decide +kernel
theorem dX2_fits_51 : decode cX2_fits 51 = .ok (.iload_n 0, 1) := by decide +kernel
theorem dX2_fits_52 : decode cX2_fits 52 = .ok (.if_icmp .ne 13, 3) := by decide +kernel
theorem dX2_fits_55 : decode cX2_fits 55 = .ok (.iload_n 0, 1) := by decide +kernel
theorem dX2_fits_56 : decode cX2_fits 56 = .ok (.bipush 63, 2) := by decide +kernel
theorem dX2_fits_58 : decode cX2_fits 58 = .ok (.if_icmp .eq 7, 3) := by decide +kernel
theorem dX2_fits_61 : decode cX2_fits 61 = .ok (.iconst 1, 1) := by decide +kernel
theorem dX2_fits_62 : decode cX2_fits 62 = .ok (.goto 4, 3) := by decide +kernel
theorem dX2_fits_65 : decode cX2_fits 65 = .ok (.iconst 0, 1) := by decide +kernel
theorem dX2_fits_66 : decode cX2_fits 66 = .ok (.ireturn, 1) := by decide +kernel
theorem dX2_lengthAt_0 : decode cX2_lengthAt 0 = .ok (.aload_n 0, 1) := by decide +kernel
theorem dX2_lengthAt_1 : decode cX2_lengthAt 1 = .ok (.iload_n 1, 1) := by decide +kernel
theorem dX2_lengthAt_2 : decode cX2_lengthAt 2 = .ok (.invokevirtual 41, 3) := by decide +kernel
theorem dX2_lengthAt_5 : decode cX2_lengthAt 5 = .ok (.invokestatic 44, 3) := by decide +kernel
theorem dX2_lengthAt_8 : decode cX2_lengthAt 8 = .ok (.invokevirtual 48, 3) := by decide +kernel
theorem dX2_lengthAt_11 : decode cX2_lengthAt 11 = .ok (.ireturn, 1) := by decide +kernel
theorem dX2_firstMisfit_0 : decode cX2_firstMisfit 0 = .ok (.iconst 0, 1) := by decide +kernel
theorem dX2_firstMisfit_1 : decode cX2_firstMisfit 1 = .ok (.istore_n 1, 1) := by decide +kernel
theorem dX2_firstMisfit_2 : decode cX2_firstMisfit 2 = .ok (.aload_n 0, 1) := by decide +kernel
theorem dX2_firstMisfit_3 : decode cX2_firstMisfit 3 = .ok (.iload_n 1, 1) := by decide +kernel
theorem dX2_firstMisfit_4 : decode cX2_firstMisfit 4 = .ok (.invokevirtual 41, 3) := by decide +kernel
theorem dX2_firstMisfit_7 : decode cX2_firstMisfit 7 = .ok (.invokestatic 44, 3) := by decide +kernel
theorem dX2_firstMisfit_10 : decode cX2_firstMisfit 10 = .ok (.astore_n 2, 1) := by decide +kernel
theorem dX2_firstMisfit_11 : decode cX2_firstMisfit 11 = .ok (.iconst 0, 1) := by decide +kernel
theorem dX2_firstMisfit_12 : decode cX2_firstMisfit 12 = .ok (.istore_n 3, 1) := by decide +kernel
theorem dX2_firstMisfit_13 : decode cX2_firstMisfit 13 = .ok (.iload_n 3, 1) := by decide +kernel
theorem dX2_firstMisfit_14 : decode cX2_firstMisfit 14 = .ok (.aload_n 2, 1) := by decide +kernel
theorem dX2_firstMisfit_15 : decode cX2_firstMisfit 15 = .ok (.invokevirtual 48, 3) := by decide +kernel
theorem dX2_firstMisfit_18 : decode cX2_firstMisfit 18 = .ok (.if_icmp .ge 31, 3) := by decide +kernel
theorem dX2_firstMisfit_21 : decode cX2_firstMisfit 21 = .ok (.aload_n 2, 1) := by decide +kernel
theorem dX2_firstMisfit_22 : decode cX2_firstMisfit 22 = .ok (.iload_n 3, 1) := by decide +kernel
theorem dX2_firstMisfit_23 : decode cX2_firstMisfit 23 = .ok (.invokevirtual 52, 3) := by decide +kernel
theorem dX2_firstMisfit_26 : decode cX2_firstMisfit 26 = .ok (.aload_n 0, 1) := by decide +kernel
theorem dX2_firstMisfit_27 : decode cX2_firstMisfit 27 = .ok (.iload_n 1, 1) := by decide +kernel
theorem dX2_firstMisfit_28 : decode cX2_firstMisfit 28 = .ok (.iload_n 3, 1) := by decide +kernel
theorem dX2_firstMisfit_29 : decode cX2_firstMisfit 29 = .ok (.iadd, 1) := by decide +kernel
theorem dX2_firstMisfit_30 : decode cX2_firstMisfit 30 = .ok (.invokevirtual 41, 3) := by decide +kernel
theorem dX2_firstMisfit_33 : decode cX2_firstMisfit 33 = .ok (.invokestatic 56, 3) := by decide +kernel
theorem dX2_firstMisfit_36 : decode cX2_firstMisfit 36 = .ok (.ifCond .ne 7, 3) := by decide +kernel
theorem dX2_firstMisfit_39 : decode cX2_firstMisfit 39 = .ok (.iload_n 1, 1) := by decide +kernel
theorem dX2_firstMisfit_40 : decode cX2_firstMisfit 40 = .ok (.iload_n 3, 1) := by decide +kernel
theorem dX2_firstMisfit_41 : decode cX2_firstMisfit 41 = .ok (.iadd, 1) := by decide +kernel
theorem dX2_firstMisfit_42 : decode cX2_firstMisfit 42 = .ok (.ireturn, 1) := by decide +kernel
theorem dX2_firstMisfit_43 : decode cX2_firstMisfit 43 = .ok (.iinc 3 1, 3) := by decide +kernel
theorem dX2_firstMisfit_46 : decode cX2_firstMisfit 46 = .ok (.goto (-33), 3) := by decide +kernel
theorem dX2_firstMisfit_49 : decode cX2_firstMisfit 49 = .ok (.iload_n 1, 1) := by decide +kernel
theorem dX2_firstMisfit_50 : decode cX2_firstMisfit 50 = .ok (.iconst 1, 1) := by decide +kernel
theorem dX2_firstMisfit_51 : decode cX2_firstMisfit 51 = .ok (.aload_n 2, 1) := by decide +kernel
theorem dX2_firstMisfit_52 : decode cX2_firstMisfit 52 = .ok (.invokevirtual 48, 3) := by decide +kernel
theorem dX2_firstMisfit_55 : decode cX2_firstMisfit 55 = .ok (.invokestatic 60, 3) := by decide +kernel
theorem dX2_firstMisfit_58 : decode cX2_firstMisfit 58 = .ok (.iadd, 1) := by decide +kernel
theorem dX2_firstMisfit_59 : decode cX2_firstMisfit 59 = .ok (.istore_n 1, 1) := by decide +kernel
theorem dX2_firstMisfit_60 : decode cX2_firstMisfit 60 = .ok (.iload_n 1, 1) := by decide +kernel
theorem dX2_firstMisfit_61 : decode cX2_firstMisfit 61 = .ok (.aload_n 0, 1) := by decide +kernel
theorem dX2_firstMisfit_62 : decode cX2_firstMisfit 62 = .ok (.getfield 9, 3) := by decide +kernel
theorem dX2_firstMisfit_65 : decode cX2_firstMisfit 65 = .ok (.if_icmp .lt (-63), 3) := by decide +kernel
theorem dX2_firstMisfit_68 : decode cX2_firstMisfit 68 = .ok (.iconst (-1), 1) := by decide +kernel
theorem dX2_firstMisfit_69 : decode cX2_firstMisfit 69 = .ok (.ireturn, 1) := by decide +kernel
theorem dX2_digitAt_0 : decode cX2_digitAt 0 = .ok (.aload_n 0, 1) := by decide +kernel
theorem dX2_digitAt_1 : decode cX2_digitAt 1 = .ok (.iload_n 1, 1) := by decide +kernel
theorem dX2_digitAt_2 : decode cX2_digitAt 2 = .ok (.invokevirtual 41, 3) := by decide +kernel
theorem dX2_digitAt_5 : decode cX2_digitAt 5 = .ok (.bipush 48, 2) := by decide +kernel
theorem dX2_digitAt_7 : decode cX2_digitAt 7 = .ok (.isub, 1) := by decide +kernel
theorem dX2_digitAt_8 : decode cX2_digitAt 8 = .ok (.ireturn, 1) := by decide +kernel
theorem dX2_numberAt_0 : decode cX2_numberAt 0 = .ok (.bipush 10, 2) := by decide +kernel
theorem dX2_numberAt_2 : decode cX2_numberAt 2 = .ok (.aload_n 0, 1) := by decide +kernel
theorem dX2_numberAt_3 : decode cX2_numberAt 3 = .ok (.iload_n 1, 1) := by decide +kernel
theorem dX2_numberAt_4 : decode cX2_numberAt 4 = .ok (.invokevirtual 66, 3) := by decide +kernel
theorem dX2_numberAt_7 : decode cX2_numberAt 7 = .ok (.imul, 1) := by decide +kernel
theorem dX2_numberAt_8 : decode cX2_numberAt 8 = .ok (.aload_n 0, 1) := by decide +kernel
theorem dX2_numberAt_9 : decode cX2_numberAt 9 = .ok (.iload_n 1, 1) := by decide +kernel
theorem dX2_numberAt_10 : decode cX2_numberAt 10 = .ok (.iconst 1, 1) := by decide +kernel
theorem dX2_numberAt_11 : decode cX2_numberAt 11 = .ok (.iadd, 1) := by decide +kernel
theorem dX2_numberAt_12 : decode cX2_numberAt 12 = .ok (.invokevirtual 66, 3) := by decide +kernel
theorem dX2_numberAt_15 : decode cX2_numberAt 15 = .ok (.iadd, 1) := by decide +kernel
theorem dX2_numberAt_16 : decode cX2_numberAt 16 = .ok (.ireturn, 1) := by decide +kernel
theorem dX2_tell_0 : decode cX2_tell 0 = .ok (.aload_n 0, 1) := by decide +kernel
theorem dX2_tell_1 : decode cX2_tell 1 = .ok (.iload_n 1, 1) := by decide +kernel
theorem dX2_tell_2 : decode cX2_tell 2 = .ok (.iconst 1, 1) := by decide +kernel
theorem dX2_tell_3 : decode cX2_tell 3 = .ok (.iadd, 1) := by decide +kernel
theorem dX2_tell_4 : decode cX2_tell 4 = .ok (.invokevirtual 66, 3) := by decide +kernel
theorem dX2_tell_7 : decode cX2_tell 7 = .ok (.istore_n 3, 1) := by decide +kernel
theorem dX2_tell_8 : decode cX2_tell 8 = .ok (.aload_n 0, 1) := by decide +kernel
theorem dX2_tell_9 : decode cX2_tell 9 = .ok (.iload_n 1, 1) := by decide +kernel
theorem dX2_tell_10 : decode cX2_tell 10 = .ok (.iconst 2, 1) := by decide +kernel
theorem dX2_tell_11 : decode cX2_tell 11 = .ok (.iadd, 1) := by decide +kernel
theorem dX2_tell_12 : decode cX2_tell 12 = .ok (.invokevirtual 66, 3) := by decide +kernel
theorem dX2_tell_15 : decode cX2_tell 15 = .ok (.istore 4, 2) := by decide +kernel
theorem dX2_tell_17 : decode cX2_tell 17 = .ok (.aload_n 0, 1) := by decide +kernel
theorem dX2_tell_18 : decode cX2_tell 18 = .ok (.iload_n 1, 1) := by decide +kernel
theorem dX2_tell_19 : decode cX2_tell 19 = .ok (.invokevirtual 41, 3) := by decide +kernel
theorem dX2_tell_22 : decode cX2_tell 22 = .ok (.lookupswitch 118 #[(99, 92), (104, 77), (109, 110), (112, 50), (115, 100)], 50) := by decide +kernel
theorem dX2_tell_72 : decode cX2_tell 72 = .ok (.aload_n 2, 1) := by decide +kernel
theorem dX2_tell_73 : decode cX2_tell 73 = .ok (.ldc 33, 2) := by decide +kernel
theorem dX2_tell_75 : decode cX2_tell 75 = .ok (.aload_n 0, 1) := by decide +kernel
theorem dX2_tell_76 : decode cX2_tell 76 = .ok (.iload_n 1, 1) := by decide +kernel
theorem dX2_tell_77 : decode cX2_tell 77 = .ok (.iconst 1, 1) := by decide +kernel
theorem dX2_tell_78 : decode cX2_tell 78 = .ok (.iadd, 1) := by decide +kernel
theorem dX2_tell_79 : decode cX2_tell 79 = .ok (.invokevirtual 41, 3) := by decide +kernel
theorem dX2_tell_82 : decode cX2_tell 82 = .ok (.i2c, 1) := by decide +kernel
theorem dX2_tell_83 : decode cX2_tell 83 = .ok (.invokevirtual 35, 3) := by decide +kernel
theorem dX2_tell_86 : decode cX2_tell 86 = .ok (.iload 4, 2) := by decide +kernel
theorem dX2_tell_88 : decode cX2_tell 88 = .ok (.aload_n 0, 1) := by decide +kernel
theorem dX2_tell_89 : decode cX2_tell 89 = .ok (.iload_n 1, 1) := by decide +kernel
theorem dX2_tell_90 : decode cX2_tell 90 = .ok (.iconst 3, 1) := by decide +kernel
theorem dX2_tell_91 : decode cX2_tell 91 = .ok (.iadd, 1) := by decide +kernel
theorem dX2_tell_92 : decode cX2_tell 92 = .ok (.invokevirtual 69, 3) := by decide +kernel
theorem dX2_tell_95 : decode cX2_tell 95 = .ok (.invokevirtual 72, 3) := by decide +kernel
theorem dX2_tell_98 : decode cX2_tell 98 = .ok (.ireturn, 1) := by decide +kernel
theorem dX2_tell_99 : decode cX2_tell 99 = .ok (.aload_n 2, 1) := by decide +kernel
theorem dX2_tell_100 : decode cX2_tell 100 = .ok (.iload_n 3, 1) := by decide +kernel
theorem dX2_tell_101 : decode cX2_tell 101 = .ok (.iload 4, 2) := by decide +kernel
theorem dX2_tell_103 : decode cX2_tell 103 = .ok (.aload_n 0, 1) := by decide +kernel
theorem dX2_tell_104 : decode cX2_tell 104 = .ok (.iload_n 1, 1) := by decide +kernel
theorem dX2_tell_105 : decode cX2_tell 105 = .ok (.iconst 3, 1) := by decide +kernel
theorem dX2_tell_106 : decode cX2_tell 106 = .ok (.iadd, 1) := by decide +kernel
theorem dX2_tell_107 : decode cX2_tell 107 = .ok (.invokevirtual 69, 3) := by decide +kernel
theorem dX2_tell_110 : decode cX2_tell 110 = .ok (.invokevirtual 78, 3) := by decide +kernel
theorem dX2_tell_113 : decode cX2_tell 113 = .ok (.ireturn, 1) := by decide +kernel
theorem dX2_tell_114 : decode cX2_tell 114 = .ok (.aload_n 2, 1) := by decide +kernel
theorem dX2_tell_115 : decode cX2_tell 115 = .ok (.iload_n 3, 1) := by decide +kernel
theorem dX2_tell_116 : decode cX2_tell 116 = .ok (.iload 4, 2) := by decide +kernel
theorem dX2_tell_118 : decode cX2_tell 118 = .ok (.invokevirtual 81, 3) := by decide +kernel
theorem dX2_tell_121 : decode cX2_tell 121 = .ok (.ireturn, 1) := by decide +kernel
theorem dX2_tell_122 : decode cX2_tell 122 = .ok (.aload_n 2, 1) := by decide +kernel
theorem dX2_tell_123 : decode cX2_tell 123 = .ok (.iload_n 3, 1) := by decide +kernel
theorem dX2_tell_124 : decode cX2_tell 124 = .ok (.iload 4, 2) := by decide +kernel
theorem dX2_tell_126 : decode cX2_tell 126 = .ok (.bipush 10, 2) := by decide +kernel
theorem dX2_tell_128 : decode cX2_tell 128 = .ok (.invokevirtual 85, 3) := by decide +kernel
theorem dX2_tell_131 : decode cX2_tell 131 = .ok (.ireturn, 1) := by decide +kernel
theorem dX2_tell_132 : decode cX2_tell 132 = .ok (.aload_n 2, 1) := by decide +kernel
theorem dX2_tell_133 : decode cX2_tell 133 = .ok (.iload_n 3, 1) := by decide +kernel
theorem dX2_tell_134 : decode cX2_tell 134 = .ok (.iload 4, 2) := by decide +kernel
theorem dX2_tell_136 : decode cX2_tell 136 = .ok (.invokevirtual 88, 3) := by decide +kernel
theorem dX2_tell_139 : decode cX2_tell 139 = .ok (.ireturn, 1) := by decide +kernel
theorem dX2_tell_140 : decode cX2_tell 140 = .ok (.aload_n 0, 1) := by decide +kernel
theorem dX2_tell_141 : decode cX2_tell 141 = .ok (.iload_n 1, 1) := by decide +kernel
theorem dX2_tell_142 : decode cX2_tell 142 = .ok (.iconst 1, 1) := by decide +kernel
theorem dX2_tell_143 : decode cX2_tell 143 = .ok (.iadd, 1) := by decide +kernel
theorem dX2_tell_144 : decode cX2_tell 144 = .ok (.invokevirtual 69, 3) := by decide +kernel
theorem dX2_tell_147 : decode cX2_tell 147 = .ok (.aload_n 2, 1) := by decide +kernel
theorem dX2_tell_148 : decode cX2_tell 148 = .ok (.invokestatic 91, 3) := by decide +kernel
theorem dX2_tell_151 : decode cX2_tell 151 = .ok (.ireturn, 1) := by decide +kernel
theorem dX2_letDaysPass_0 : decode cX2_letDaysPass 0 = .ok (.iload_n 0, 1) := by decide +kernel
theorem dX2_letDaysPass_1 : decode cX2_letDaysPass 1 = .ok (.iconst 1, 1) := by decide +kernel
theorem dX2_letDaysPass_2 : decode cX2_letDaysPass 2 = .ok (.if_icmp .lt 21, 3) := by decide +kernel
theorem dX2_letDaysPass_5 : decode cX2_letDaysPass 5 = .ok (.iload_n 0, 1) := by decide +kernel
theorem dX2_letDaysPass_6 : decode cX2_letDaysPass 6 = .ok (.bipush 60, 2) := by decide +kernel
theorem dX2_letDaysPass_8 : decode cX2_letDaysPass 8 = .ok (.if_icmp .gt 15, 3) := by decide +kernel
theorem dX2_letDaysPass_11 : decode cX2_letDaysPass 11 = .ok (.aload_n 1, 1) := by decide +kernel
theorem dX2_letDaysPass_12 : decode cX2_letDaysPass 12 = .ok (.getfield 95, 3) := by decide +kernel
theorem dX2_letDaysPass_15 : decode cX2_letDaysPass 15 = .ok (.iload_n 0, 1) := by decide +kernel
theorem dX2_letDaysPass_16 : decode cX2_letDaysPass 16 = .ok (.iadd, 1) := by decide +kernel
theorem dX2_letDaysPass_17 : decode cX2_letDaysPass 17 = .ok (.sipush 999, 3) := by decide +kernel
theorem dX2_letDaysPass_20 : decode cX2_letDaysPass 20 = .ok (.if_icmp .le 5, 3) := by decide +kernel
theorem dX2_letDaysPass_23 : decode cX2_letDaysPass 23 = .ok (.iconst 0, 1) := by decide +kernel
theorem dX2_letDaysPass_24 : decode cX2_letDaysPass 24 = .ok (.ireturn, 1) := by decide +kernel
theorem dX2_letDaysPass_25 : decode cX2_letDaysPass 25 = .ok (.aload_n 1, 1) := by decide +kernel
theorem dX2_letDaysPass_26 : decode cX2_letDaysPass 26 = .ok (.iload_n 0, 1) := by decide +kernel
theorem dX2_letDaysPass_27 : decode cX2_letDaysPass 27 = .ok (.invokevirtual 98, 3) := by decide +kernel
theorem dX2_letDaysPass_30 : decode cX2_letDaysPass 30 = .ok (.iconst 1, 1) := by decide +kernel
theorem dX2_letDaysPass_31 : decode cX2_letDaysPass 31 = .ok (.ireturn, 1) := by decide +kernel
theorem dX3_init_0 : decode cX3_init 0 = .ok (.aload_n 0, 1) := by decide +kernel
theorem dX3_init_1 : decode cX3_init 1 = .ok (.invokespecial 3, 3) := by decide +kernel
theorem dX3_init_4 : decode cX3_init 4 = .ok (.aload_n 0, 1) := by decide +kernel
theorem dX3_init_5 : decode cX3_init 5 = .ok (.new 9, 3) := by decide +kernel
theorem dX3_init_8 : decode cX3_init 8 = .ok (.dup, 1) := by decide +kernel
theorem dX3_init_9 : decode cX3_init 9 = .ok (.invokespecial 11, 3) := by decide +kernel
theorem dX3_init_12 : decode cX3_init 12 = .ok (.putfield 12, 3) := by decide +kernel
theorem dX3_init_15 : decode cX3_init 15 = .ok (.aload_n 0, 1) := by decide +kernel
theorem dX3_init_16 : decode cX3_init 16 = .ok (.new 9, 3) := by decide +kernel
theorem dX3_init_19 : decode cX3_init 19 = .ok (.dup, 1) := by decide +kernel
theorem dX3_init_20 : decode cX3_init 20 = .ok (.invokespecial 11, 3) := by decide +kernel
theorem dX3_init_23 : decode cX3_init 23 = .ok (.putfield 18, 3) := by decide +kernel
theorem dX3_init_26 : decode cX3_init 26 = .ok (.aload_n 0, 1) := by decide +kernel
theorem dX3_init_27 : decode cX3_init 27 = .ok (.iconst 4, 1) := by decide +kernel
theorem dX3_init_28 : decode cX3_init 28 = .ok (.newarray .int, 2) := by decide +kernel
theorem dX3_init_30 : decode cX3_init 30 = .ok (.putfield 21, 3) := by decide +kernel
theorem dX3_init_33 : decode cX3_init 33 = .ok (.aload_n 0, 1) := by decide +kernel
theorem dX3_init_34 : decode cX3_init 34 = .ok (.iconst 4, 1) := by decide +kernel
theorem dX3_init_35 : decode cX3_init 35 = .ok (.newarray .int, 2) := by decide +kernel
theorem dX3_init_37 : decode cX3_init 37 = .ok (.putfield 25, 3) := by decide +kernel
theorem dX3_init_40 : decode cX3_init 40 = .ok (.return_, 1) := by decide +kernel
theorem dX3_behind_0 : decode cX3_behind 0 = .ok (.aload_n 0, 1) := by decide +kernel
theorem dX3_behind_1 : decode cX3_behind 1 = .ok (.getfield 12, 3) := by decide +kernel
theorem dX3_behind_4 : decode cX3_behind 4 = .ok (.aload_n 1, 1) := by decide +kernel
theorem dX3_behind_5 : decode cX3_behind 5 = .ok (.invokevirtual 28, 3) := by decide +kernel
theorem dX3_behind_8 : decode cX3_behind 8 = .ok (.aload_n 0, 1) := by decide +kernel
theorem dX3_behind_9 : decode cX3_behind 9 = .ok (.getfield 12, 3) := by decide +kernel
theorem dX3_behind_12 : decode cX3_behind 12 = .ok (.iload_n 2, 1) := by decide +kernel
theorem dX3_behind_13 : decode cX3_behind 13 = .ok (.invokevirtual 32, 3) := by decide +kernel
theorem dX3_behind_16 : decode cX3_behind 16 = .ok (.aload_n 0, 1) := by decide +kernel
theorem dX3_behind_17 : decode cX3_behind 17 = .ok (.getfield 12, 3) := by decide +kernel
theorem dX3_behind_20 : decode cX3_behind 20 = .ok (.areturn, 1) := by decide +kernel
theorem dX3_firstBrought_0 : decode cX3_firstBrought 0 = .ok (.aload_n 0, 1) := by decide +kernel
theorem dX3_firstBrought_1 : decode cX3_firstBrought 1 = .ok (.getfield 12, 3) := by decide +kernel
theorem dX3_firstBrought_4 : decode cX3_firstBrought 4 = .ok (.aload_n 1, 1) := by decide +kernel
theorem dX3_firstBrought_5 : decode cX3_firstBrought 5 = .ok (.invokevirtual 28, 3) := by decide +kernel
theorem dX3_firstBrought_8 : decode cX3_firstBrought 8 = .ok (.iconst 1, 1) := by decide +kernel
theorem dX3_firstBrought_9 : decode cX3_firstBrought 9 = .ok (.istore_n 2, 1) := by decide +kernel
theorem dX3_firstBrought_10 : decode cX3_firstBrought 10 = .ok (.iload_n 2, 1) := by decide +kernel
theorem dX3_firstBrought_11 : decode cX3_firstBrought 11 = .ok (.bipush 99, 2) := by decide +kernel
theorem dX3_firstBrought_13 : decode cX3_firstBrought 13 = .ok (.if_icmp .gt 56, 3) := by decide +kernel
theorem dX3_firstBrought_16 : decode cX3_firstBrought 16 = .ok (.aload_n 0, 1) := by decide +kernel
theorem dX3_firstBrought_17 : decode cX3_firstBrought 17 = .ok (.getfield 12, 3) := by decide +kernel
theorem dX3_firstBrought_20 : decode cX3_firstBrought 20 = .ok (.iconst 0, 1) := by decide +kernel
theorem dX3_firstBrought_21 : decode cX3_firstBrought 21 = .ok (.invokevirtual 36, 3) := by decide +kernel
theorem dX3_firstBrought_24 : decode cX3_firstBrought 24 = .ok (.iconst 0, 1) := by decide +kernel
theorem dX3_firstBrought_25 : decode cX3_firstBrought 25 = .ok (.istore_n 3, 1) := by decide +kernel
theorem dX3_firstBrought_26 : decode cX3_firstBrought 26 = .ok (.iload_n 3, 1) := by decide +kernel
theorem dX3_firstBrought_27 : decode cX3_firstBrought 27 = .ok (.aload_n 1, 1) := by decide +kernel
theorem dX3_firstBrought_28 : decode cX3_firstBrought 28 = .ok (.getfield 40, 3) := by decide +kernel
theorem dX3_firstBrought_31 : decode cX3_firstBrought 31 = .ok (.if_icmp .ge 32, 3) := by decide +kernel
theorem dX3_firstBrought_34 : decode cX3_firstBrought 34 = .ok (.aload_n 1, 1) := by decide +kernel
theorem dX3_firstBrought_35 : decode cX3_firstBrought 35 = .ok (.iload_n 3, 1) := by decide +kernel
theorem dX3_firstBrought_36 : decode cX3_firstBrought 36 = .ok (.invokevirtual 44, 3) := by decide +kernel
theorem dX3_firstBrought_39 : decode cX3_firstBrought 39 = .ok (.iconst 2, 1) := by decide +kernel
theorem dX3_firstBrought_40 : decode cX3_firstBrought 40 = .ok (.if_icmp .eq 17, 3) := by decide +kernel
theorem dX3_firstBrought_43 : decode cX3_firstBrought 43 = .ok (.aload_n 0, 1) := by decide +kernel
theorem dX3_firstBrought_44 : decode cX3_firstBrought 44 = .ok (.getfield 12, 3) := by decide +kernel
theorem dX3_firstBrought_47 : decode cX3_firstBrought 47 = .ok (.iload_n 3, 1) := by decide +kernel
theorem dX3_firstBrought_48 : decode cX3_firstBrought 48 = .ok (.invokevirtual 44, 3) := by decide +kernel
theorem dX3_firstBrought_51 : decode cX3_firstBrought 51 = .ok (.iconst 2, 1) := by decide +kernel
theorem dX3_firstBrought_52 : decode cX3_firstBrought 52 = .ok (.if_icmp .ne 5, 3) := by decide +kernel
theorem dX3_firstBrought_55 : decode cX3_firstBrought 55 = .ok (.iload_n 3, 1) := by decide +kernel
theorem dX3_firstBrought_56 : decode cX3_firstBrought 56 = .ok (.ireturn, 1) := by decide +kernel
theorem dX3_firstBrought_57 : decode cX3_firstBrought 57 = .ok (.iinc 3 1, 3) := by decide +kernel
theorem dX3_firstBrought_60 : decode cX3_firstBrought 60 = .ok (.goto (-34), 3) := by decide +kernel
theorem dX3_firstBrought_63 : decode cX3_firstBrought 63 = .ok (.iinc 2 1, 3) := by decide +kernel
theorem dX3_firstBrought_66 : decode cX3_firstBrought 66 = .ok (.goto (-56), 3) := by decide +kernel
theorem dX3_firstBrought_69 : decode cX3_firstBrought 69 = .ok (.bipush (-9), 2) := by decide +kernel
theorem dX3_firstBrought_71 : decode cX3_firstBrought 71 = .ok (.ireturn, 1) := by decide +kernel
theorem dX3_daysTillAll_0 : decode cX3_daysTillAll 0 = .ok (.aload_n 0, 1) := by decide +kernel
theorem dX3_daysTillAll_1 : decode cX3_daysTillAll 1 = .ok (.getfield 12, 3) := by decide +kernel
theorem dX3_daysTillAll_4 : decode cX3_daysTillAll 4 = .ok (.aload_n 1, 1) := by decide +kernel
theorem dX3_daysTillAll_5 : decode cX3_daysTillAll 5 = .ok (.invokevirtual 28, 3) := by decide +kernel
theorem dX3_daysTillAll_8 : decode cX3_daysTillAll 8 = .ok (.iconst 0, 1) := by decide +kernel
theorem dX3_daysTillAll_9 : decode cX3_daysTillAll 9 = .ok (.istore_n 2, 1) := by decide +kernel
theorem dX3_daysTillAll_10 : decode cX3_daysTillAll 10 = .ok (.iload_n 2, 1) := by decide +kernel
theorem dX3_daysTillAll_11 : decode cX3_daysTillAll 11 = .ok (.bipush 99, 2) := by decide +kernel
theorem dX3_daysTillAll_13 : decode cX3_daysTillAll 13 = .ok (.if_icmp .gt 36, 3) := by decide +kernel
theorem dX3_daysTillAll_16 : decode cX3_daysTillAll 16 = .ok (.aload_n 0, 1) := by decide +kernel
theorem dX3_daysTillAll_17 : decode cX3_daysTillAll 17 = .ok (.getfield 12, 3) := by decide +kernel
theorem dX3_daysTillAll_20 : decode cX3_daysTillAll 20 = .ok (.invokevirtual 48, 3) := by decide +kernel
theorem dX3_daysTillAll_23 : decode cX3_daysTillAll 23 = .ok (.aload_n 0, 1) := by decide +kernel
theorem dX3_daysTillAll_24 : decode cX3_daysTillAll 24 = .ok (.getfield 12, 3) := by decide +kernel
theorem dX3_daysTillAll_27 : decode cX3_daysTillAll 27 = .ok (.getfield 40, 3) := by decide +kernel
theorem dX3_daysTillAll_30 : decode cX3_daysTillAll 30 = .ok (.if_icmp .ne 5, 3) := by decide +kernel
theorem dX3_daysTillAll_33 : decode cX3_daysTillAll 33 = .ok (.iload_n 2, 1) := by decide +kernel
theorem dX3_daysTillAll_34 : decode cX3_daysTillAll 34 = .ok (.ireturn, 1) := by decide +kernel
theorem dX3_daysTillAll_35 : decode cX3_daysTillAll 35 = .ok (.aload_n 0, 1) := by decide +kernel
theorem dX3_daysTillAll_36 : decode cX3_daysTillAll 36 = .ok (.getfield 12, 3) := by decide +kernel
theorem dX3_daysTillAll_39 : decode cX3_daysTillAll 39 = .ok (.iconst 0, 1) := by decide +kernel
theorem dX3_daysTillAll_40 : decode cX3_daysTillAll 40 = .ok (.invokevirtual 36, 3) := by decide +kernel
theorem dX3_daysTillAll_43 : decode cX3_daysTillAll 43 = .ok (.iinc 2 1, 3) := by decide +kernel
theorem dX3_daysTillAll_46 : decode cX3_daysTillAll 46 = .ok (.goto (-36), 3) := by decide +kernel
theorem dX3_daysTillAll_49 : decode cX3_daysTillAll 49 = .ok (.bipush 100, 2) := by decide +kernel
theorem dX3_daysTillAll_51 : decode cX3_daysTillAll 51 = .ok (.ireturn, 1) := by decide +kernel
theorem dX3_bestSlight_0 : decode cX3_bestSlight 0 = .ok (.aload_n 1, 1) := by decide +kernel
theorem dX3_bestSlight_1 : decode cX3_bestSlight 1 = .ok (.iload_n 2, 1) := by decide +kernel
theorem dX3_bestSlight_2 : decode cX3_bestSlight 2 = .ok (.invokevirtual 52, 3) := by decide +kernel
theorem dX3_bestSlight_5 : decode cX3_bestSlight 5 = .ok (.istore_n 3, 1) := by decide +kernel
theorem dX3_bestSlight_6 : decode cX3_bestSlight 6 = .ok (.aload_n 0, 1) := by decide +kernel
theorem dX3_bestSlight_7 : decode cX3_bestSlight 7 = .ok (.getfield 12, 3) := by decide +kernel
theorem dX3_bestSlight_10 : decode cX3_bestSlight 10 = .ok (.aload_n 1, 1) := by decide +kernel
theorem dX3_bestSlight_11 : decode cX3_bestSlight 11 = .ok (.invokevirtual 28, 3) := by decide +kernel
theorem dX3_bestSlight_14 : decode cX3_bestSlight 14 = .ok (.aload_n 0, 1) := by decide +kernel
theorem dX3_bestSlight_15 : decode cX3_bestSlight 15 = .ok (.getfield 12, 3) := by decide +kernel
theorem dX3_bestSlight_18 : decode cX3_bestSlight 18 = .ok (.iload_n 2, 1) := by decide +kernel
theorem dX3_bestSlight_19 : decode cX3_bestSlight 19 = .ok (.bipush 99, 2) := by decide +kernel
theorem dX3_bestSlight_21 : decode cX3_bestSlight 21 = .ok (.invokestatic 55, 3) := by decide +kernel
theorem dX3_bestSlight_24 : decode cX3_bestSlight 24 = .ok (.istore 4, 2) := by decide +kernel
theorem dX3_bestSlight_26 : decode cX3_bestSlight 26 = .ok (.bipush (-9), 2) := by decide +kernel
theorem dX3_bestSlight_28 : decode cX3_bestSlight 28 = .ok (.istore 5, 2) := by decide +kernel
theorem dX3_bestSlight_30 : decode cX3_bestSlight 30 = .ok (.iconst 0, 1) := by decide +kernel
theorem dX3_bestSlight_31 : decode cX3_bestSlight 31 = .ok (.istore 6, 2) := by decide +kernel
theorem dX3_bestSlight_33 : decode cX3_bestSlight 33 = .ok (.iload 6, 2) := by decide +kernel
theorem dX3_bestSlight_35 : decode cX3_bestSlight 35 = .ok (.aload_n 1, 1) := by decide +kernel
theorem dX3_bestSlight_36 : decode cX3_bestSlight 36 = .ok (.getfield 59, 3) := by decide +kernel
theorem dX3_bestSlight_39 : decode cX3_bestSlight 39 = .ok (.if_icmp .ge 66, 3) := by decide +kernel
theorem dX3_bestSlight_42 : decode cX3_bestSlight 42 = .ok (.iload 6, 2) := by decide +kernel
theorem dX3_bestSlight_44 : decode cX3_bestSlight 44 = .ok (.iload_n 3, 1) := by decide +kernel
theorem dX3_bestSlight_45 : decode cX3_bestSlight 45 = .ok (.if_icmp .ne 6, 3) := by decide +kernel
theorem dX3_bestSlight_48 : decode cX3_bestSlight 48 = .ok (.goto 51, 3) := by decide +kernel
theorem dX3_bestSlight_51 : decode cX3_bestSlight 51 = .ok (.aload_n 0, 1) := by decide +kernel
theorem dX3_bestSlight_52 : decode cX3_bestSlight 52 = .ok (.getfield 12, 3) := by decide +kernel
theorem dX3_bestSlight_55 : decode cX3_bestSlight 55 = .ok (.aload_n 1, 1) := by decide +kernel
theorem dX3_bestSlight_56 : decode cX3_bestSlight 56 = .ok (.invokevirtual 28, 3) := by decide +kernel
theorem dX3_bestSlight_59 : decode cX3_bestSlight 59 = .ok (.aload_n 0, 1) := by decide +kernel
theorem dX3_bestSlight_60 : decode cX3_bestSlight 60 = .ok (.getfield 12, 3) := by decide +kernel
theorem dX3_bestSlight_63 : decode cX3_bestSlight 63 = .ok (.iload 6, 2) := by decide +kernel
theorem dX3_bestSlight_65 : decode cX3_bestSlight 65 = .ok (.iload_n 3, 1) := by decide +kernel
theorem dX3_bestSlight_66 : decode cX3_bestSlight 66 = .ok (.bipush 10, 2) := by decide +kernel
theorem dX3_bestSlight_68 : decode cX3_bestSlight 68 = .ok (.invokevirtual 62, 3) := by decide +kernel
theorem dX3_bestSlight_71 : decode cX3_bestSlight 71 = .ok (.pop, 1) := by decide +kernel
theorem dX3_bestSlight_72 : decode cX3_bestSlight 72 = .ok (.aload_n 0, 1) := by decide +kernel
theorem dX3_bestSlight_73 : decode cX3_bestSlight 73 = .ok (.getfield 12, 3) := by decide +kernel
theorem dX3_bestSlight_76 : decode cX3_bestSlight 76 = .ok (.iload_n 2, 1) := by decide +kernel
theorem dX3_bestSlight_77 : decode cX3_bestSlight 77 = .ok (.bipush 99, 2) := by decide +kernel
theorem dX3_bestSlight_79 : decode cX3_bestSlight 79 = .ok (.invokestatic 55, 3) := by decide +kernel
theorem dX3_bestSlight_82 : decode cX3_bestSlight 82 = .ok (.istore 7, 2) := by decide +kernel
theorem dX3_bestSlight_84 : decode cX3_bestSlight 84 = .ok (.iload 7, 2) := by decide +kernel
theorem dX3_bestSlight_86 : decode cX3_bestSlight 86 = .ok (.iload 4, 2) := by decide +kernel
theorem dX3_bestSlight_88 : decode cX3_bestSlight 88 = .ok (.if_icmp .ge 11, 3) := by decide +kernel
theorem dX3_bestSlight_91 : decode cX3_bestSlight 91 = .ok (.iload 7, 2) := by decide +kernel
theorem dX3_bestSlight_93 : decode cX3_bestSlight 93 = .ok (.istore 4, 2) := by decide +kernel
theorem dX3_bestSlight_95 : decode cX3_bestSlight 95 = .ok (.iload 6, 2) := by decide +kernel
theorem dX3_bestSlight_97 : decode cX3_bestSlight 97 = .ok (.istore 5, 2) := by decide +kernel
theorem dX3_bestSlight_99 : decode cX3_bestSlight 99 = .ok (.iinc 6 1, 3) := by decide +kernel
theorem dX3_bestSlight_102 : decode cX3_bestSlight 102 = .ok (.goto (-69), 3) := by decide +kernel
theorem dX3_bestSlight_105 : decode cX3_bestSlight 105 = .ok (.iload 5, 2) := by decide +kernel
theorem dX3_bestSlight_107 : decode cX3_bestSlight 107 = .ok (.ireturn, 1) := by decide +kernel
theorem dX3_worstPeace_0 : decode cX3_worstPeace 0 = .ok (.aload_n 1, 1) := by decide +kernel
theorem dX3_worstPeace_1 : decode cX3_worstPeace 1 = .ok (.iload_n 2, 1) := by decide +kernel
theorem dX3_worstPeace_2 : decode cX3_worstPeace 2 = .ok (.invokevirtual 52, 3) := by decide +kernel
theorem dX3_worstPeace_5 : decode cX3_worstPeace 5 = .ok (.istore_n 3, 1) := by decide +kernel
theorem dX3_worstPeace_6 : decode cX3_worstPeace 6 = .ok (.aload_n 0, 1) := by decide +kernel
theorem dX3_worstPeace_7 : decode cX3_worstPeace 7 = .ok (.getfield 12, 3) := by decide +kernel
theorem dX3_worstPeace_10 : decode cX3_worstPeace 10 = .ok (.aload_n 1, 1) := by decide +kernel
theorem dX3_worstPeace_11 : decode cX3_worstPeace 11 = .ok (.invokevirtual 28, 3) := by decide +kernel
theorem dX3_worstPeace_14 : decode cX3_worstPeace 14 = .ok (.aload_n 0, 1) := by decide +kernel
theorem dX3_worstPeace_15 : decode cX3_worstPeace 15 = .ok (.getfield 12, 3) := by decide +kernel
theorem dX3_worstPeace_18 : decode cX3_worstPeace 18 = .ok (.iload_n 2, 1) := by decide +kernel
theorem dX3_worstPeace_19 : decode cX3_worstPeace 19 = .ok (.bipush 99, 2) := by decide +kernel
theorem dX3_worstPeace_21 : decode cX3_worstPeace 21 = .ok (.invokestatic 55, 3) := by decide +kernel
theorem dX3_worstPeace_24 : decode cX3_worstPeace 24 = .ok (.istore 4, 2) := by decide +kernel
theorem dX3_worstPeace_26 : decode cX3_worstPeace 26 = .ok (.bipush (-9), 2) := by decide +kernel
theorem dX3_worstPeace_28 : decode cX3_worstPeace 28 = .ok (.istore 5, 2) := by decide +kernel
theorem dX3_worstPeace_30 : decode cX3_worstPeace 30 = .ok (.iconst 0, 1) := by decide +kernel
theorem dX3_worstPeace_31 : decode cX3_worstPeace 31 = .ok (.istore 6, 2) := by decide +kernel
theorem dX3_worstPeace_33 : decode cX3_worstPeace 33 = .ok (.iload 6, 2) := by decide +kernel
theorem dX3_worstPeace_35 : decode cX3_worstPeace 35 = .ok (.aload_n 1, 1) := by decide +kernel
theorem dX3_worstPeace_36 : decode cX3_worstPeace 36 = .ok (.getfield 59, 3) := by decide +kernel
theorem dX3_worstPeace_39 : decode cX3_worstPeace 39 = .ok (.if_icmp .ge 64, 3) := by decide +kernel
theorem dX3_worstPeace_42 : decode cX3_worstPeace 42 = .ok (.iload 6, 2) := by decide +kernel
theorem dX3_worstPeace_44 : decode cX3_worstPeace 44 = .ok (.iload_n 3, 1) := by decide +kernel
theorem dX3_worstPeace_45 : decode cX3_worstPeace 45 = .ok (.if_icmp .ne 6, 3) := by decide +kernel
theorem dX3_worstPeace_48 : decode cX3_worstPeace 48 = .ok (.goto 49, 3) := by decide +kernel
theorem dX3_worstPeace_51 : decode cX3_worstPeace 51 = .ok (.aload_n 0, 1) := by decide +kernel
theorem dX3_worstPeace_52 : decode cX3_worstPeace 52 = .ok (.getfield 12, 3) := by decide +kernel
theorem dX3_worstPeace_55 : decode cX3_worstPeace 55 = .ok (.aload_n 1, 1) := by decide +kernel
theorem dX3_worstPeace_56 : decode cX3_worstPeace 56 = .ok (.invokevirtual 28, 3) := by decide +kernel
theorem dX3_worstPeace_59 : decode cX3_worstPeace 59 = .ok (.aload_n 0, 1) := by decide +kernel
theorem dX3_worstPeace_60 : decode cX3_worstPeace 60 = .ok (.getfield 12, 3) := by decide +kernel
theorem dX3_worstPeace_63 : decode cX3_worstPeace 63 = .ok (.iload_n 3, 1) := by decide +kernel
theorem dX3_worstPeace_64 : decode cX3_worstPeace 64 = .ok (.iload 6, 2) := by decide +kernel
theorem dX3_worstPeace_66 : decode cX3_worstPeace 66 = .ok (.invokevirtual 66, 3) := by decide +kernel
theorem dX3_worstPeace_69 : decode cX3_worstPeace 69 = .ok (.pop, 1) := by decide +kernel
theorem dX3_worstPeace_70 : decode cX3_worstPeace 70 = .ok (.aload_n 0, 1) := by decide +kernel
theorem dX3_worstPeace_71 : decode cX3_worstPeace 71 = .ok (.getfield 12, 3) := by decide +kernel
theorem dX3_worstPeace_74 : decode cX3_worstPeace 74 = .ok (.iload_n 2, 1) := by decide +kernel
theorem dX3_worstPeace_75 : decode cX3_worstPeace 75 = .ok (.bipush 99, 2) := by decide +kernel
theorem dX3_worstPeace_77 : decode cX3_worstPeace 77 = .ok (.invokestatic 55, 3) := by decide +kernel
theorem dX3_worstPeace_80 : decode cX3_worstPeace 80 = .ok (.istore 7, 2) := by decide +kernel
theorem dX3_worstPeace_82 : decode cX3_worstPeace 82 = .ok (.iload 7, 2) := by decide +kernel
theorem dX3_worstPeace_84 : decode cX3_worstPeace 84 = .ok (.iload 4, 2) := by decide +kernel
theorem dX3_worstPeace_86 : decode cX3_worstPeace 86 = .ok (.if_icmp .le 11, 3) := by decide +kernel
theorem dX3_worstPeace_89 : decode cX3_worstPeace 89 = .ok (.iload 7, 2) := by decide +kernel
theorem dX3_worstPeace_91 : decode cX3_worstPeace 91 = .ok (.istore 4, 2) := by decide +kernel
theorem dX3_worstPeace_93 : decode cX3_worstPeace 93 = .ok (.iload 6, 2) := by decide +kernel
theorem dX3_worstPeace_95 : decode cX3_worstPeace 95 = .ok (.istore 5, 2) := by decide +kernel
theorem dX3_worstPeace_97 : decode cX3_worstPeace 97 = .ok (.iinc 6 1, 3) := by decide +kernel
theorem dX3_worstPeace_100 : decode cX3_worstPeace 100 = .ok (.goto (-67), 3) := by decide +kernel
theorem dX3_worstPeace_103 : decode cX3_worstPeace 103 = .ok (.iload 5, 2) := by decide +kernel
theorem dX3_worstPeace_105 : decode cX3_worstPeace 105 = .ok (.ireturn, 1) := by decide +kernel
theorem dX3_isEnough_0 : decode cX3_isEnough 0 = .ok (.iconst 1, 1) := by decide +kernel
theorem dX3_isEnough_1 : decode cX3_isEnough 1 = .ok (.istore 5, 2) := by decide +kernel
theorem dX3_isEnough_3 : decode cX3_isEnough 3 = .ok (.iconst 0, 1) := by decide +kernel
theorem dX3_isEnough_4 : decode cX3_isEnough 4 = .ok (.istore 6, 2) := by decide +kernel
theorem dX3_isEnough_6 : decode cX3_isEnough 6 = .ok (.iload 6, 2) := by decide +kernel
theorem dX3_isEnough_8 : decode cX3_isEnough 8 = .ok (.iload 4, 2) := by decide +kernel
theorem dX3_isEnough_10 : decode cX3_isEnough 10 = .ok (.if_icmp .ge 18, 3) := by decide +kernel
theorem dX3_isEnough_13 : decode cX3_isEnough 13 = .ok (.iload 5, 2) := by decide +kernel
theorem dX3_isEnough_15 : decode cX3_isEnough 15 = .ok (.aload_n 1, 1) := by decide +kernel
theorem dX3_isEnough_16 : decode cX3_isEnough 16 = .ok (.getfield 59, 3) := by decide +kernel
theorem dX3_isEnough_19 : decode cX3_isEnough 19 = .ok (.imul, 1) := by decide +kernel
theorem dX3_isEnough_20 : decode cX3_isEnough 20 = .ok (.istore 5, 2) := by decide +kernel
theorem dX3_isEnough_22 : decode cX3_isEnough 22 = .ok (.iinc 6 1, 3) := by decide +kernel
theorem dX3_isEnough_25 : decode cX3_isEnough 25 = .ok (.goto (-19), 3) := by decide +kernel
theorem dX3_isEnough_28 : decode cX3_isEnough 28 = .ok (.iconst 0, 1) := by decide +kernel
theorem dX3_isEnough_29 : decode cX3_isEnough 29 = .ok (.istore 6, 2) := by decide +kernel
theorem dX3_isEnough_31 : decode cX3_isEnough 31 = .ok (.iload 6, 2) := by decide +kernel
theorem dX3_isEnough_33 : decode cX3_isEnough 33 = .ok (.iload 5, 2) := by decide +kernel
theorem dX3_isEnough_35 : decode cX3_isEnough 35 = .ok (.if_icmp .ge 48, 3) := by decide +kernel
theorem dX3_isEnough_38 : decode cX3_isEnough 38 = .ok (.aload_n 0, 1) := by decide +kernel
theorem dX3_isEnough_39 : decode cX3_isEnough 39 = .ok (.getfield 12, 3) := by decide +kernel
theorem dX3_isEnough_42 : decode cX3_isEnough 42 = .ok (.aload_n 1, 1) := by decide +kernel
theorem dX3_isEnough_43 : decode cX3_isEnough 43 = .ok (.invokevirtual 28, 3) := by decide +kernel
theorem dX3_isEnough_46 : decode cX3_isEnough 46 = .ok (.aload_n 0, 1) := by decide +kernel
theorem dX3_isEnough_47 : decode cX3_isEnough 47 = .ok (.iload 6, 2) := by decide +kernel
theorem dX3_isEnough_49 : decode cX3_isEnough 49 = .ok (.iload 4, 2) := by decide +kernel
theorem dX3_isEnough_51 : decode cX3_isEnough 51 = .ok (.aload_n 1, 1) := by decide +kernel
theorem dX3_isEnough_52 : decode cX3_isEnough 52 = .ok (.iload_n 2, 1) := by decide +kernel
theorem dX3_isEnough_53 : decode cX3_isEnough 53 = .ok (.invokevirtual 52, 3) := by decide +kernel
theorem dX3_isEnough_56 : decode cX3_isEnough 56 = .ok (.invokevirtual 70, 3) := by decide +kernel
theorem dX3_isEnough_59 : decode cX3_isEnough 59 = .ok (.ifCond .eq 18, 3) := by decide +kernel
theorem dX3_isEnough_62 : decode cX3_isEnough 62 = .ok (.aload_n 0, 1) := by decide +kernel
theorem dX3_isEnough_63 : decode cX3_isEnough 63 = .ok (.getfield 12, 3) := by decide +kernel
theorem dX3_isEnough_66 : decode cX3_isEnough 66 = .ok (.iload_n 2, 1) := by decide +kernel
theorem dX3_isEnough_67 : decode cX3_isEnough 67 = .ok (.iload_n 3, 1) := by decide +kernel
theorem dX3_isEnough_68 : decode cX3_isEnough 68 = .ok (.invokestatic 55, 3) := by decide +kernel
theorem dX3_isEnough_71 : decode cX3_isEnough 71 = .ok (.iload_n 3, 1) := by decide +kernel
theorem dX3_isEnough_72 : decode cX3_isEnough 72 = .ok (.if_icmp .gt 5, 3) := by decide +kernel
theorem dX3_isEnough_75 : decode cX3_isEnough 75 = .ok (.iconst 1, 1) := by decide +kernel
theorem dX3_isEnough_76 : decode cX3_isEnough 76 = .ok (.ireturn, 1) := by decide +kernel
theorem dX3_isEnough_77 : decode cX3_isEnough 77 = .ok (.iinc 6 1, 3) := by decide +kernel
theorem dX3_isEnough_80 : decode cX3_isEnough 80 = .ok (.goto (-49), 3) := by decide +kernel
theorem dX3_isEnough_83 : decode cX3_isEnough 83 = .ok (.iconst 0, 1) := by decide +kernel
theorem dX3_isEnough_84 : decode cX3_isEnough 84 = .ok (.ireturn, 1) := by decide +kernel
theorem dX3_slightAll_0 : decode cX3_slightAll 0 = .ok (.iconst 1, 1) := by decide +kernel
theorem dX3_slightAll_1 : decode cX3_slightAll 1 = .ok (.aload_n 0, 1) := by decide +kernel
theorem dX3_slightAll_2 : decode cX3_slightAll 2 = .ok (.getfield 12, 3) := by decide +kernel
theorem dX3_slightAll_5 : decode cX3_slightAll 5 = .ok (.getfield 59, 3) := by decide +kernel
theorem dX3_slightAll_8 : decode cX3_slightAll 8 = .ok (.invokestatic 73, 3) := by decide +kernel
theorem dX3_slightAll_11 : decode cX3_slightAll 11 = .ok (.istore 4, 2) := by decide +kernel
theorem dX3_slightAll_13 : decode cX3_slightAll 13 = .ok (.iload_n 1, 1) := by decide +kernel
theorem dX3_slightAll_14 : decode cX3_slightAll 14 = .ok (.istore 5, 2) := by decide +kernel
theorem dX3_slightAll_16 : decode cX3_slightAll 16 = .ok (.iconst 0, 1) := by decide +kernel
theorem dX3_slightAll_17 : decode cX3_slightAll 17 = .ok (.istore 6, 2) := by decide +kernel
theorem dX3_slightAll_19 : decode cX3_slightAll 19 = .ok (.iconst 0, 1) := by decide +kernel
theorem dX3_slightAll_20 : decode cX3_slightAll 20 = .ok (.istore 7, 2) := by decide +kernel
theorem dX3_slightAll_22 : decode cX3_slightAll 22 = .ok (.iload 7, 2) := by decide +kernel
theorem dX3_slightAll_24 : decode cX3_slightAll 24 = .ok (.iload_n 2, 1) := by decide +kernel
theorem dX3_slightAll_25 : decode cX3_slightAll 25 = .ok (.if_icmp .ge 55, 3) := by decide +kernel
theorem dX3_slightAll_28 : decode cX3_slightAll 28 = .ok (.iload 5, 2) := by decide +kernel
theorem dX3_slightAll_30 : decode cX3_slightAll 30 = .ok (.iload 4, 2) := by decide +kernel
theorem dX3_slightAll_32 : decode cX3_slightAll 32 = .ok (.irem, 1) := by decide +kernel
theorem dX3_slightAll_33 : decode cX3_slightAll 33 = .ok (.istore 8, 2) := by decide +kernel
theorem dX3_slightAll_35 : decode cX3_slightAll 35 = .ok (.iload 5, 2) := by decide +kernel
theorem dX3_slightAll_37 : decode cX3_slightAll 37 = .ok (.iload 4, 2) := by decide +kernel
theorem dX3_slightAll_39 : decode cX3_slightAll 39 = .ok (.idiv, 1) := by decide +kernel
theorem dX3_slightAll_40 : decode cX3_slightAll 40 = .ok (.istore 5, 2) := by decide +kernel
theorem dX3_slightAll_42 : decode cX3_slightAll 42 = .ok (.iload 8, 2) := by decide +kernel
theorem dX3_slightAll_44 : decode cX3_slightAll 44 = .ok (.iload_n 3, 1) := by decide +kernel
theorem dX3_slightAll_45 : decode cX3_slightAll 45 = .ok (.if_icmp .eq 10, 3) := by decide +kernel
theorem dX3_slightAll_48 : decode cX3_slightAll 48 = .ok (.iload 8, 2) := by decide +kernel
theorem dX3_slightAll_50 : decode cX3_slightAll 50 = .ok (.iload 6, 2) := by decide +kernel
theorem dX3_slightAll_52 : decode cX3_slightAll 52 = .ok (.if_icmp .ge 5, 3) := by decide +kernel
theorem dX3_slightAll_55 : decode cX3_slightAll 55 = .ok (.iconst 0, 1) := by decide +kernel
theorem dX3_slightAll_56 : decode cX3_slightAll 56 = .ok (.ireturn, 1) := by decide +kernel
theorem dX3_slightAll_57 : decode cX3_slightAll 57 = .ok (.aload_n 0, 1) := by decide +kernel
theorem dX3_slightAll_58 : decode cX3_slightAll 58 = .ok (.getfield 12, 3) := by decide +kernel
theorem dX3_slightAll_61 : decode cX3_slightAll 61 = .ok (.iload 8, 2) := by decide +kernel
theorem dX3_slightAll_63 : decode cX3_slightAll 63 = .ok (.iload_n 3, 1) := by decide +kernel
theorem dX3_slightAll_64 : decode cX3_slightAll 64 = .ok (.bipush 10, 2) := by decide +kernel
theorem dX3_slightAll_66 : decode cX3_slightAll 66 = .ok (.invokevirtual 62, 3) := by decide +kernel
theorem dX3_slightAll_69 : decode cX3_slightAll 69 = .ok (.pop, 1) := by decide +kernel
theorem dX3_slightAll_70 : decode cX3_slightAll 70 = .ok (.iload 8, 2) := by decide +kernel
theorem dX3_slightAll_72 : decode cX3_slightAll 72 = .ok (.istore 6, 2) := by decide +kernel
theorem dX3_slightAll_74 : decode cX3_slightAll 74 = .ok (.iinc 7 1, 3) := by decide +kernel
theorem dX3_slightAll_77 : decode cX3_slightAll 77 = .ok (.goto (-55), 3) := by decide +kernel
theorem dX3_slightAll_80 : decode cX3_slightAll 80 = .ok (.iconst 1, 1) := by decide +kernel
theorem dX3_slightAll_81 : decode cX3_slightAll 81 = .ok (.ireturn, 1) := by decide +kernel
theorem dX3_bestPosting_0 : decode cX3_bestPosting 0 = .ok (.bipush 100, 2) := by decide +kernel
theorem dX3_bestPosting_2 : decode cX3_bestPosting 2 = .ok (.istore 4, 2) := by decide +kernel
theorem dX3_bestPosting_4 : decode cX3_bestPosting 4 = .ok (.bipush (-9), 2) := by decide +kernel
theorem dX3_bestPosting_6 : decode cX3_bestPosting 6 = .ok (.istore 5, 2) := by decide +kernel
theorem dX3_bestPosting_8 : decode cX3_bestPosting 8 = .ok (.aload_n 0, 1) := by decide +kernel
theorem dX3_bestPosting_9 : decode cX3_bestPosting 9 = .ok (.getfield 12, 3) := by decide +kernel
theorem dX3_bestPosting_12 : decode cX3_bestPosting 12 = .ok (.aload_n 1, 1) := by decide +kernel
theorem dX3_bestPosting_13 : decode cX3_bestPosting 13 = .ok (.invokevirtual 28, 3) := by decide +kernel
theorem dX3_bestPosting_16 : decode cX3_bestPosting 16 = .ok (.iconst 0, 1) := by decide +kernel
theorem dX3_bestPosting_17 : decode cX3_bestPosting 17 = .ok (.istore 6, 2) := by decide +kernel
theorem dX3_bestPosting_19 : decode cX3_bestPosting 19 = .ok (.iload 6, 2) := by decide +kernel
theorem dX3_bestPosting_21 : decode cX3_bestPosting 21 = .ok (.bipush 30, 2) := by decide +kernel
theorem dX3_bestPosting_23 : decode cX3_bestPosting 23 = .ok (.if_icmp .gt 84, 3) := by decide +kernel
theorem dX3_bestPosting_26 : decode cX3_bestPosting 26 = .ok (.aload_n 0, 1) := by decide +kernel
theorem dX3_bestPosting_27 : decode cX3_bestPosting 27 = .ok (.getfield 18, 3) := by decide +kernel
theorem dX3_bestPosting_30 : decode cX3_bestPosting 30 = .ok (.aload_n 0, 1) := by decide +kernel
theorem dX3_bestPosting_31 : decode cX3_bestPosting 31 = .ok (.getfield 12, 3) := by decide +kernel
theorem dX3_bestPosting_34 : decode cX3_bestPosting 34 = .ok (.invokevirtual 28, 3) := by decide +kernel
theorem dX3_bestPosting_37 : decode cX3_bestPosting 37 = .ok (.aload_n 0, 1) := by decide +kernel
theorem dX3_bestPosting_38 : decode cX3_bestPosting 38 = .ok (.getfield 18, 3) := by decide +kernel
theorem dX3_bestPosting_41 : decode cX3_bestPosting 41 = .ok (.iload_n 2, 1) := by decide +kernel
theorem dX3_bestPosting_42 : decode cX3_bestPosting 42 = .ok (.iconst 0, 1) := by decide +kernel
theorem dX3_bestPosting_43 : decode cX3_bestPosting 43 = .ok (.invokevirtual 79, 3) := by decide +kernel
theorem dX3_bestPosting_46 : decode cX3_bestPosting 46 = .ok (.ifCond .ne 6, 3) := by decide +kernel
theorem dX3_bestPosting_49 : decode cX3_bestPosting 49 = .ok (.bipush (-9), 2) := by decide +kernel
theorem dX3_bestPosting_51 : decode cX3_bestPosting 51 = .ok (.ireturn, 1) := by decide +kernel
theorem dX3_bestPosting_52 : decode cX3_bestPosting 52 = .ok (.iload 6, 2) := by decide +kernel
theorem dX3_bestPosting_54 : decode cX3_bestPosting 54 = .ok (.aload_n 0, 1) := by decide +kernel
theorem dX3_bestPosting_55 : decode cX3_bestPosting 55 = .ok (.getfield 18, 3) := by decide +kernel
theorem dX3_bestPosting_58 : decode cX3_bestPosting 58 = .ok (.aload_n 0, 1) := by decide +kernel
theorem dX3_bestPosting_59 : decode cX3_bestPosting 59 = .ok (.getfield 18, 3) := by decide +kernel
theorem dX3_bestPosting_62 : decode cX3_bestPosting 62 = .ok (.getfield 40, 3) := by decide +kernel
theorem dX3_bestPosting_65 : decode cX3_bestPosting 65 = .ok (.iconst 1, 1) := by decide +kernel
theorem dX3_bestPosting_66 : decode cX3_bestPosting 66 = .ok (.isub, 1) := by decide +kernel
theorem dX3_bestPosting_67 : decode cX3_bestPosting 67 = .ok (.bipush 99, 2) := by decide +kernel
theorem dX3_bestPosting_69 : decode cX3_bestPosting 69 = .ok (.iload 6, 2) := by decide +kernel
theorem dX3_bestPosting_71 : decode cX3_bestPosting 71 = .ok (.isub, 1) := by decide +kernel
theorem dX3_bestPosting_72 : decode cX3_bestPosting 72 = .ok (.invokestatic 55, 3) := by decide +kernel
theorem dX3_bestPosting_75 : decode cX3_bestPosting 75 = .ok (.iadd, 1) := by decide +kernel
theorem dX3_bestPosting_76 : decode cX3_bestPosting 76 = .ok (.istore 7, 2) := by decide +kernel
theorem dX3_bestPosting_78 : decode cX3_bestPosting 78 = .ok (.iload 7, 2) := by decide +kernel
theorem dX3_bestPosting_80 : decode cX3_bestPosting 80 = .ok (.iload 4, 2) := by decide +kernel
theorem dX3_bestPosting_82 : decode cX3_bestPosting 82 = .ok (.if_icmp .ge 11, 3) := by decide +kernel
theorem dX3_bestPosting_85 : decode cX3_bestPosting 85 = .ok (.iload 7, 2) := by decide +kernel
theorem dX3_bestPosting_87 : decode cX3_bestPosting 87 = .ok (.istore 4, 2) := by decide +kernel
theorem dX3_bestPosting_89 : decode cX3_bestPosting 89 = .ok (.iload 6, 2) := by decide +kernel
theorem dX3_bestPosting_91 : decode cX3_bestPosting 91 = .ok (.istore 5, 2) := by decide +kernel
theorem dX3_bestPosting_93 : decode cX3_bestPosting 93 = .ok (.aload_n 0, 1) := by decide +kernel
theorem dX3_bestPosting_94 : decode cX3_bestPosting 94 = .ok (.getfield 12, 3) := by decide +kernel
theorem dX3_bestPosting_97 : decode cX3_bestPosting 97 = .ok (.iconst 0, 1) := by decide +kernel
theorem dX3_bestPosting_98 : decode cX3_bestPosting 98 = .ok (.invokevirtual 36, 3) := by decide +kernel
theorem dX3_bestPosting_101 : decode cX3_bestPosting 101 = .ok (.iinc 6 1, 3) := by decide +kernel
theorem dX3_bestPosting_104 : decode cX3_bestPosting 104 = .ok (.goto (-85), 3) := by decide +kernel
theorem dX3_bestPosting_107 : decode cX3_bestPosting 107 = .ok (.iload_n 3, 1) := by decide +kernel
theorem dX3_bestPosting_108 : decode cX3_bestPosting 108 = .ok (.ifCond .eq 11, 3) := by decide +kernel
theorem dX3_bestPosting_111 : decode cX3_bestPosting 111 = .ok (.iload 4, 2) := by decide +kernel
theorem dX3_bestPosting_113 : decode cX3_bestPosting 113 = .ok (.invokestatic 82, 3) := by decide +kernel
theorem dX3_bestPosting_116 : decode cX3_bestPosting 116 = .ok (.goto 5, 3) := by decide +kernel
theorem dX3_bestPosting_119 : decode cX3_bestPosting 119 = .ok (.iload 5, 2) := by decide +kernel
theorem dX3_bestPosting_121 : decode cX3_bestPosting 121 = .ok (.ireturn, 1) := by decide +kernel
theorem dX3_court_0 : decode cX3_court 0 = .ok (.iconst 0, 1) := by decide +kernel
theorem dX3_court_1 : decode cX3_court 1 = .ok (.istore 5, 2) := by decide +kernel
theorem dX3_court_3 : decode cX3_court 3 = .ok (.iload 5, 2) := by decide +kernel
theorem dX3_court_5 : decode cX3_court 5 = .ok (.iconst 4, 1) := by decide +kernel
theorem dX3_court_6 : decode cX3_court 6 = .ok (.if_icmp .ge 88, 3) := by decide +kernel
theorem dX3_court_9 : decode cX3_court 9 = .ok (.aload_n 0, 1) := by decide +kernel
theorem dX3_court_10 : decode cX3_court 10 = .ok (.getfield 12, 3) := by decide +kernel
theorem dX3_court_13 : decode cX3_court 13 = .ok (.aload_n 1, 1) := by decide +kernel
theorem dX3_court_14 : decode cX3_court 14 = .ok (.invokevirtual 28, 3) := by decide +kernel
theorem dX3_court_17 : decode cX3_court 17 = .ok (.iload 5, 2) := by decide +kernel
theorem dX3_court_19 : decode cX3_court 19 = .ok (.iconst 2, 1) := by decide +kernel
theorem dX3_court_20 : decode cX3_court 20 = .ok (.if_icmp .lt 15, 3) := by decide +kernel
theorem dX3_court_23 : decode cX3_court 23 = .ok (.aload_n 0, 1) := by decide +kernel
theorem dX3_court_24 : decode cX3_court 24 = .ok (.getfield 12, 3) := by decide +kernel
theorem dX3_court_27 : decode cX3_court 27 = .ok (.iload_n 3, 1) := by decide +kernel
theorem dX3_court_28 : decode cX3_court 28 = .ok (.iload_n 2, 1) := by decide +kernel
theorem dX3_court_29 : decode cX3_court 29 = .ok (.bipush 10, 2) := by decide +kernel
theorem dX3_court_31 : decode cX3_court 31 = .ok (.invokevirtual 62, 3) := by decide +kernel
theorem dX3_court_34 : decode cX3_court 34 = .ok (.pop, 1) := by decide +kernel
theorem dX3_court_35 : decode cX3_court 35 = .ok (.iload 5, 2) := by decide +kernel
theorem dX3_court_37 : decode cX3_court 37 = .ok (.iconst 2, 1) := by decide +kernel
theorem dX3_court_38 : decode cX3_court 38 = .ok (.irem, 1) := by decide +kernel
theorem dX3_court_39 : decode cX3_court 39 = .ok (.iconst 1, 1) := by decide +kernel
theorem dX3_court_40 : decode cX3_court 40 = .ok (.if_icmp .ne 15, 3) := by decide +kernel
theorem dX3_court_43 : decode cX3_court 43 = .ok (.aload_n 0, 1) := by decide +kernel
theorem dX3_court_44 : decode cX3_court 44 = .ok (.getfield 12, 3) := by decide +kernel
theorem dX3_court_47 : decode cX3_court 47 = .ok (.iload_n 2, 1) := by decide +kernel
theorem dX3_court_48 : decode cX3_court 48 = .ok (.iload_n 3, 1) := by decide +kernel
theorem dX3_court_49 : decode cX3_court 49 = .ok (.bipush 10, 2) := by decide +kernel
theorem dX3_court_51 : decode cX3_court 51 = .ok (.invokevirtual 62, 3) := by decide +kernel
theorem dX3_court_54 : decode cX3_court 54 = .ok (.pop, 1) := by decide +kernel
theorem dX3_court_55 : decode cX3_court 55 = .ok (.aload_n 0, 1) := by decide +kernel
theorem dX3_court_56 : decode cX3_court 56 = .ok (.getfield 12, 3) := by decide +kernel
theorem dX3_court_59 : decode cX3_court 59 = .ok (.iload 4, 2) := by decide +kernel
theorem dX3_court_61 : decode cX3_court 61 = .ok (.invokevirtual 32, 3) := by decide +kernel
theorem dX3_court_64 : decode cX3_court 64 = .ok (.aload_n 0, 1) := by decide +kernel
theorem dX3_court_65 : decode cX3_court 65 = .ok (.getfield 21, 3) := by decide +kernel
theorem dX3_court_68 : decode cX3_court 68 = .ok (.iload 5, 2) := by decide +kernel
theorem dX3_court_70 : decode cX3_court 70 = .ok (.aload_n 0, 1) := by decide +kernel
theorem dX3_court_71 : decode cX3_court 71 = .ok (.iload_n 2, 1) := by decide +kernel
theorem dX3_court_72 : decode cX3_court 72 = .ok (.invokevirtual 85, 3) := by decide +kernel
theorem dX3_court_75 : decode cX3_court 75 = .ok (.iastore, 1) := by decide +kernel
theorem dX3_court_76 : decode cX3_court 76 = .ok (.aload_n 0, 1) := by decide +kernel
theorem dX3_court_77 : decode cX3_court 77 = .ok (.getfield 25, 3) := by decide +kernel
theorem dX3_court_80 : decode cX3_court 80 = .ok (.iload 5, 2) := by decide +kernel
theorem dX3_court_82 : decode cX3_court 82 = .ok (.aload_n 0, 1) := by decide +kernel
theorem dX3_court_83 : decode cX3_court 83 = .ok (.iload_n 3, 1) := by decide +kernel
theorem dX3_court_84 : decode cX3_court 84 = .ok (.invokevirtual 85, 3) := by decide +kernel
theorem dX3_court_87 : decode cX3_court 87 = .ok (.iastore, 1) := by decide +kernel
theorem dX3_court_88 : decode cX3_court 88 = .ok (.iinc 5 1, 3) := by decide +kernel
theorem dX3_court_91 : decode cX3_court 91 = .ok (.goto (-88), 3) := by decide +kernel
theorem dX3_court_94 : decode cX3_court 94 = .ok (.iconst 0, 1) := by decide +kernel
theorem dX3_court_95 : decode cX3_court 95 = .ok (.istore 5, 2) := by decide +kernel
theorem dX3_court_97 : decode cX3_court 97 = .ok (.iload 5, 2) := by decide +kernel
theorem dX3_court_99 : decode cX3_court 99 = .ok (.iconst 4, 1) := by decide +kernel
theorem dX3_court_100 : decode cX3_court 100 = .ok (.if_icmp .ge 60, 3) := by decide +kernel
theorem dX3_court_103 : decode cX3_court 103 = .ok (.aload_n 0, 1) := by decide +kernel
theorem dX3_court_104 : decode cX3_court 104 = .ok (.getfield 21, 3) := by decide +kernel
theorem dX3_court_107 : decode cX3_court 107 = .ok (.iload 5, 2) := by decide +kernel
theorem dX3_court_109 : decode cX3_court 109 = .ok (.iaload, 1) := by decide +kernel
theorem dX3_court_110 : decode cX3_court 110 = .ok (.aload_n 0, 1) := by decide +kernel
theorem dX3_court_111 : decode cX3_court 111 = .ok (.getfield 21, 3) := by decide +kernel
theorem dX3_court_114 : decode cX3_court 114 = .ok (.iload 5, 2) := by decide +kernel
theorem dX3_court_116 : decode cX3_court 116 = .ok (.iconst 2, 1) := by decide +kernel
theorem dX3_court_117 : decode cX3_court 117 = .ok (.ixor, 1) := by decide +kernel
theorem dX3_court_118 : decode cX3_court 118 = .ok (.iaload, 1) := by decide +kernel
theorem dX3_court_119 : decode cX3_court 119 = .ok (.if_icmp .lt 35, 3) := by decide +kernel
theorem dX3_court_122 : decode cX3_court 122 = .ok (.aload_n 0, 1) := by decide +kernel
theorem dX3_court_123 : decode cX3_court 123 = .ok (.getfield 25, 3) := by decide +kernel
theorem dX3_court_126 : decode cX3_court 126 = .ok (.iload 5, 2) := by decide +kernel
theorem dX3_court_128 : decode cX3_court 128 = .ok (.iaload, 1) := by decide +kernel
theorem dX3_court_129 : decode cX3_court 129 = .ok (.aload_n 0, 1) := by decide +kernel
theorem dX3_court_130 : decode cX3_court 130 = .ok (.getfield 25, 3) := by decide +kernel
theorem dX3_court_133 : decode cX3_court 133 = .ok (.iload 5, 2) := by decide +kernel
theorem dX3_court_135 : decode cX3_court 135 = .ok (.iconst 1, 1) := by decide +kernel
theorem dX3_court_136 : decode cX3_court 136 = .ok (.ixor, 1) := by decide +kernel
theorem dX3_court_137 : decode cX3_court 137 = .ok (.iaload, 1) := by decide +kernel
theorem dX3_court_138 : decode cX3_court 138 = .ok (.if_icmp .lt 16, 3) := by decide +kernel
theorem dX3_court_141 : decode cX3_court 141 = .ok (.bipush 10, 2) := by decide +kernel
theorem dX3_court_143 : decode cX3_court 143 = .ok (.iload 5, 2) := by decide +kernel
theorem dX3_court_145 : decode cX3_court 145 = .ok (.iconst 2, 1) := by decide +kernel
theorem dX3_court_146 : decode cX3_court 146 = .ok (.idiv, 1) := by decide +kernel
theorem dX3_court_147 : decode cX3_court 147 = .ok (.imul, 1) := by decide +kernel
theorem dX3_court_148 : decode cX3_court 148 = .ok (.iload 5, 2) := by decide +kernel
theorem dX3_court_150 : decode cX3_court 150 = .ok (.iconst 2, 1) := by decide +kernel
theorem dX3_court_151 : decode cX3_court 151 = .ok (.irem, 1) := by decide +kernel
theorem dX3_court_152 : decode cX3_court 152 = .ok (.iadd, 1) := by decide +kernel
theorem dX3_court_153 : decode cX3_court 153 = .ok (.ireturn, 1) := by decide +kernel
theorem dX3_court_154 : decode cX3_court 154 = .ok (.iinc 5 1, 3) := by decide +kernel
theorem dX3_court_157 : decode cX3_court 157 = .ok (.goto (-60), 3) := by decide +kernel
theorem dX3_court_160 : decode cX3_court 160 = .ok (.bipush (-9), 2) := by decide +kernel
theorem dX3_court_162 : decode cX3_court 162 = .ok (.ireturn, 1) := by decide +kernel
theorem dX3_broughtTo_0 : decode cX3_broughtTo 0 = .ok (.iconst 0, 1) := by decide +kernel
theorem dX3_broughtTo_1 : decode cX3_broughtTo 1 = .ok (.istore_n 2, 1) := by decide +kernel
theorem dX3_broughtTo_2 : decode cX3_broughtTo 2 = .ok (.iconst 0, 1) := by decide +kernel
theorem dX3_broughtTo_3 : decode cX3_broughtTo 3 = .ok (.istore_n 3, 1) := by decide +kernel
theorem dX3_broughtTo_4 : decode cX3_broughtTo 4 = .ok (.iload_n 3, 1) := by decide +kernel
theorem dX3_broughtTo_5 : decode cX3_broughtTo 5 = .ok (.aload_n 0, 1) := by decide +kernel
theorem dX3_broughtTo_6 : decode cX3_broughtTo 6 = .ok (.getfield 12, 3) := by decide +kernel
theorem dX3_broughtTo_9 : decode cX3_broughtTo 9 = .ok (.getfield 40, 3) := by decide +kernel
theorem dX3_broughtTo_12 : decode cX3_broughtTo 12 = .ok (.if_icmp .ge 36, 3) := by decide +kernel
theorem dX3_broughtTo_15 : decode cX3_broughtTo 15 = .ok (.aload_n 0, 1) := by decide +kernel
theorem dX3_broughtTo_16 : decode cX3_broughtTo 16 = .ok (.getfield 12, 3) := by decide +kernel
theorem dX3_broughtTo_19 : decode cX3_broughtTo 19 = .ok (.iload_n 3, 1) := by decide +kernel
theorem dX3_broughtTo_20 : decode cX3_broughtTo 20 = .ok (.invokevirtual 44, 3) := by decide +kernel
theorem dX3_broughtTo_23 : decode cX3_broughtTo 23 = .ok (.iconst 2, 1) := by decide +kernel
theorem dX3_broughtTo_24 : decode cX3_broughtTo 24 = .ok (.if_icmp .ne 18, 3) := by decide +kernel
theorem dX3_broughtTo_27 : decode cX3_broughtTo 27 = .ok (.aload_n 0, 1) := by decide +kernel
theorem dX3_broughtTo_28 : decode cX3_broughtTo 28 = .ok (.getfield 12, 3) := by decide +kernel
theorem dX3_broughtTo_31 : decode cX3_broughtTo 31 = .ok (.iload_n 3, 1) := by decide +kernel
theorem dX3_broughtTo_32 : decode cX3_broughtTo 32 = .ok (.invokevirtual 52, 3) := by decide +kernel
theorem dX3_broughtTo_35 : decode cX3_broughtTo 35 = .ok (.iload_n 1, 1) := by decide +kernel
theorem dX3_broughtTo_36 : decode cX3_broughtTo 36 = .ok (.if_icmp .ne 6, 3) := by decide +kernel
theorem dX3_broughtTo_39 : decode cX3_broughtTo 39 = .ok (.iinc 2 1, 3) := by decide +kernel
theorem dX3_broughtTo_42 : decode cX3_broughtTo 42 = .ok (.iinc 3 1, 3) := by decide +kernel
theorem dX3_broughtTo_45 : decode cX3_broughtTo 45 = .ok (.goto (-41), 3) := by decide +kernel
theorem dX3_broughtTo_48 : decode cX3_broughtTo 48 = .ok (.iload_n 2, 1) := by decide +kernel
theorem dX3_broughtTo_49 : decode cX3_broughtTo 49 = .ok (.ireturn, 1) := by decide +kernel
theorem dX3_broughtOfAll_0 : decode cX3_broughtOfAll 0 = .ok (.lconst 0, 1) := by decide +kernel
theorem dX3_broughtOfAll_1 : decode cX3_broughtOfAll 1 = .ok (.lstore 5, 2) := by decide +kernel
theorem dX3_broughtOfAll_3 : decode cX3_broughtOfAll 3 = .ok (.iconst 0, 1) := by decide +kernel
theorem dX3_broughtOfAll_4 : decode cX3_broughtOfAll 4 = .ok (.istore 7, 2) := by decide +kernel
theorem dX3_broughtOfAll_6 : decode cX3_broughtOfAll 6 = .ok (.iload 7, 2) := by decide +kernel
theorem dX3_broughtOfAll_8 : decode cX3_broughtOfAll 8 = .ok (.iconst 1, 1) := by decide +kernel
theorem dX3_broughtOfAll_9 : decode cX3_broughtOfAll 9 = .ok (.iload_n 3, 1) := by decide +kernel
theorem dX3_broughtOfAll_10 : decode cX3_broughtOfAll 10 = .ok (.ishl, 1) := by decide +kernel
theorem dX3_broughtOfAll_11 : decode cX3_broughtOfAll 11 = .ok (.if_icmp .ge 100, 3) := by decide +kernel
theorem dX3_broughtOfAll_14 : decode cX3_broughtOfAll 14 = .ok (.aload_n 0, 1) := by decide +kernel
theorem dX3_broughtOfAll_15 : decode cX3_broughtOfAll 15 = .ok (.getfield 12, 3) := by decide +kernel
theorem dX3_broughtOfAll_18 : decode cX3_broughtOfAll 18 = .ok (.aload_n 1, 1) := by decide +kernel
theorem dX3_broughtOfAll_19 : decode cX3_broughtOfAll 19 = .ok (.invokevirtual 28, 3) := by decide +kernel
theorem dX3_broughtOfAll_22 : decode cX3_broughtOfAll 22 = .ok (.lconst 1, 1) := by decide +kernel
theorem dX3_broughtOfAll_23 : decode cX3_broughtOfAll 23 = .ok (.lstore 8, 2) := by decide +kernel
theorem dX3_broughtOfAll_25 : decode cX3_broughtOfAll 25 = .ok (.iconst 0, 1) := by decide +kernel
theorem dX3_broughtOfAll_26 : decode cX3_broughtOfAll 26 = .ok (.istore 10, 2) := by decide +kernel
theorem dX3_broughtOfAll_28 : decode cX3_broughtOfAll 28 = .ok (.iload 10, 2) := by decide +kernel
theorem dX3_broughtOfAll_30 : decode cX3_broughtOfAll 30 = .ok (.iload_n 3, 1) := by decide +kernel
theorem dX3_broughtOfAll_31 : decode cX3_broughtOfAll 31 = .ok (.if_icmp .ge 55, 3) := by decide +kernel
theorem dX3_broughtOfAll_34 : decode cX3_broughtOfAll 34 = .ok (.iload 7, 2) := by decide +kernel
theorem dX3_broughtOfAll_36 : decode cX3_broughtOfAll 36 = .ok (.iload 10, 2) := by decide +kernel
theorem dX3_broughtOfAll_38 : decode cX3_broughtOfAll 38 = .ok (.ishr, 1) := by decide +kernel
theorem dX3_broughtOfAll_39 : decode cX3_broughtOfAll 39 = .ok (.iconst 1, 1) := by decide +kernel
theorem dX3_broughtOfAll_40 : decode cX3_broughtOfAll 40 = .ok (.iand, 1) := by decide +kernel
theorem dX3_broughtOfAll_41 : decode cX3_broughtOfAll 41 = .ok (.iconst 1, 1) := by decide +kernel
theorem dX3_broughtOfAll_42 : decode cX3_broughtOfAll 42 = .ok (.if_icmp .ne 7, 3) := by decide +kernel
theorem dX3_broughtOfAll_45 : decode cX3_broughtOfAll 45 = .ok (.iconst 1, 1) := by decide +kernel
theorem dX3_broughtOfAll_46 : decode cX3_broughtOfAll 46 = .ok (.goto 4, 3) := by decide +kernel
theorem dX3_broughtOfAll_49 : decode cX3_broughtOfAll 49 = .ok (.iconst 0, 1) := by decide +kernel
theorem dX3_broughtOfAll_50 : decode cX3_broughtOfAll 50 = .ok (.istore 11, 2) := by decide +kernel
theorem dX3_broughtOfAll_52 : decode cX3_broughtOfAll 52 = .ok (.lload 8, 2) := by decide +kernel
theorem dX3_broughtOfAll_54 : decode cX3_broughtOfAll 54 = .ok (.iload 11, 2) := by decide +kernel
theorem dX3_broughtOfAll_56 : decode cX3_broughtOfAll 56 = .ok (.ifCond .eq 7, 3) := by decide +kernel
theorem dX3_broughtOfAll_59 : decode cX3_broughtOfAll 59 = .ok (.lconst 1, 1) := by decide +kernel
theorem dX3_broughtOfAll_60 : decode cX3_broughtOfAll 60 = .ok (.goto 8, 3) := by decide +kernel
theorem dX3_broughtOfAll_63 : decode cX3_broughtOfAll 63 = .ok (.iload 4, 2) := by decide +kernel
theorem dX3_broughtOfAll_65 : decode cX3_broughtOfAll 65 = .ok (.iconst 1, 1) := by decide +kernel
theorem dX3_broughtOfAll_66 : decode cX3_broughtOfAll 66 = .ok (.isub, 1) := by decide +kernel
theorem dX3_broughtOfAll_67 : decode cX3_broughtOfAll 67 = .ok (.i2l, 1) := by decide +kernel
theorem dX3_broughtOfAll_68 : decode cX3_broughtOfAll 68 = .ok (.lmul, 1) := by decide +kernel
theorem dX3_broughtOfAll_69 : decode cX3_broughtOfAll 69 = .ok (.lstore 8, 2) := by decide +kernel
theorem dX3_broughtOfAll_71 : decode cX3_broughtOfAll 71 = .ok (.aload_n 0, 1) := by decide +kernel
theorem dX3_broughtOfAll_72 : decode cX3_broughtOfAll 72 = .ok (.getfield 12, 3) := by decide +kernel
theorem dX3_broughtOfAll_75 : decode cX3_broughtOfAll 75 = .ok (.iload 11, 2) := by decide +kernel
theorem dX3_broughtOfAll_77 : decode cX3_broughtOfAll 77 = .ok (.invokevirtual 36, 3) := by decide +kernel
theorem dX3_broughtOfAll_80 : decode cX3_broughtOfAll 80 = .ok (.iinc 10 1, 3) := by decide +kernel
theorem dX3_broughtOfAll_83 : decode cX3_broughtOfAll 83 = .ok (.goto (-55), 3) := by decide +kernel
theorem dX3_broughtOfAll_86 : decode cX3_broughtOfAll 86 = .ok (.aload_n 0, 1) := by decide +kernel
theorem dX3_broughtOfAll_87 : decode cX3_broughtOfAll 87 = .ok (.getfield 12, 3) := by decide +kernel
theorem dX3_broughtOfAll_90 : decode cX3_broughtOfAll 90 = .ok (.iload_n 2, 1) := by decide +kernel
theorem dX3_broughtOfAll_91 : decode cX3_broughtOfAll 91 = .ok (.invokevirtual 44, 3) := by decide +kernel
theorem dX3_broughtOfAll_94 : decode cX3_broughtOfAll 94 = .ok (.iconst 2, 1) := by decide +kernel
theorem dX3_broughtOfAll_95 : decode cX3_broughtOfAll 95 = .ok (.if_icmp .ne 10, 3) := by decide +kernel
theorem dX3_broughtOfAll_98 : decode cX3_broughtOfAll 98 = .ok (.lload 5, 2) := by decide +kernel
theorem dX3_broughtOfAll_100 : decode cX3_broughtOfAll 100 = .ok (.lload 8, 2) := by decide +kernel
theorem dX3_broughtOfAll_102 : decode cX3_broughtOfAll 102 = .ok (.ladd, 1) := by decide +kernel
theorem dX3_broughtOfAll_103 : decode cX3_broughtOfAll 103 = .ok (.lstore 5, 2) := by decide +kernel
theorem dX3_broughtOfAll_105 : decode cX3_broughtOfAll 105 = .ok (.iinc 7 1, 3) := by decide +kernel
theorem dX3_broughtOfAll_108 : decode cX3_broughtOfAll 108 = .ok (.goto (-102), 3) := by decide +kernel
theorem dX3_broughtOfAll_111 : decode cX3_broughtOfAll 111 = .ok (.lload 5, 2) := by decide +kernel
theorem dX3_broughtOfAll_113 : decode cX3_broughtOfAll 113 = .ok (.lreturn, 1) := by decide +kernel
theorem dX3_fitting_0 : decode cX3_fitting 0 = .ok (.iconst 0, 1) := by decide +kernel
theorem dX3_fitting_1 : decode cX3_fitting 1 = .ok (.istore 6, 2) := by decide +kernel
theorem dX3_fitting_3 : decode cX3_fitting 3 = .ok (.iload 4, 2) := by decide +kernel
theorem dX3_fitting_5 : decode cX3_fitting 5 = .ok (.ifCond .eq 8, 3) := by decide +kernel
theorem dX3_fitting_8 : decode cX3_fitting 8 = .ok (.bipush 10, 2) := by decide +kernel
theorem dX3_fitting_10 : decode cX3_fitting 10 = .ok (.goto 5, 3) := by decide +kernel
theorem dX3_fitting_13 : decode cX3_fitting 13 = .ok (.bipush 6, 2) := by decide +kernel
theorem dX3_fitting_15 : decode cX3_fitting 15 = .ok (.istore 7, 2) := by decide +kernel
theorem dX3_fitting_17 : decode cX3_fitting 17 = .ok (.iconst 0, 1) := by decide +kernel
theorem dX3_fitting_18 : decode cX3_fitting 18 = .ok (.istore 8, 2) := by decide +kernel
theorem dX3_fitting_20 : decode cX3_fitting 20 = .ok (.iload 8, 2) := by decide +kernel
theorem dX3_fitting_22 : decode cX3_fitting 22 = .ok (.iload 7, 2) := by decide +kernel
theorem dX3_fitting_24 : decode cX3_fitting 24 = .ok (.if_icmp .ge 74, 3) := by decide +kernel
theorem dX3_fitting_27 : decode cX3_fitting 27 = .ok (.aload_n 1, 1) := by decide +kernel
theorem dX3_fitting_28 : decode cX3_fitting 28 = .ok (.iload_n 3, 1) := by decide +kernel
theorem dX3_fitting_29 : decode cX3_fitting 29 = .ok (.invokevirtual 88, 3) := by decide +kernel
theorem dX3_fitting_32 : decode cX3_fitting 32 = .ok (.ifCond .eq 66, 3) := by decide +kernel
theorem dX3_fitting_35 : decode cX3_fitting 35 = .ok (.aload_n 0, 1) := by decide +kernel
theorem dX3_fitting_36 : decode cX3_fitting 36 = .ok (.getfield 12, 3) := by decide +kernel
theorem dX3_fitting_39 : decode cX3_fitting 39 = .ok (.aload_n 1, 1) := by decide +kernel
theorem dX3_fitting_40 : decode cX3_fitting 40 = .ok (.invokevirtual 28, 3) := by decide +kernel
theorem dX3_fitting_43 : decode cX3_fitting 43 = .ok (.iload 4, 2) := by decide +kernel
theorem dX3_fitting_45 : decode cX3_fitting 45 = .ok (.ifCond .eq 17, 3) := by decide +kernel
theorem dX3_fitting_48 : decode cX3_fitting 48 = .ok (.aload_n 0, 1) := by decide +kernel
theorem dX3_fitting_49 : decode cX3_fitting 49 = .ok (.getfield 12, 3) := by decide +kernel
theorem dX3_fitting_52 : decode cX3_fitting 52 = .ok (.getfield 92, 3) := by decide +kernel
theorem dX3_fitting_55 : decode cX3_fitting 55 = .ok (.iload_n 3, 1) := by decide +kernel
theorem dX3_fitting_56 : decode cX3_fitting 56 = .ok (.iload 8, 2) := by decide +kernel
theorem dX3_fitting_58 : decode cX3_fitting 58 = .ok (.iastore, 1) := by decide +kernel
theorem dX3_fitting_59 : decode cX3_fitting 59 = .ok (.goto 14, 3) := by decide +kernel
theorem dX3_fitting_62 : decode cX3_fitting 62 = .ok (.aload_n 0, 1) := by decide +kernel
theorem dX3_fitting_63 : decode cX3_fitting 63 = .ok (.getfield 12, 3) := by decide +kernel
theorem dX3_fitting_66 : decode cX3_fitting 66 = .ok (.getfield 95, 3) := by decide +kernel
theorem dX3_fitting_69 : decode cX3_fitting 69 = .ok (.iload_n 3, 1) := by decide +kernel
theorem dX3_fitting_70 : decode cX3_fitting 70 = .ok (.iload 8, 2) := by decide +kernel
theorem dX3_fitting_72 : decode cX3_fitting 72 = .ok (.iastore, 1) := by decide +kernel
theorem dX3_fitting_73 : decode cX3_fitting 73 = .ok (.aload_n 0, 1) := by decide +kernel
theorem dX3_fitting_74 : decode cX3_fitting 74 = .ok (.iload_n 2, 1) := by decide +kernel
theorem dX3_fitting_75 : decode cX3_fitting 75 = .ok (.aload 5, 2) := by decide +kernel
theorem dX3_fitting_77 : decode cX3_fitting 77 = .ok (.invokevirtual 98, 3) := by decide +kernel
theorem dX3_fitting_80 : decode cX3_fitting 80 = .ok (.ifCond .eq 12, 3) := by decide +kernel
theorem dX3_fitting_83 : decode cX3_fitting 83 = .ok (.iload 6, 2) := by decide +kernel
theorem dX3_fitting_85 : decode cX3_fitting 85 = .ok (.iconst 1, 1) := by decide +kernel
theorem dX3_fitting_86 : decode cX3_fitting 86 = .ok (.iload 8, 2) := by decide +kernel
theorem dX3_fitting_88 : decode cX3_fitting 88 = .ok (.ishl, 1) := by decide +kernel
theorem dX3_fitting_89 : decode cX3_fitting 89 = .ok (.ior, 1) := by decide +kernel
theorem dX3_fitting_90 : decode cX3_fitting 90 = .ok (.istore 6, 2) := by decide +kernel
theorem dX3_fitting_92 : decode cX3_fitting 92 = .ok (.iinc 8 1, 3) := by decide +kernel
theorem dX3_fitting_95 : decode cX3_fitting 95 = .ok (.goto (-75), 3) := by decide +kernel
theorem dX3_fitting_98 : decode cX3_fitting 98 = .ok (.iload 6, 2) := by decide +kernel
theorem dX3_fitting_100 : decode cX3_fitting 100 = .ok (.ireturn, 1) := by decide +kernel
theorem dX3_goesAsTold_0 : decode cX3_goesAsTold 0 = .ok (.iconst 0, 1) := by decide +kernel
theorem dX3_goesAsTold_1 : decode cX3_goesAsTold 1 = .ok (.istore_n 3, 1) := by decide +kernel
theorem dX3_goesAsTold_2 : decode cX3_goesAsTold 2 = .ok (.iload_n 3, 1) := by decide +kernel
theorem dX3_goesAsTold_3 : decode cX3_goesAsTold 3 = .ok (.aload_n 2, 1) := by decide +kernel
theorem dX3_goesAsTold_4 : decode cX3_goesAsTold 4 = .ok (.getfield 102, 3) := by decide +kernel
theorem dX3_goesAsTold_7 : decode cX3_goesAsTold 7 = .ok (.if_icmp .ge 38, 3) := by decide +kernel
theorem dX3_goesAsTold_10 : decode cX3_goesAsTold 10 = .ok (.aload_n 2, 1) := by decide +kernel
theorem dX3_goesAsTold_11 : decode cX3_goesAsTold 11 = .ok (.iload_n 3, 1) := by decide +kernel
theorem dX3_goesAsTold_12 : decode cX3_goesAsTold 12 = .ok (.invokevirtual 107, 3) := by decide +kernel
theorem dX3_goesAsTold_15 : decode cX3_goesAsTold 15 = .ok (.aload_n 0, 1) := by decide +kernel
theorem dX3_goesAsTold_16 : decode cX3_goesAsTold 16 = .ok (.getfield 12, 3) := by decide +kernel
theorem dX3_goesAsTold_19 : decode cX3_goesAsTold 19 = .ok (.iload_n 1, 1) := by decide +kernel
theorem dX3_goesAsTold_20 : decode cX3_goesAsTold 20 = .ok (.invokevirtual 110, 3) := by decide +kernel
theorem dX3_goesAsTold_23 : decode cX3_goesAsTold 23 = .ok (.invokestatic 113, 3) := by decide +kernel
theorem dX3_goesAsTold_26 : decode cX3_goesAsTold 26 = .ok (.if_icmp .eq 5, 3) := by decide +kernel
theorem dX3_goesAsTold_29 : decode cX3_goesAsTold 29 = .ok (.iconst 0, 1) := by decide +kernel
theorem dX3_goesAsTold_30 : decode cX3_goesAsTold 30 = .ok (.ireturn, 1) := by decide +kernel
theorem dX3_goesAsTold_31 : decode cX3_goesAsTold 31 = .ok (.aload_n 0, 1) := by decide +kernel
theorem dX3_goesAsTold_32 : decode cX3_goesAsTold 32 = .ok (.getfield 12, 3) := by decide +kernel
theorem dX3_goesAsTold_35 : decode cX3_goesAsTold 35 = .ok (.iconst 0, 1) := by decide +kernel
theorem dX3_goesAsTold_36 : decode cX3_goesAsTold 36 = .ok (.invokevirtual 36, 3) := by decide +kernel
theorem dX3_goesAsTold_39 : decode cX3_goesAsTold 39 = .ok (.iinc 3 1, 3) := by decide +kernel
theorem dX3_goesAsTold_42 : decode cX3_goesAsTold 42 = .ok (.goto (-40), 3) := by decide +kernel
theorem dX3_goesAsTold_45 : decode cX3_goesAsTold 45 = .ok (.iconst 1, 1) := by decide +kernel
theorem dX3_goesAsTold_46 : decode cX3_goesAsTold 46 = .ok (.ireturn, 1) := by decide +kernel
theorem dX3_ofDrawnDuchies_0 : decode cX3_ofDrawnDuchies 0 = .ok (.iload_n 3, 1) := by decide +kernel
theorem dX3_ofDrawnDuchies_1 : decode cX3_ofDrawnDuchies 1 = .ok (.istore 5, 2) := by decide +kernel
theorem dX3_ofDrawnDuchies_3 : decode cX3_ofDrawnDuchies 3 = .ok (.iconst 0, 1) := by decide +kernel
theorem dX3_ofDrawnDuchies_4 : decode cX3_ofDrawnDuchies 4 = .ok (.istore 6, 2) := by decide +kernel
theorem dX3_ofDrawnDuchies_6 : decode cX3_ofDrawnDuchies 6 = .ok (.iconst 0, 1) := by decide +kernel
theorem dX3_ofDrawnDuchies_7 : decode cX3_ofDrawnDuchies 7 = .ok (.istore 7, 2) := by decide +kernel
theorem dX3_ofDrawnDuchies_9 : decode cX3_ofDrawnDuchies 9 = .ok (.iload 7, 2) := by decide +kernel
theorem dX3_ofDrawnDuchies_11 : decode cX3_ofDrawnDuchies 11 = .ok (.iload_n 2, 1) := by decide +kernel
theorem dX3_ofDrawnDuchies_12 : decode cX3_ofDrawnDuchies 12 = .ok (.if_icmp .ge 61, 3) := by decide +kernel
theorem dX3_ofDrawnDuchies_15 : decode cX3_ofDrawnDuchies 15 = .ok (.aload_n 0, 1) := by decide +kernel
theorem dX3_ofDrawnDuchies_16 : decode cX3_ofDrawnDuchies 16 = .ok (.getfield 12, 3) := by decide +kernel
theorem dX3_ofDrawnDuchies_19 : decode cX3_ofDrawnDuchies 19 = .ok (.aload_n 1, 1) := by decide +kernel
theorem dX3_ofDrawnDuchies_20 : decode cX3_ofDrawnDuchies 20 = .ok (.invokevirtual 28, 3) := by decide +kernel
theorem dX3_ofDrawnDuchies_23 : decode cX3_ofDrawnDuchies 23 = .ok (.aload_n 0, 1) := by decide +kernel
theorem dX3_ofDrawnDuchies_24 : decode cX3_ofDrawnDuchies 24 = .ok (.iload 5, 2) := by decide +kernel
theorem dX3_ofDrawnDuchies_26 : decode cX3_ofDrawnDuchies 26 = .ok (.invokevirtual 116, 3) := by decide +kernel
theorem dX3_ofDrawnDuchies_29 : decode cX3_ofDrawnDuchies 29 = .ok (.istore 5, 2) := by decide +kernel
theorem dX3_ofDrawnDuchies_31 : decode cX3_ofDrawnDuchies 31 = .ok (.aload_n 0, 1) := by decide +kernel
theorem dX3_ofDrawnDuchies_32 : decode cX3_ofDrawnDuchies 32 = .ok (.getfield 12, 3) := by decide +kernel
theorem dX3_ofDrawnDuchies_35 : decode cX3_ofDrawnDuchies 35 = .ok (.bipush 15, 2) := by decide +kernel
theorem dX3_ofDrawnDuchies_37 : decode cX3_ofDrawnDuchies 37 = .ok (.invokevirtual 32, 3) := by decide +kernel
theorem dX3_ofDrawnDuchies_40 : decode cX3_ofDrawnDuchies 40 = .ok (.iload 6, 2) := by decide +kernel
theorem dX3_ofDrawnDuchies_42 : decode cX3_ofDrawnDuchies 42 = .ok (.iload 4, 2) := by decide +kernel
theorem dX3_ofDrawnDuchies_44 : decode cX3_ofDrawnDuchies 44 = .ok (.ifCond .eq 13, 3) := by decide +kernel
theorem dX3_ofDrawnDuchies_47 : decode cX3_ofDrawnDuchies 47 = .ok (.aload_n 0, 1) := by decide +kernel
theorem dX3_ofDrawnDuchies_48 : decode cX3_ofDrawnDuchies 48 = .ok (.getfield 12, 3) := by decide +kernel
theorem dX3_ofDrawnDuchies_51 : decode cX3_ofDrawnDuchies 51 = .ok (.invokevirtual 119, 3) := by decide +kernel
theorem dX3_ofDrawnDuchies_54 : decode cX3_ofDrawnDuchies 54 = .ok (.goto 10, 3) := by decide +kernel
theorem dX3_ofDrawnDuchies_57 : decode cX3_ofDrawnDuchies 57 = .ok (.aload_n 0, 1) := by decide +kernel
theorem dX3_ofDrawnDuchies_58 : decode cX3_ofDrawnDuchies 58 = .ok (.getfield 12, 3) := by decide +kernel
theorem dX3_ofDrawnDuchies_61 : decode cX3_ofDrawnDuchies 61 = .ok (.invokevirtual 48, 3) := by decide +kernel
theorem dX3_ofDrawnDuchies_64 : decode cX3_ofDrawnDuchies 64 = .ok (.iadd, 1) := by decide +kernel
theorem dX3_ofDrawnDuchies_65 : decode cX3_ofDrawnDuchies 65 = .ok (.istore 6, 2) := by decide +kernel
theorem dX3_ofDrawnDuchies_67 : decode cX3_ofDrawnDuchies 67 = .ok (.iinc 7 1, 3) := by decide +kernel
theorem dX3_ofDrawnDuchies_70 : decode cX3_ofDrawnDuchies 70 = .ok (.goto (-61), 3) := by decide +kernel
theorem dX3_ofDrawnDuchies_73 : decode cX3_ofDrawnDuchies 73 = .ok (.iload 6, 2) := by decide +kernel
theorem dX3_ofDrawnDuchies_75 : decode cX3_ofDrawnDuchies 75 = .ok (.ireturn, 1) := by decide +kernel
theorem dX3_drawHates_0 : decode cX3_drawHates 0 = .ok (.iload_n 1, 1) := by decide +kernel
theorem dX3_drawHates_1 : decode cX3_drawHates 1 = .ok (.istore_n 2, 1) := by decide +kernel
theorem dX3_drawHates_2 : decode cX3_drawHates 2 = .ok (.iconst 0, 1) := by decide +kernel
theorem dX3_drawHates_3 : decode cX3_drawHates 3 = .ok (.istore_n 3, 1) := by decide +kernel
theorem dX3_drawHates_4 : decode cX3_drawHates 4 = .ok (.iload_n 3, 1) := by decide +kernel
theorem dX3_drawHates_5 : decode cX3_drawHates 5 = .ok (.aload_n 0, 1) := by decide +kernel
theorem dX3_drawHates_6 : decode cX3_drawHates 6 = .ok (.getfield 12, 3) := by decide +kernel
theorem dX3_drawHates_9 : decode cX3_drawHates 9 = .ok (.getfield 59, 3) := by decide +kernel
theorem dX3_drawHates_12 : decode cX3_drawHates 12 = .ok (.if_icmp .ge 66, 3) := by decide +kernel
theorem dX3_drawHates_15 : decode cX3_drawHates 15 = .ok (.iconst 0, 1) := by decide +kernel
theorem dX3_drawHates_16 : decode cX3_drawHates 16 = .ok (.istore 4, 2) := by decide +kernel
theorem dX3_drawHates_18 : decode cX3_drawHates 18 = .ok (.iload 4, 2) := by decide +kernel
theorem dX3_drawHates_20 : decode cX3_drawHates 20 = .ok (.aload_n 0, 1) := by decide +kernel
theorem dX3_drawHates_21 : decode cX3_drawHates 21 = .ok (.getfield 12, 3) := by decide +kernel
theorem dX3_drawHates_24 : decode cX3_drawHates 24 = .ok (.getfield 59, 3) := by decide +kernel
theorem dX3_drawHates_27 : decode cX3_drawHates 27 = .ok (.if_icmp .ge 45, 3) := by decide +kernel
theorem dX3_drawHates_30 : decode cX3_drawHates 30 = .ok (.iload_n 3, 1) := by decide +kernel
theorem dX3_drawHates_31 : decode cX3_drawHates 31 = .ok (.iload 4, 2) := by decide +kernel
theorem dX3_drawHates_33 : decode cX3_drawHates 33 = .ok (.if_icmp .eq 33, 3) := by decide +kernel
theorem dX3_drawHates_36 : decode cX3_drawHates 36 = .ok (.iload_n 2, 1) := by decide +kernel
theorem dX3_drawHates_37 : decode cX3_drawHates 37 = .ok (.ldc 122, 2) := by decide +kernel
theorem dX3_drawHates_39 : decode cX3_drawHates 39 = .ok (.imul, 1) := by decide +kernel
theorem dX3_drawHates_40 : decode cX3_drawHates 40 = .ok (.ldc 123, 2) := by decide +kernel
theorem dX3_drawHates_42 : decode cX3_drawHates 42 = .ok (.iadd, 1) := by decide +kernel
theorem dX3_drawHates_43 : decode cX3_drawHates 43 = .ok (.istore_n 2, 1) := by decide +kernel
theorem dX3_drawHates_44 : decode cX3_drawHates 44 = .ok (.aload_n 0, 1) := by decide +kernel
theorem dX3_drawHates_45 : decode cX3_drawHates 45 = .ok (.getfield 12, 3) := by decide +kernel
theorem dX3_drawHates_48 : decode cX3_drawHates 48 = .ok (.iload_n 3, 1) := by decide +kernel
theorem dX3_drawHates_49 : decode cX3_drawHates 49 = .ok (.iload 4, 2) := by decide +kernel
theorem dX3_drawHates_51 : decode cX3_drawHates 51 = .ok (.iload_n 2, 1) := by decide +kernel
theorem dX3_drawHates_52 : decode cX3_drawHates 52 = .ok (.ldc 124, 2) := by decide +kernel
theorem dX3_drawHates_54 : decode cX3_drawHates 54 = .ok (.iand, 1) := by decide +kernel
theorem dX3_drawHates_55 : decode cX3_drawHates 55 = .ok (.sipush 256, 3) := by decide +kernel
theorem dX3_drawHates_58 : decode cX3_drawHates 58 = .ok (.idiv, 1) := by decide +kernel
theorem dX3_drawHates_59 : decode cX3_drawHates 59 = .ok (.bipush 30, 2) := by decide +kernel
theorem dX3_drawHates_61 : decode cX3_drawHates 61 = .ok (.irem, 1) := by decide +kernel
theorem dX3_drawHates_62 : decode cX3_drawHates 62 = .ok (.invokevirtual 125, 3) := by decide +kernel
theorem dX3_drawHates_65 : decode cX3_drawHates 65 = .ok (.pop, 1) := by decide +kernel
theorem dX3_drawHates_66 : decode cX3_drawHates 66 = .ok (.iinc 4 1, 3) := by decide +kernel
theorem dX3_drawHates_69 : decode cX3_drawHates 69 = .ok (.goto (-51), 3) := by decide +kernel
theorem dX3_drawHates_72 : decode cX3_drawHates 72 = .ok (.iinc 3 1, 3) := by decide +kernel
theorem dX3_drawHates_75 : decode cX3_drawHates 75 = .ok (.goto (-71), 3) := by decide +kernel
theorem dX3_drawHates_78 : decode cX3_drawHates 78 = .ok (.iload_n 2, 1) := by decide +kernel
theorem dX3_drawHates_79 : decode cX3_drawHates 79 = .ok (.ireturn, 1) := by decide +kernel
theorem dX4_init_0 : decode cX4_init 0 = .ok (.aload_n 0, 1) := by decide +kernel
theorem dX4_init_1 : decode cX4_init 1 = .ok (.invokespecial 1, 3) := by decide +kernel
theorem dX4_init_4 : decode cX4_init 4 = .ok (.aload_n 0, 1) := by decide +kernel
theorem dX4_init_5 : decode cX4_init 5 = .ok (.new 7, 3) := by decide +kernel
theorem dX4_init_8 : decode cX4_init 8 = .ok (.dup, 1) := by decide +kernel
theorem dX4_init_9 : decode cX4_init 9 = .ok (.invokespecial 9, 3) := by decide +kernel
theorem dX4_init_12 : decode cX4_init 12 = .ok (.putfield 10, 3) := by decide +kernel
theorem dX4_init_15 : decode cX4_init 15 = .ok (.aload_n 0, 1) := by decide +kernel
theorem dX4_init_16 : decode cX4_init 16 = .ok (.new 7, 3) := by decide +kernel
theorem dX4_init_19 : decode cX4_init 19 = .ok (.dup, 1) := by decide +kernel
theorem dX4_init_20 : decode cX4_init 20 = .ok (.invokespecial 9, 3) := by decide +kernel
theorem dX4_init_23 : decode cX4_init 23 = .ok (.putfield 16, 3) := by decide +kernel
theorem dX4_init_26 : decode cX4_init 26 = .ok (.aload_n 0, 1) := by decide +kernel
theorem dX4_init_27 : decode cX4_init 27 = .ok (.iconst 0, 1) := by decide +kernel
theorem dX4_init_28 : decode cX4_init 28 = .ok (.putfield 19, 3) := by decide +kernel
theorem dX4_init_31 : decode cX4_init 31 = .ok (.aload_n 0, 1) := by decide +kernel
theorem dX4_init_32 : decode cX4_init 32 = .ok (.new 23, 3) := by decide +kernel
theorem dX4_init_35 : decode cX4_init 35 = .ok (.dup, 1) := by decide +kernel
theorem dX4_init_36 : decode cX4_init 36 = .ok (.invokespecial 25, 3) := by decide +kernel
theorem dX4_init_39 : decode cX4_init 39 = .ok (.putfield 26, 3) := by decide +kernel
theorem dX4_init_42 : decode cX4_init 42 = .ok (.aload_n 0, 1) := by decide +kernel
theorem dX4_init_43 : decode cX4_init 43 = .ok (.new 30, 3) := by decide +kernel
theorem dX4_init_46 : decode cX4_init 46 = .ok (.dup, 1) := by decide +kernel
theorem dX4_init_47 : decode cX4_init 47 = .ok (.invokespecial 32, 3) := by decide +kernel
theorem dX4_init_50 : decode cX4_init 50 = .ok (.putfield 33, 3) := by decide +kernel
theorem dX4_init_53 : decode cX4_init 53 = .ok (.aload_n 0, 1) := by decide +kernel
theorem dX4_init_54 : decode cX4_init 54 = .ok (.new 37, 3) := by decide +kernel
theorem dX4_init_57 : decode cX4_init 57 = .ok (.dup, 1) := by decide +kernel
theorem dX4_init_58 : decode cX4_init 58 = .ok (.invokespecial 39, 3) := by decide +kernel
theorem dX4_init_61 : decode cX4_init 61 = .ok (.putfield 40, 3) := by decide +kernel
theorem dX4_init_64 : decode cX4_init 64 = .ok (.aload_n 0, 1) := by decide +kernel
theorem dX4_init_65 : decode cX4_init 65 = .ok (.bipush 7, 2) := by decide +kernel
theorem dX4_init_67 : decode cX4_init 67 = .ok (.newarray .int, 2) := by decide +kernel
theorem dX4_init_69 : decode cX4_init 69 = .ok (.putfield 44, 3) := by decide +kernel
theorem dX4_init_72 : decode cX4_init 72 = .ok (.return_, 1) := by decide +kernel
theorem dX4_letter_0 : decode cX4_letter 0 = .ok (.iload_n 1, 1) := by decide +kernel
theorem dX4_letter_1 : decode cX4_letter 1 = .ok (.ifCond .ge 10, 3) := by decide +kernel
theorem dX4_letter_4 : decode cX4_letter 4 = .ok (.aload_n 0, 1) := by decide +kernel
theorem dX4_letter_5 : decode cX4_letter 5 = .ok (.bipush (-4), 2) := by decide +kernel
theorem dX4_letter_7 : decode cX4_letter 7 = .ok (.invokevirtual 48, 3) := by decide +kernel
theorem dX4_letter_10 : decode cX4_letter 10 = .ok (.ireturn, 1) := by decide +kernel
theorem dX4_letter_11 : decode cX4_letter 11 = .ok (.iload_n 1, 1) := by decide +kernel
theorem dX4_letter_12 : decode cX4_letter 12 = .ok (.sipush 255, 3) := by decide +kernel
theorem dX4_letter_15 : decode cX4_letter 15 = .ok (.if_icmp .gt 15, 3) := by decide +kernel
theorem dX4_letter_18 : decode cX4_letter 18 = .ok (.aload_n 0, 1) := by decide +kernel
theorem dX4_letter_19 : decode cX4_letter 19 = .ok (.getfield 33, 3) := by decide +kernel
theorem dX4_letter_22 : decode cX4_letter 22 = .ok (.getfield 52, 3) := by decide +kernel
theorem dX4_letter_25 : decode cX4_letter 25 = .ok (.bipush 96, 2) := by decide +kernel
theorem dX4_letter_27 : decode cX4_letter 27 = .ok (.if_icmp .lt 10, 3) := by decide +kernel
theorem dX4_letter_30 : decode cX4_letter 30 = .ok (.aload_n 0, 1) := by decide +kernel
theorem dX4_letter_31 : decode cX4_letter 31 = .ok (.bipush (-6), 2) := by decide +kernel
theorem dX4_letter_33 : decode cX4_letter 33 = .ok (.invokevirtual 48, 3) := by decide +kernel
theorem dX4_letter_36 : decode cX4_letter 36 = .ok (.ireturn, 1) := by decide +kernel
theorem dX4_letter_37 : decode cX4_letter 37 = .ok (.aload_n 0, 1) := by decide +kernel
theorem dX4_letter_38 : decode cX4_letter 38 = .ok (.getfield 33, 3) := by decide +kernel
theorem dX4_letter_41 : decode cX4_letter 41 = .ok (.iload_n 1, 1) := by decide +kernel
theorem dX4_letter_42 : decode cX4_letter 42 = .ok (.invokevirtual 56, 3) := by decide +kernel
theorem dX4_letter_45 : decode cX4_letter 45 = .ok (.aload_n 0, 1) := by decide +kernel
theorem dX4_letter_46 : decode cX4_letter 46 = .ok (.getfield 33, 3) := by decide +kernel
theorem dX4_letter_49 : decode cX4_letter 49 = .ok (.getfield 52, 3) := by decide +kernel
theorem dX4_letter_52 : decode cX4_letter 52 = .ok (.ireturn, 1) := by decide +kernel
theorem dX4_duchy_0 : decode cX4_duchy 0 = .ok (.aload_n 0, 1) := by decide +kernel
theorem dX4_duchy_1 : decode cX4_duchy 1 = .ok (.getfield 33, 3) := by decide +kernel
theorem dX4_duchy_4 : decode cX4_duchy 4 = .ok (.invokevirtual 60, 3) := by decide +kernel
theorem dX4_duchy_7 : decode cX4_duchy 7 = .ok (.istore_n 1, 1) := by decide +kernel
theorem dX4_duchy_8 : decode cX4_duchy 8 = .ok (.aload_n 0, 1) := by decide +kernel
theorem dX4_duchy_9 : decode cX4_duchy 9 = .ok (.getfield 26, 3) := by decide +kernel
theorem dX4_duchy_12 : decode cX4_duchy 12 = .ok (.aload_n 0, 1) := by decide +kernel
theorem dX4_duchy_13 : decode cX4_duchy 13 = .ok (.getfield 10, 3) := by decide +kernel
theorem dX4_duchy_16 : decode cX4_duchy 16 = .ok (.iconst 0, 1) := by decide +kernel
theorem dX4_duchy_17 : decode cX4_duchy 17 = .ok (.invokevirtual 64, 3) := by decide +kernel
theorem dX4_duchy_20 : decode cX4_duchy 20 = .ok (.astore_n 2, 1) := by decide +kernel
theorem dX4_duchy_21 : decode cX4_duchy 21 = .ok (.iconst 0, 1) := by decide +kernel
theorem dX4_duchy_22 : decode cX4_duchy 22 = .ok (.istore_n 3, 1) := by decide +kernel
theorem dX4_duchy_23 : decode cX4_duchy 23 = .ok (.iconst 0, 1) := by decide +kernel
theorem dX4_duchy_24 : decode cX4_duchy 24 = .ok (.istore 4, 2) := by decide +kernel
theorem dX4_duchy_26 : decode cX4_duchy 26 = .ok (.iload_n 1, 1) := by decide +kernel
theorem dX4_duchy_27 : decode cX4_duchy 27 = .ok (.ifCond .ge 52, 3) := by decide +kernel
theorem dX4_duchy_30 : decode cX4_duchy 30 = .ok (.iload 4, 2) := by decide +kernel
