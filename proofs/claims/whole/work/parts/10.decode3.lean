theorem dX5_comesDays_24 : decode cX5_comesDays 24 = .ok (.aload_n 0, 1) := by decide +kernel
theorem dX5_comesDays_25 : decode cX5_comesDays 25 = .ok (.iload_n 1, 1) := by decide +kernel
theorem dX5_comesDays_26 : decode cX5_comesDays 26 = .ok (.invokevirtual 136, 3) := by decide +kernel
theorem dX5_comesDays_29 : decode cX5_comesDays 29 = .ok (.iconst 1, 1) := by decide +kernel
theorem dX5_comesDays_30 : decode cX5_comesDays 30 = .ok (.ireturn, 1) := by decide +kernel
theorem dX5_comes_0 : decode cX5_comes 0 = .ok (.iconst 3, 1) := by decide +kernel
theorem dX5_comes_1 : decode cX5_comes 1 = .ok (.iload_n 1, 1) := by decide +kernel
theorem dX5_comes_2 : decode cX5_comes 2 = .ok (.imul, 1) := by decide +kernel
theorem dX5_comes_3 : decode cX5_comes 3 = .ok (.istore_n 2, 1) := by decide +kernel
theorem dX5_comes_4 : decode cX5_comes 4 = .ok (.aload_n 0, 1) := by decide +kernel
theorem dX5_comes_5 : decode cX5_comes 5 = .ok (.getfield 46, 3) := by decide +kernel
theorem dX5_comes_8 : decode cX5_comes 8 = .ok (.iload_n 1, 1) := by decide +kernel
theorem dX5_comes_9 : decode cX5_comes 9 = .ok (.iaload, 1) := by decide +kernel
theorem dX5_comes_10 : decode cX5_comes 10 = .ok (.lookupswitch 91 #[(99, 61), (100, 80), (112, 34)], 34) := by decide +kernel
theorem dX5_comes_44 : decode cX5_comes 44 = .ok (.aload_n 0, 1) := by decide +kernel
theorem dX5_comes_45 : decode cX5_comes 45 = .ok (.aload_n 0, 1) := by decide +kernel
theorem dX5_comes_46 : decode cX5_comes 46 = .ok (.getfield 52, 3) := by decide +kernel
theorem dX5_comes_49 : decode cX5_comes 49 = .ok (.iload_n 2, 1) := by decide +kernel
theorem dX5_comes_50 : decode cX5_comes 50 = .ok (.iaload, 1) := by decide +kernel
theorem dX5_comes_51 : decode cX5_comes 51 = .ok (.aload_n 0, 1) := by decide +kernel
theorem dX5_comes_52 : decode cX5_comes 52 = .ok (.getfield 52, 3) := by decide +kernel
theorem dX5_comes_55 : decode cX5_comes 55 = .ok (.iload_n 2, 1) := by decide +kernel
theorem dX5_comes_56 : decode cX5_comes 56 = .ok (.iconst 1, 1) := by decide +kernel
theorem dX5_comes_57 : decode cX5_comes 57 = .ok (.iadd, 1) := by decide +kernel
theorem dX5_comes_58 : decode cX5_comes 58 = .ok (.iaload, 1) := by decide +kernel
theorem dX5_comes_59 : decode cX5_comes 59 = .ok (.aload_n 0, 1) := by decide +kernel
theorem dX5_comes_60 : decode cX5_comes 60 = .ok (.getfield 52, 3) := by decide +kernel
theorem dX5_comes_63 : decode cX5_comes 63 = .ok (.iload_n 2, 1) := by decide +kernel
theorem dX5_comes_64 : decode cX5_comes 64 = .ok (.iconst 2, 1) := by decide +kernel
theorem dX5_comes_65 : decode cX5_comes 65 = .ok (.iadd, 1) := by decide +kernel
theorem dX5_comes_66 : decode cX5_comes 66 = .ok (.iaload, 1) := by decide +kernel
theorem dX5_comes_67 : decode cX5_comes 67 = .ok (.invokevirtual 140, 3) := by decide +kernel
theorem dX5_comes_70 : decode cX5_comes 70 = .ok (.ireturn, 1) := by decide +kernel
theorem dX5_comes_71 : decode cX5_comes 71 = .ok (.aload_n 0, 1) := by decide +kernel
theorem dX5_comes_72 : decode cX5_comes 72 = .ok (.aload_n 0, 1) := by decide +kernel
theorem dX5_comes_73 : decode cX5_comes 73 = .ok (.getfield 52, 3) := by decide +kernel
theorem dX5_comes_76 : decode cX5_comes 76 = .ok (.iload_n 2, 1) := by decide +kernel
theorem dX5_comes_77 : decode cX5_comes 77 = .ok (.iaload, 1) := by decide +kernel
theorem dX5_comes_78 : decode cX5_comes 78 = .ok (.aload_n 0, 1) := by decide +kernel
theorem dX5_comes_79 : decode cX5_comes 79 = .ok (.getfield 52, 3) := by decide +kernel
theorem dX5_comes_82 : decode cX5_comes 82 = .ok (.iload_n 2, 1) := by decide +kernel
theorem dX5_comes_83 : decode cX5_comes 83 = .ok (.iconst 1, 1) := by decide +kernel
theorem dX5_comes_84 : decode cX5_comes 84 = .ok (.iadd, 1) := by decide +kernel
theorem dX5_comes_85 : decode cX5_comes 85 = .ok (.iaload, 1) := by decide +kernel
theorem dX5_comes_86 : decode cX5_comes 86 = .ok (.invokevirtual 143, 3) := by decide +kernel
theorem dX5_comes_89 : decode cX5_comes 89 = .ok (.ireturn, 1) := by decide +kernel
theorem dX5_comes_90 : decode cX5_comes 90 = .ok (.aload_n 0, 1) := by decide +kernel
theorem dX5_comes_91 : decode cX5_comes 91 = .ok (.aload_n 0, 1) := by decide +kernel
theorem dX5_comes_92 : decode cX5_comes 92 = .ok (.getfield 52, 3) := by decide +kernel
theorem dX5_comes_95 : decode cX5_comes 95 = .ok (.iload_n 2, 1) := by decide +kernel
theorem dX5_comes_96 : decode cX5_comes 96 = .ok (.iaload, 1) := by decide +kernel
theorem dX5_comes_97 : decode cX5_comes 97 = .ok (.invokevirtual 146, 3) := by decide +kernel
theorem dX5_comes_100 : decode cX5_comes 100 = .ok (.ireturn, 1) := by decide +kernel
theorem dX5_comes_101 : decode cX5_comes 101 = .ok (.aload_n 0, 1) := by decide +kernel
theorem dX5_comes_102 : decode cX5_comes 102 = .ok (.aload_n 0, 1) := by decide +kernel
theorem dX5_comes_103 : decode cX5_comes 103 = .ok (.getfield 46, 3) := by decide +kernel
theorem dX5_comes_106 : decode cX5_comes 106 = .ok (.iload_n 1, 1) := by decide +kernel
theorem dX5_comes_107 : decode cX5_comes 107 = .ok (.iaload, 1) := by decide +kernel
theorem dX5_comes_108 : decode cX5_comes 108 = .ok (.aload_n 0, 1) := by decide +kernel
theorem dX5_comes_109 : decode cX5_comes 109 = .ok (.getfield 52, 3) := by decide +kernel
theorem dX5_comes_112 : decode cX5_comes 112 = .ok (.iload_n 2, 1) := by decide +kernel
theorem dX5_comes_113 : decode cX5_comes 113 = .ok (.iaload, 1) := by decide +kernel
theorem dX5_comes_114 : decode cX5_comes 114 = .ok (.aload_n 0, 1) := by decide +kernel
theorem dX5_comes_115 : decode cX5_comes 115 = .ok (.getfield 52, 3) := by decide +kernel
theorem dX5_comes_118 : decode cX5_comes 118 = .ok (.iload_n 2, 1) := by decide +kernel
theorem dX5_comes_119 : decode cX5_comes 119 = .ok (.iconst 1, 1) := by decide +kernel
theorem dX5_comes_120 : decode cX5_comes 120 = .ok (.iadd, 1) := by decide +kernel
theorem dX5_comes_121 : decode cX5_comes 121 = .ok (.iaload, 1) := by decide +kernel
theorem dX5_comes_122 : decode cX5_comes 122 = .ok (.aload_n 0, 1) := by decide +kernel
theorem dX5_comes_123 : decode cX5_comes 123 = .ok (.getfield 52, 3) := by decide +kernel
theorem dX5_comes_126 : decode cX5_comes 126 = .ok (.iload_n 2, 1) := by decide +kernel
theorem dX5_comes_127 : decode cX5_comes 127 = .ok (.iconst 2, 1) := by decide +kernel
theorem dX5_comes_128 : decode cX5_comes 128 = .ok (.iadd, 1) := by decide +kernel
theorem dX5_comes_129 : decode cX5_comes 129 = .ok (.iaload, 1) := by decide +kernel
theorem dX5_comes_130 : decode cX5_comes 130 = .ok (.invokevirtual 149, 3) := by decide +kernel
theorem dX5_comes_133 : decode cX5_comes 133 = .ok (.ireturn, 1) := by decide +kernel
theorem dX5_duchy_0 : decode cX5_duchy 0 = .ok (.aload_n 0, 1) := by decide +kernel
theorem dX5_duchy_1 : decode cX5_duchy 1 = .ok (.iconst 0, 1) := by decide +kernel
theorem dX5_duchy_2 : decode cX5_duchy 2 = .ok (.putfield 88, 3) := by decide +kernel
theorem dX5_duchy_5 : decode cX5_duchy 5 = .ok (.aload_n 0, 1) := by decide +kernel
theorem dX5_duchy_6 : decode cX5_duchy 6 = .ok (.iconst 0, 1) := by decide +kernel
theorem dX5_duchy_7 : decode cX5_duchy 7 = .ok (.putfield 109, 3) := by decide +kernel
theorem dX5_duchy_10 : decode cX5_duchy 10 = .ok (.iconst 1, 1) := by decide +kernel
theorem dX5_duchy_11 : decode cX5_duchy 11 = .ok (.istore_n 1, 1) := by decide +kernel
theorem dX5_duchy_12 : decode cX5_duchy 12 = .ok (.iload_n 1, 1) := by decide +kernel
theorem dX5_duchy_13 : decode cX5_duchy 13 = .ok (.ifCond .eq 47, 3) := by decide +kernel
theorem dX5_duchy_16 : decode cX5_duchy 16 = .ok (.aload_n 0, 1) := by decide +kernel
theorem dX5_duchy_17 : decode cX5_duchy 17 = .ok (.getfield 88, 3) := by decide +kernel
theorem dX5_duchy_20 : decode cX5_duchy 20 = .ok (.aload_n 0, 1) := by decide +kernel
theorem dX5_duchy_21 : decode cX5_duchy 21 = .ok (.getfield 81, 3) := by decide +kernel
theorem dX5_duchy_24 : decode cX5_duchy 24 = .ok (.if_icmp .lt 10, 3) := by decide +kernel
theorem dX5_duchy_27 : decode cX5_duchy 27 = .ok (.aload_n 0, 1) := by decide +kernel
theorem dX5_duchy_28 : decode cX5_duchy 28 = .ok (.getfield 109, 3) := by decide +kernel
theorem dX5_duchy_31 : decode cX5_duchy 31 = .ok (.ifCond .ne 29, 3) := by decide +kernel
theorem dX5_duchy_34 : decode cX5_duchy 34 = .ok (.aload_n 0, 1) := by decide +kernel
theorem dX5_duchy_35 : decode cX5_duchy 35 = .ok (.invokevirtual 153, 3) := by decide +kernel
theorem dX5_duchy_38 : decode cX5_duchy 38 = .ok (.istore_n 1, 1) := by decide +kernel
theorem dX5_duchy_39 : decode cX5_duchy 39 = .ok (.aload_n 0, 1) := by decide +kernel
theorem dX5_duchy_40 : decode cX5_duchy 40 = .ok (.dup, 1) := by decide +kernel
theorem dX5_duchy_41 : decode cX5_duchy 41 = .ok (.getfield 109, 3) := by decide +kernel
theorem dX5_duchy_44 : decode cX5_duchy 44 = .ok (.iload_n 1, 1) := by decide +kernel
theorem dX5_duchy_45 : decode cX5_duchy 45 = .ok (.ifCond .eq 7, 3) := by decide +kernel
theorem dX5_duchy_48 : decode cX5_duchy 48 = .ok (.iconst 1, 1) := by decide +kernel
theorem dX5_duchy_49 : decode cX5_duchy 49 = .ok (.goto 4, 3) := by decide +kernel
theorem dX5_duchy_52 : decode cX5_duchy 52 = .ok (.iconst 0, 1) := by decide +kernel
theorem dX5_duchy_53 : decode cX5_duchy 53 = .ok (.iadd, 1) := by decide +kernel
theorem dX5_duchy_54 : decode cX5_duchy 54 = .ok (.putfield 109, 3) := by decide +kernel
theorem dX5_duchy_57 : decode cX5_duchy 57 = .ok (.goto (-45), 3) := by decide +kernel
theorem dX5_duchy_60 : decode cX5_duchy 60 = .ok (.aload_n 0, 1) := by decide +kernel
theorem dX5_duchy_61 : decode cX5_duchy 61 = .ok (.iconst 0, 1) := by decide +kernel
theorem dX5_duchy_62 : decode cX5_duchy 62 = .ok (.putfield 81, 3) := by decide +kernel
theorem dX5_duchy_65 : decode cX5_duchy 65 = .ok (.iload_n 1, 1) := by decide +kernel
theorem dX5_duchy_66 : decode cX5_duchy 66 = .ok (.ifCond .ne 12, 3) := by decide +kernel
theorem dX5_duchy_69 : decode cX5_duchy 69 = .ok (.sipush (-1000), 3) := by decide +kernel
theorem dX5_duchy_72 : decode cX5_duchy 72 = .ok (.aload_n 0, 1) := by decide +kernel
theorem dX5_duchy_73 : decode cX5_duchy 73 = .ok (.getfield 88, 3) := by decide +kernel
theorem dX5_duchy_76 : decode cX5_duchy 76 = .ok (.isub, 1) := by decide +kernel
theorem dX5_duchy_77 : decode cX5_duchy 77 = .ok (.ireturn, 1) := by decide +kernel
theorem dX5_duchy_78 : decode cX5_duchy 78 = .ok (.aload_n 0, 1) := by decide +kernel
theorem dX5_duchy_79 : decode cX5_duchy 79 = .ok (.iconst 1, 1) := by decide +kernel
theorem dX5_duchy_80 : decode cX5_duchy 80 = .ok (.iconst 1, 1) := by decide +kernel
theorem dX5_duchy_81 : decode cX5_duchy 81 = .ok (.invokevirtual 157, 3) := by decide +kernel
theorem dX5_duchy_84 : decode cX5_duchy 84 = .ok (.iconst 0, 1) := by decide +kernel
theorem dX5_duchy_85 : decode cX5_duchy 85 = .ok (.istore_n 2, 1) := by decide +kernel
theorem dX5_duchy_86 : decode cX5_duchy 86 = .ok (.iload_n 2, 1) := by decide +kernel
theorem dX5_duchy_87 : decode cX5_duchy 87 = .ok (.aload_n 0, 1) := by decide +kernel
theorem dX5_duchy_88 : decode cX5_duchy 88 = .ok (.getfield 109, 3) := by decide +kernel
theorem dX5_duchy_91 : decode cX5_duchy 91 = .ok (.if_icmp .ge 37, 3) := by decide +kernel
theorem dX5_duchy_94 : decode cX5_duchy 94 = .ok (.aload_n 0, 1) := by decide +kernel
theorem dX5_duchy_95 : decode cX5_duchy 95 = .ok (.iload_n 2, 1) := by decide +kernel
theorem dX5_duchy_96 : decode cX5_duchy 96 = .ok (.invokevirtual 161, 3) := by decide +kernel
theorem dX5_duchy_99 : decode cX5_duchy 99 = .ok (.ifCond .eq 6, 3) := by decide +kernel
theorem dX5_duchy_102 : decode cX5_duchy 102 = .ok (.goto 20, 3) := by decide +kernel
theorem dX5_duchy_105 : decode cX5_duchy 105 = .ok (.aload_n 0, 1) := by decide +kernel
theorem dX5_duchy_106 : decode cX5_duchy 106 = .ok (.iconst 1, 1) := by decide +kernel
theorem dX5_duchy_107 : decode cX5_duchy 107 = .ok (.iconst 0, 1) := by decide +kernel
theorem dX5_duchy_108 : decode cX5_duchy 108 = .ok (.invokevirtual 157, 3) := by decide +kernel
theorem dX5_duchy_111 : decode cX5_duchy 111 = .ok (.sipush (-2000), 3) := by decide +kernel
theorem dX5_duchy_114 : decode cX5_duchy 114 = .ok (.aload_n 0, 1) := by decide +kernel
theorem dX5_duchy_115 : decode cX5_duchy 115 = .ok (.getfield 49, 3) := by decide +kernel
theorem dX5_duchy_118 : decode cX5_duchy 118 = .ok (.iload_n 2, 1) := by decide +kernel
theorem dX5_duchy_119 : decode cX5_duchy 119 = .ok (.iaload, 1) := by decide +kernel
theorem dX5_duchy_120 : decode cX5_duchy 120 = .ok (.isub, 1) := by decide +kernel
theorem dX5_duchy_121 : decode cX5_duchy 121 = .ok (.ireturn, 1) := by decide +kernel
theorem dX5_duchy_122 : decode cX5_duchy 122 = .ok (.iinc 2 1, 3) := by decide +kernel
theorem dX5_duchy_125 : decode cX5_duchy 125 = .ok (.goto (-39), 3) := by decide +kernel
theorem dX5_duchy_128 : decode cX5_duchy 128 = .ok (.aload_n 0, 1) := by decide +kernel
theorem dX5_duchy_129 : decode cX5_duchy 129 = .ok (.getfield 109, 3) := by decide +kernel
theorem dX5_duchy_132 : decode cX5_duchy 132 = .ok (.ireturn, 1) := by decide +kernel
theorem dX5_passes_0 : decode cX5_passes 0 = .ok (.iconst 0, 1) := by decide +kernel
theorem dX5_passes_1 : decode cX5_passes 1 = .ok (.istore_n 2, 1) := by decide +kernel
theorem dX5_passes_2 : decode cX5_passes 2 = .ok (.iload_n 2, 1) := by decide +kernel
theorem dX5_passes_3 : decode cX5_passes 3 = .ok (.aload_n 1, 1) := by decide +kernel
theorem dX5_passes_4 : decode cX5_passes 4 = .ok (.arraylength, 1) := by decide +kernel
theorem dX5_passes_5 : decode cX5_passes 5 = .ok (.if_icmp .ge 53, 3) := by decide +kernel
theorem dX5_passes_8 : decode cX5_passes 8 = .ok (.aload_n 0, 1) := by decide +kernel
theorem dX5_passes_9 : decode cX5_passes 9 = .ok (.getfield 164, 3) := by decide +kernel
theorem dX5_passes_12 : decode cX5_passes 12 = .ok (.ifCond .eq 18, 3) := by decide +kernel
theorem dX5_passes_15 : decode cX5_passes 15 = .ok (.aload_n 0, 1) := by decide +kernel
theorem dX5_passes_16 : decode cX5_passes 16 = .ok (.getfield 55, 3) := by decide +kernel
theorem dX5_passes_19 : decode cX5_passes 19 = .ok (.aload_n 0, 1) := by decide +kernel
theorem dX5_passes_20 : decode cX5_passes 20 = .ok (.getfield 168, 3) := by decide +kernel
theorem dX5_passes_23 : decode cX5_passes 23 = .ok (.aload_n 1, 1) := by decide +kernel
theorem dX5_passes_24 : decode cX5_passes 24 = .ok (.iload_n 2, 1) := by decide +kernel
theorem dX5_passes_25 : decode cX5_passes 25 = .ok (.iaload, 1) := by decide +kernel
theorem dX5_passes_26 : decode cX5_passes 26 = .ok (.iastore, 1) := by decide +kernel
theorem dX5_passes_27 : decode cX5_passes 27 = .ok (.goto 15, 3) := by decide +kernel
theorem dX5_passes_30 : decode cX5_passes 30 = .ok (.aload_n 1, 1) := by decide +kernel
theorem dX5_passes_31 : decode cX5_passes 31 = .ok (.iload_n 2, 1) := by decide +kernel
theorem dX5_passes_32 : decode cX5_passes 32 = .ok (.aload_n 0, 1) := by decide +kernel
theorem dX5_passes_33 : decode cX5_passes 33 = .ok (.getfield 55, 3) := by decide +kernel
theorem dX5_passes_36 : decode cX5_passes 36 = .ok (.aload_n 0, 1) := by decide +kernel
theorem dX5_passes_37 : decode cX5_passes 37 = .ok (.getfield 168, 3) := by decide +kernel
theorem dX5_passes_40 : decode cX5_passes 40 = .ok (.iaload, 1) := by decide +kernel
theorem dX5_passes_41 : decode cX5_passes 41 = .ok (.iastore, 1) := by decide +kernel
theorem dX5_passes_42 : decode cX5_passes 42 = .ok (.aload_n 0, 1) := by decide +kernel
theorem dX5_passes_43 : decode cX5_passes 43 = .ok (.dup, 1) := by decide +kernel
theorem dX5_passes_44 : decode cX5_passes 44 = .ok (.getfield 168, 3) := by decide +kernel
theorem dX5_passes_47 : decode cX5_passes 47 = .ok (.iconst 1, 1) := by decide +kernel
theorem dX5_passes_48 : decode cX5_passes 48 = .ok (.iadd, 1) := by decide +kernel
theorem dX5_passes_49 : decode cX5_passes 49 = .ok (.putfield 168, 3) := by decide +kernel
theorem dX5_passes_52 : decode cX5_passes 52 = .ok (.iinc 2 1, 3) := by decide +kernel
theorem dX5_passes_55 : decode cX5_passes 55 = .ok (.goto (-53), 3) := by decide +kernel
theorem dX5_passes_58 : decode cX5_passes 58 = .ok (.return_, 1) := by decide +kernel
theorem dX5_passOne_0 : decode cX5_passOne 0 = .ok (.aload_n 0, 1) := by decide +kernel
theorem dX5_passOne_1 : decode cX5_passOne 1 = .ok (.getfield 164, 3) := by decide +kernel
theorem dX5_passOne_4 : decode cX5_passOne 4 = .ok (.ifCond .eq 7, 3) := by decide +kernel
theorem dX5_passOne_7 : decode cX5_passOne 7 = .ok (.iload_n 1, 1) := by decide +kernel
theorem dX5_passOne_8 : decode cX5_passOne 8 = .ok (.goto 12, 3) := by decide +kernel
theorem dX5_passOne_11 : decode cX5_passOne 11 = .ok (.aload_n 0, 1) := by decide +kernel
theorem dX5_passOne_12 : decode cX5_passOne 12 = .ok (.getfield 55, 3) := by decide +kernel
theorem dX5_passOne_15 : decode cX5_passOne 15 = .ok (.aload_n 0, 1) := by decide +kernel
theorem dX5_passOne_16 : decode cX5_passOne 16 = .ok (.getfield 168, 3) := by decide +kernel
theorem dX5_passOne_19 : decode cX5_passOne 19 = .ok (.iaload, 1) := by decide +kernel
theorem dX5_passOne_20 : decode cX5_passOne 20 = .ok (.istore_n 2, 1) := by decide +kernel
theorem dX5_passOne_21 : decode cX5_passOne 21 = .ok (.aload_n 0, 1) := by decide +kernel
theorem dX5_passOne_22 : decode cX5_passOne 22 = .ok (.getfield 164, 3) := by decide +kernel
theorem dX5_passOne_25 : decode cX5_passOne 25 = .ok (.ifCond .eq 13, 3) := by decide +kernel
theorem dX5_passOne_28 : decode cX5_passOne 28 = .ok (.aload_n 0, 1) := by decide +kernel
theorem dX5_passOne_29 : decode cX5_passOne 29 = .ok (.getfield 55, 3) := by decide +kernel
theorem dX5_passOne_32 : decode cX5_passOne 32 = .ok (.aload_n 0, 1) := by decide +kernel
theorem dX5_passOne_33 : decode cX5_passOne 33 = .ok (.getfield 168, 3) := by decide +kernel
theorem dX5_passOne_36 : decode cX5_passOne 36 = .ok (.iload_n 1, 1) := by decide +kernel
theorem dX5_passOne_37 : decode cX5_passOne 37 = .ok (.iastore, 1) := by decide +kernel
theorem dX5_passOne_38 : decode cX5_passOne 38 = .ok (.aload_n 0, 1) := by decide +kernel
theorem dX5_passOne_39 : decode cX5_passOne 39 = .ok (.dup, 1) := by decide +kernel
theorem dX5_passOne_40 : decode cX5_passOne 40 = .ok (.getfield 168, 3) := by decide +kernel
theorem dX5_passOne_43 : decode cX5_passOne 43 = .ok (.iconst 1, 1) := by decide +kernel
theorem dX5_passOne_44 : decode cX5_passOne 44 = .ok (.iadd, 1) := by decide +kernel
theorem dX5_passOne_45 : decode cX5_passOne 45 = .ok (.putfield 168, 3) := by decide +kernel
theorem dX5_passOne_48 : decode cX5_passOne 48 = .ok (.iload_n 2, 1) := by decide +kernel
theorem dX5_passOne_49 : decode cX5_passOne 49 = .ok (.ireturn, 1) := by decide +kernel
theorem dX5_passesAll_0 : decode cX5_passesAll 0 = .ok (.aload_n 0, 1) := by decide +kernel
theorem dX5_passesAll_1 : decode cX5_passesAll 1 = .ok (.bipush 103, 2) := by decide +kernel
theorem dX5_passesAll_3 : decode cX5_passesAll 3 = .ok (.iload_n 1, 1) := by decide +kernel
theorem dX5_passesAll_4 : decode cX5_passesAll 4 = .ok (.imul, 1) := by decide +kernel
theorem dX5_passesAll_5 : decode cX5_passesAll 5 = .ok (.putfield 168, 3) := by decide +kernel
theorem dX5_passesAll_8 : decode cX5_passesAll 8 = .ok (.aload_n 0, 1) := by decide +kernel
theorem dX5_passesAll_9 : decode cX5_passesAll 9 = .ok (.iload_n 2, 1) := by decide +kernel
theorem dX5_passesAll_10 : decode cX5_passesAll 10 = .ok (.putfield 164, 3) := by decide +kernel
theorem dX5_passesAll_13 : decode cX5_passesAll 13 = .ok (.aload_n 0, 1) := by decide +kernel
theorem dX5_passesAll_14 : decode cX5_passesAll 14 = .ok (.aload_n 0, 1) := by decide +kernel
theorem dX5_passesAll_15 : decode cX5_passesAll 15 = .ok (.getfield 13, 3) := by decide +kernel
theorem dX5_passesAll_18 : decode cX5_passesAll 18 = .ok (.invokevirtual 171, 3) := by decide +kernel
theorem dX5_passesAll_21 : decode cX5_passesAll 21 = .ok (.aload_n 0, 1) := by decide +kernel
theorem dX5_passesAll_22 : decode cX5_passesAll 22 = .ok (.aload_n 0, 1) := by decide +kernel
theorem dX5_passesAll_23 : decode cX5_passesAll 23 = .ok (.getfield 16, 3) := by decide +kernel
theorem dX5_passesAll_26 : decode cX5_passesAll 26 = .ok (.invokevirtual 171, 3) := by decide +kernel
theorem dX5_passesAll_29 : decode cX5_passesAll 29 = .ok (.aload_n 0, 1) := by decide +kernel
theorem dX5_passesAll_30 : decode cX5_passesAll 30 = .ok (.aload_n 0, 1) := by decide +kernel
theorem dX5_passesAll_31 : decode cX5_passesAll 31 = .ok (.getfield 19, 3) := by decide +kernel
theorem dX5_passesAll_34 : decode cX5_passesAll 34 = .ok (.invokevirtual 171, 3) := by decide +kernel
theorem dX5_passesAll_37 : decode cX5_passesAll 37 = .ok (.aload_n 0, 1) := by decide +kernel
theorem dX5_passesAll_38 : decode cX5_passesAll 38 = .ok (.aload_n 0, 1) := by decide +kernel
theorem dX5_passesAll_39 : decode cX5_passesAll 39 = .ok (.getfield 22, 3) := by decide +kernel
theorem dX5_passesAll_42 : decode cX5_passesAll 42 = .ok (.invokevirtual 171, 3) := by decide +kernel
theorem dX5_passesAll_45 : decode cX5_passesAll 45 = .ok (.aload_n 0, 1) := by decide +kernel
theorem dX5_passesAll_46 : decode cX5_passesAll 46 = .ok (.aload_n 0, 1) := by decide +kernel
theorem dX5_passesAll_47 : decode cX5_passesAll 47 = .ok (.getfield 25, 3) := by decide +kernel
theorem dX5_passesAll_50 : decode cX5_passesAll 50 = .ok (.invokevirtual 171, 3) := by decide +kernel
theorem dX5_passesAll_53 : decode cX5_passesAll 53 = .ok (.aload_n 0, 1) := by decide +kernel
theorem dX5_passesAll_54 : decode cX5_passesAll 54 = .ok (.aload_n 0, 1) := by decide +kernel
theorem dX5_passesAll_55 : decode cX5_passesAll 55 = .ok (.getfield 28, 3) := by decide +kernel
theorem dX5_passesAll_58 : decode cX5_passesAll 58 = .ok (.invokevirtual 171, 3) := by decide +kernel
theorem dX5_passesAll_61 : decode cX5_passesAll 61 = .ok (.aload_n 0, 1) := by decide +kernel
theorem dX5_passesAll_62 : decode cX5_passesAll 62 = .ok (.aload_n 0, 1) := by decide +kernel
theorem dX5_passesAll_63 : decode cX5_passesAll 63 = .ok (.getfield 31, 3) := by decide +kernel
theorem dX5_passesAll_66 : decode cX5_passesAll 66 = .ok (.invokevirtual 171, 3) := by decide +kernel
theorem dX5_passesAll_69 : decode cX5_passesAll 69 = .ok (.aload_n 0, 1) := by decide +kernel
theorem dX5_passesAll_70 : decode cX5_passesAll 70 = .ok (.aload_n 0, 1) := by decide +kernel
theorem dX5_passesAll_71 : decode cX5_passesAll 71 = .ok (.getfield 34, 3) := by decide +kernel
theorem dX5_passesAll_74 : decode cX5_passesAll 74 = .ok (.invokevirtual 171, 3) := by decide +kernel
theorem dX5_passesAll_77 : decode cX5_passesAll 77 = .ok (.aload_n 0, 1) := by decide +kernel
theorem dX5_passesAll_78 : decode cX5_passesAll 78 = .ok (.aload_n 0, 1) := by decide +kernel
theorem dX5_passesAll_79 : decode cX5_passesAll 79 = .ok (.getfield 37, 3) := by decide +kernel
theorem dX5_passesAll_82 : decode cX5_passesAll 82 = .ok (.invokevirtual 171, 3) := by decide +kernel
theorem dX5_passesAll_85 : decode cX5_passesAll 85 = .ok (.aload_n 0, 1) := by decide +kernel
theorem dX5_passesAll_86 : decode cX5_passesAll 86 = .ok (.aload_n 0, 1) := by decide +kernel
theorem dX5_passesAll_87 : decode cX5_passesAll 87 = .ok (.getfield 40, 3) := by decide +kernel
theorem dX5_passesAll_90 : decode cX5_passesAll 90 = .ok (.invokevirtual 171, 3) := by decide +kernel
theorem dX5_passesAll_93 : decode cX5_passesAll 93 = .ok (.aload_n 0, 1) := by decide +kernel
theorem dX5_passesAll_94 : decode cX5_passesAll 94 = .ok (.aload_n 0, 1) := by decide +kernel
theorem dX5_passesAll_95 : decode cX5_passesAll 95 = .ok (.aload_n 0, 1) := by decide +kernel
theorem dX5_passesAll_96 : decode cX5_passesAll 96 = .ok (.getfield 64, 3) := by decide +kernel
theorem dX5_passesAll_99 : decode cX5_passesAll 99 = .ok (.invokevirtual 175, 3) := by decide +kernel
theorem dX5_passesAll_102 : decode cX5_passesAll 102 = .ok (.putfield 64, 3) := by decide +kernel
theorem dX5_passesAll_105 : decode cX5_passesAll 105 = .ok (.aload_n 0, 1) := by decide +kernel
theorem dX5_passesAll_106 : decode cX5_passesAll 106 = .ok (.aload_n 0, 1) := by decide +kernel
theorem dX5_passesAll_107 : decode cX5_passesAll 107 = .ok (.aload_n 0, 1) := by decide +kernel
theorem dX5_passesAll_108 : decode cX5_passesAll 108 = .ok (.getfield 74, 3) := by decide +kernel
theorem dX5_passesAll_111 : decode cX5_passesAll 111 = .ok (.invokevirtual 175, 3) := by decide +kernel
theorem dX5_passesAll_114 : decode cX5_passesAll 114 = .ok (.putfield 74, 3) := by decide +kernel
theorem dX5_passesAll_117 : decode cX5_passesAll 117 = .ok (.aload_n 0, 1) := by decide +kernel
theorem dX5_passesAll_118 : decode cX5_passesAll 118 = .ok (.aload_n 0, 1) := by decide +kernel
theorem dX5_passesAll_119 : decode cX5_passesAll 119 = .ok (.aload_n 0, 1) := by decide +kernel
theorem dX5_passesAll_120 : decode cX5_passesAll 120 = .ok (.getfield 133, 3) := by decide +kernel
theorem dX5_passesAll_123 : decode cX5_passesAll 123 = .ok (.invokevirtual 175, 3) := by decide +kernel
theorem dX5_passesAll_126 : decode cX5_passesAll 126 = .ok (.putfield 133, 3) := by decide +kernel
theorem dX5_passesAll_129 : decode cX5_passesAll 129 = .ok (.return_, 1) := by decide +kernel
theorem dX5_thinks_0 : decode cX5_thinks 0 = .ok (.aload_n 0, 1) := by decide +kernel
theorem dX5_thinks_1 : decode cX5_thinks 1 = .ok (.iconst 2, 1) := by decide +kernel
theorem dX5_thinks_2 : decode cX5_thinks 2 = .ok (.iconst 1, 1) := by decide +kernel
theorem dX5_thinks_3 : decode cX5_thinks 3 = .ok (.invokevirtual 157, 3) := by decide +kernel
theorem dX5_thinks_6 : decode cX5_thinks 6 = .ok (.return_, 1) := by decide +kernel
theorem dX5_forgets_0 : decode cX5_forgets 0 = .ok (.aload_n 0, 1) := by decide +kernel
theorem dX5_forgets_1 : decode cX5_forgets 1 = .ok (.iconst 2, 1) := by decide +kernel
theorem dX5_forgets_2 : decode cX5_forgets 2 = .ok (.iconst 0, 1) := by decide +kernel
theorem dX5_forgets_3 : decode cX5_forgets 3 = .ok (.invokevirtual 157, 3) := by decide +kernel
theorem dX5_forgets_6 : decode cX5_forgets 6 = .ok (.return_, 1) := by decide +kernel
theorem dX5_changes_0 : decode cX5_changes 0 = .ok (.aload_n 0, 1) := by decide +kernel
theorem dX5_changes_1 : decode cX5_changes 1 = .ok (.iconst 1, 1) := by decide +kernel
theorem dX5_changes_2 : decode cX5_changes 2 = .ok (.iconst 1, 1) := by decide +kernel
theorem dX5_changes_3 : decode cX5_changes 3 = .ok (.invokevirtual 157, 3) := by decide +kernel
theorem dX5_changes_6 : decode cX5_changes 6 = .ok (.return_, 1) := by decide +kernel
theorem dX5_changesBack_0 : decode cX5_changesBack 0 = .ok (.aload_n 0, 1) := by decide +kernel
theorem dX5_changesBack_1 : decode cX5_changesBack 1 = .ok (.iconst 1, 1) := by decide +kernel
theorem dX5_changesBack_2 : decode cX5_changesBack 2 = .ok (.iconst 0, 1) := by decide +kernel
theorem dX5_changesBack_3 : decode cX5_changesBack 3 = .ok (.invokevirtual 157, 3) := by decide +kernel
theorem dX5_changesBack_6 : decode cX5_changesBack 6 = .ok (.return_, 1) := by decide +kernel
theorem dX5_image_0 : decode cX5_image 0 = .ok (.aload_n 0, 1) := by decide +kernel
theorem dX5_image_1 : decode cX5_image 1 = .ok (.iconst 1, 1) := by decide +kernel
theorem dX5_image_2 : decode cX5_image 2 = .ok (.putfield 178, 3) := by decide +kernel
theorem dX5_image_5 : decode cX5_image 5 = .ok (.aload_n 0, 1) := by decide +kernel
theorem dX5_image_6 : decode cX5_image 6 = .ok (.iconst 0, 1) := by decide +kernel
theorem dX5_image_7 : decode cX5_image 7 = .ok (.iconst 1, 1) := by decide +kernel
theorem dX5_image_8 : decode cX5_image 8 = .ok (.invokevirtual 157, 3) := by decide +kernel
theorem dX5_image_11 : decode cX5_image 11 = .ok (.aload_n 0, 1) := by decide +kernel
theorem dX5_image_12 : decode cX5_image 12 = .ok (.getfield 133, 3) := by decide +kernel
theorem dX5_image_15 : decode cX5_image 15 = .ok (.ireturn, 1) := by decide +kernel
theorem dX5_on_0 : decode cX5_on 0 = .ok (.aload_n 0, 1) := by decide +kernel
theorem dX5_on_1 : decode cX5_on 1 = .ok (.getfield 178, 3) := by decide +kernel
theorem dX5_on_4 : decode cX5_on 4 = .ok (.ifCond .ne 10, 3) := by decide +kernel
theorem dX5_on_7 : decode cX5_on 7 = .ok (.aload_n 0, 1) := by decide +kernel
theorem dX5_on_8 : decode cX5_on 8 = .ok (.bipush (-3), 2) := by decide +kernel
theorem dX5_on_10 : decode cX5_on 10 = .ok (.invokevirtual 84, 3) := by decide +kernel
theorem dX5_on_13 : decode cX5_on 13 = .ok (.ireturn, 1) := by decide +kernel
theorem dX5_on_14 : decode cX5_on 14 = .ok (.aload_n 0, 1) := by decide +kernel
theorem dX5_on_15 : decode cX5_on 15 = .ok (.iconst 0, 1) := by decide +kernel
theorem dX5_on_16 : decode cX5_on 16 = .ok (.iconst 0, 1) := by decide +kernel
theorem dX5_on_17 : decode cX5_on 17 = .ok (.invokevirtual 157, 3) := by decide +kernel
theorem dX5_on_20 : decode cX5_on 20 = .ok (.aload_n 0, 1) := by decide +kernel
theorem dX5_on_21 : decode cX5_on 21 = .ok (.getfield 133, 3) := by decide +kernel
theorem dX5_on_24 : decode cX5_on 24 = .ok (.ireturn, 1) := by decide +kernel
theorem dX5_slighted_0 : decode cX5_slighted 0 = .ok (.aload_n 0, 1) := by decide +kernel
theorem dX5_slighted_1 : decode cX5_slighted 1 = .ok (.getfield 25, 3) := by decide +kernel
theorem dX5_slighted_4 : decode cX5_slighted 4 = .ok (.iload_n 1, 1) := by decide +kernel
theorem dX5_slighted_5 : decode cX5_slighted 5 = .ok (.iload_n 2, 1) := by decide +kernel
theorem dX5_slighted_6 : decode cX5_slighted 6 = .ok (.invokestatic 115, 3) := by decide +kernel
theorem dX5_slighted_9 : decode cX5_slighted 9 = .ok (.aload_n 0, 1) := by decide +kernel
theorem dX5_slighted_10 : decode cX5_slighted 10 = .ok (.getfield 25, 3) := by decide +kernel
theorem dX5_slighted_13 : decode cX5_slighted 13 = .ok (.iload_n 1, 1) := by decide +kernel
theorem dX5_slighted_14 : decode cX5_slighted 14 = .ok (.iload_n 2, 1) := by decide +kernel
theorem dX5_slighted_15 : decode cX5_slighted 15 = .ok (.invokestatic 115, 3) := by decide +kernel
theorem dX5_slighted_18 : decode cX5_slighted 18 = .ok (.iaload, 1) := by decide +kernel
theorem dX5_slighted_19 : decode cX5_slighted 19 = .ok (.bipush 10, 2) := by decide +kernel
theorem dX5_slighted_21 : decode cX5_slighted 21 = .ok (.iload_n 3, 1) := by decide +kernel
theorem dX5_slighted_22 : decode cX5_slighted 22 = .ok (.imul, 1) := by decide +kernel
theorem dX5_slighted_23 : decode cX5_slighted 23 = .ok (.iadd, 1) := by decide +kernel
theorem dX5_slighted_24 : decode cX5_slighted 24 = .ok (.iconst 0, 1) := by decide +kernel
theorem dX5_slighted_25 : decode cX5_slighted 25 = .ok (.bipush 99, 2) := by decide +kernel
theorem dX5_slighted_27 : decode cX5_slighted 27 = .ok (.invokestatic 181, 3) := by decide +kernel
theorem dX5_slighted_30 : decode cX5_slighted 30 = .ok (.iastore, 1) := by decide +kernel
theorem dX5_slighted_31 : decode cX5_slighted 31 = .ok (.return_, 1) := by decide +kernel
theorem dX5_madeUp_0 : decode cX5_madeUp 0 = .ok (.aload_n 0, 1) := by decide +kernel
theorem dX5_madeUp_1 : decode cX5_madeUp 1 = .ok (.getfield 25, 3) := by decide +kernel
theorem dX5_madeUp_4 : decode cX5_madeUp 4 = .ok (.iload_n 1, 1) := by decide +kernel
theorem dX5_madeUp_5 : decode cX5_madeUp 5 = .ok (.iload_n 2, 1) := by decide +kernel
theorem dX5_madeUp_6 : decode cX5_madeUp 6 = .ok (.invokestatic 115, 3) := by decide +kernel
theorem dX5_madeUp_9 : decode cX5_madeUp 9 = .ok (.dup2, 1) := by decide +kernel
theorem dX5_madeUp_10 : decode cX5_madeUp 10 = .ok (.iaload, 1) := by decide +kernel
theorem dX5_madeUp_11 : decode cX5_madeUp 11 = .ok (.iconst 2, 1) := by decide +kernel
theorem dX5_madeUp_12 : decode cX5_madeUp 12 = .ok (.idiv, 1) := by decide +kernel
theorem dX5_madeUp_13 : decode cX5_madeUp 13 = .ok (.iastore, 1) := by decide +kernel
theorem dX5_madeUp_14 : decode cX5_madeUp 14 = .ok (.aload_n 0, 1) := by decide +kernel
theorem dX5_madeUp_15 : decode cX5_madeUp 15 = .ok (.getfield 25, 3) := by decide +kernel
theorem dX5_madeUp_18 : decode cX5_madeUp 18 = .ok (.iload_n 2, 1) := by decide +kernel
theorem dX5_madeUp_19 : decode cX5_madeUp 19 = .ok (.iload_n 1, 1) := by decide +kernel
theorem dX5_madeUp_20 : decode cX5_madeUp 20 = .ok (.invokestatic 115, 3) := by decide +kernel
theorem dX5_madeUp_23 : decode cX5_madeUp 23 = .ok (.dup2, 1) := by decide +kernel
theorem dX5_madeUp_24 : decode cX5_madeUp 24 = .ok (.iaload, 1) := by decide +kernel
theorem dX5_madeUp_25 : decode cX5_madeUp 25 = .ok (.iconst 2, 1) := by decide +kernel
theorem dX5_madeUp_26 : decode cX5_madeUp 26 = .ok (.idiv, 1) := by decide +kernel
theorem dX5_madeUp_27 : decode cX5_madeUp 27 = .ok (.iastore, 1) := by decide +kernel
theorem dX5_madeUp_28 : decode cX5_madeUp 28 = .ok (.return_, 1) := by decide +kernel
theorem dX5_adds_0 : decode cX5_adds 0 = .ok (.aload_n 0, 1) := by decide +kernel
theorem dX5_adds_1 : decode cX5_adds 1 = .ok (.getfield 28, 3) := by decide +kernel
theorem dX5_adds_4 : decode cX5_adds 4 = .ok (.aload_n 0, 1) := by decide +kernel
theorem dX5_adds_5 : decode cX5_adds 5 = .ok (.getfield 74, 3) := by decide +kernel
theorem dX5_adds_8 : decode cX5_adds 8 = .ok (.iload_n 1, 1) := by decide +kernel
theorem dX5_adds_9 : decode cX5_adds 9 = .ok (.iastore, 1) := by decide +kernel
theorem dX5_adds_10 : decode cX5_adds 10 = .ok (.aload_n 0, 1) := by decide +kernel
theorem dX5_adds_11 : decode cX5_adds 11 = .ok (.getfield 31, 3) := by decide +kernel
theorem dX5_adds_14 : decode cX5_adds 14 = .ok (.aload_n 0, 1) := by decide +kernel
theorem dX5_adds_15 : decode cX5_adds 15 = .ok (.getfield 74, 3) := by decide +kernel
theorem dX5_adds_18 : decode cX5_adds 18 = .ok (.iload_n 2, 1) := by decide +kernel
theorem dX5_adds_19 : decode cX5_adds 19 = .ok (.iastore, 1) := by decide +kernel
theorem dX5_adds_20 : decode cX5_adds 20 = .ok (.aload_n 0, 1) := by decide +kernel
theorem dX5_adds_21 : decode cX5_adds 21 = .ok (.getfield 34, 3) := by decide +kernel
theorem dX5_adds_24 : decode cX5_adds 24 = .ok (.aload_n 0, 1) := by decide +kernel
theorem dX5_adds_25 : decode cX5_adds 25 = .ok (.getfield 74, 3) := by decide +kernel
theorem dX5_adds_28 : decode cX5_adds 28 = .ok (.iconst 0, 1) := by decide +kernel
theorem dX5_adds_29 : decode cX5_adds 29 = .ok (.iastore, 1) := by decide +kernel
theorem dX5_adds_30 : decode cX5_adds 30 = .ok (.aload_n 0, 1) := by decide +kernel
theorem dX5_adds_31 : decode cX5_adds 31 = .ok (.getfield 37, 3) := by decide +kernel
theorem dX5_adds_34 : decode cX5_adds 34 = .ok (.aload_n 0, 1) := by decide +kernel
theorem dX5_adds_35 : decode cX5_adds 35 = .ok (.getfield 74, 3) := by decide +kernel
theorem dX5_adds_38 : decode cX5_adds 38 = .ok (.iconst 0, 1) := by decide +kernel
theorem dX5_adds_39 : decode cX5_adds 39 = .ok (.iastore, 1) := by decide +kernel
theorem dX5_adds_40 : decode cX5_adds 40 = .ok (.aload_n 0, 1) := by decide +kernel
theorem dX5_adds_41 : decode cX5_adds 41 = .ok (.getfield 40, 3) := by decide +kernel
theorem dX5_adds_44 : decode cX5_adds 44 = .ok (.aload_n 0, 1) := by decide +kernel
theorem dX5_adds_45 : decode cX5_adds 45 = .ok (.getfield 74, 3) := by decide +kernel
theorem dX5_adds_48 : decode cX5_adds 48 = .ok (.bipush (-9), 2) := by decide +kernel
theorem dX5_adds_50 : decode cX5_adds 50 = .ok (.iastore, 1) := by decide +kernel
theorem dX5_adds_51 : decode cX5_adds 51 = .ok (.aload_n 0, 1) := by decide +kernel
theorem dX5_adds_52 : decode cX5_adds 52 = .ok (.dup, 1) := by decide +kernel
theorem dX5_adds_53 : decode cX5_adds 53 = .ok (.getfield 74, 3) := by decide +kernel
theorem dX5_adds_56 : decode cX5_adds 56 = .ok (.iconst 1, 1) := by decide +kernel
theorem dX5_adds_57 : decode cX5_adds 57 = .ok (.iadd, 1) := by decide +kernel
theorem dX5_adds_58 : decode cX5_adds 58 = .ok (.putfield 74, 3) := by decide +kernel
theorem dX5_adds_61 : decode cX5_adds 61 = .ok (.return_, 1) := by decide +kernel
theorem dX5_maliceOf_0 : decode cX5_maliceOf 0 = .ok (.aload_n 0, 1) := by decide +kernel
theorem dX5_maliceOf_1 : decode cX5_maliceOf 1 = .ok (.getfield 25, 3) := by decide +kernel
theorem dX5_maliceOf_4 : decode cX5_maliceOf 4 = .ok (.iload_n 1, 1) := by decide +kernel
theorem dX5_maliceOf_5 : decode cX5_maliceOf 5 = .ok (.iload_n 2, 1) := by decide +kernel
theorem dX5_maliceOf_6 : decode cX5_maliceOf 6 = .ok (.invokestatic 115, 3) := by decide +kernel
theorem dX5_maliceOf_9 : decode cX5_maliceOf 9 = .ok (.iaload, 1) := by decide +kernel
theorem dX5_maliceOf_10 : decode cX5_maliceOf 10 = .ok (.istore_n 3, 1) := by decide +kernel
theorem dX5_maliceOf_11 : decode cX5_maliceOf 11 = .ok (.iload_n 3, 1) := by decide +kernel
theorem dX5_maliceOf_12 : decode cX5_maliceOf 12 = .ok (.ifCond .le 14, 3) := by decide +kernel
theorem dX5_maliceOf_15 : decode cX5_maliceOf 15 = .ok (.iload_n 3, 1) := by decide +kernel
theorem dX5_maliceOf_16 : decode cX5_maliceOf 16 = .ok (.aload_n 0, 1) := by decide +kernel
theorem dX5_maliceOf_17 : decode cX5_maliceOf 17 = .ok (.getfield 16, 3) := by decide +kernel
theorem dX5_maliceOf_20 : decode cX5_maliceOf 20 = .ok (.iload_n 1, 1) := by decide +kernel
theorem dX5_maliceOf_21 : decode cX5_maliceOf 21 = .ok (.iaload, 1) := by decide +kernel
theorem dX5_maliceOf_22 : decode cX5_maliceOf 22 = .ok (.iadd, 1) := by decide +kernel
theorem dX5_maliceOf_23 : decode cX5_maliceOf 23 = .ok (.goto 4, 3) := by decide +kernel
theorem dX5_maliceOf_26 : decode cX5_maliceOf 26 = .ok (.iconst 0, 1) := by decide +kernel
theorem dX5_maliceOf_27 : decode cX5_maliceOf 27 = .ok (.istore 4, 2) := by decide +kernel
theorem dX5_maliceOf_29 : decode cX5_maliceOf 29 = .ok (.aload_n 0, 1) := by decide +kernel
theorem dX5_maliceOf_30 : decode cX5_maliceOf 30 = .ok (.getfield 13, 3) := by decide +kernel
theorem dX5_maliceOf_33 : decode cX5_maliceOf 33 = .ok (.iload_n 1, 1) := by decide +kernel
theorem dX5_maliceOf_34 : decode cX5_maliceOf 34 = .ok (.iaload, 1) := by decide +kernel
theorem dX5_maliceOf_35 : decode cX5_maliceOf 35 = .ok (.tableswitch 85 1 5 #[33, 37, 40, 45, 56], 33) := by decide +kernel
theorem dX5_maliceOf_68 : decode cX5_maliceOf 68 = .ok (.iload_n 3, 1) := by decide +kernel
theorem dX5_maliceOf_69 : decode cX5_maliceOf 69 = .ok (.iconst 2, 1) := by decide +kernel
theorem dX5_maliceOf_70 : decode cX5_maliceOf 70 = .ok (.idiv, 1) := by decide +kernel
theorem dX5_maliceOf_71 : decode cX5_maliceOf 71 = .ok (.ireturn, 1) := by decide +kernel
theorem dX5_maliceOf_72 : decode cX5_maliceOf 72 = .ok (.iload 4, 2) := by decide +kernel
theorem dX5_maliceOf_74 : decode cX5_maliceOf 74 = .ok (.ireturn, 1) := by decide +kernel
theorem dX5_maliceOf_75 : decode cX5_maliceOf 75 = .ok (.iconst 2, 1) := by decide +kernel
theorem dX5_maliceOf_76 : decode cX5_maliceOf 76 = .ok (.iload 4, 2) := by decide +kernel
theorem dX5_maliceOf_78 : decode cX5_maliceOf 78 = .ok (.imul, 1) := by decide +kernel
theorem dX5_maliceOf_79 : decode cX5_maliceOf 79 = .ok (.ireturn, 1) := by decide +kernel
theorem dX5_maliceOf_80 : decode cX5_maliceOf 80 = .ok (.iload_n 3, 1) := by decide +kernel
theorem dX5_maliceOf_81 : decode cX5_maliceOf 81 = .ok (.iconst 2, 1) := by decide +kernel
theorem dX5_maliceOf_82 : decode cX5_maliceOf 82 = .ok (.idiv, 1) := by decide +kernel
theorem dX5_maliceOf_83 : decode cX5_maliceOf 83 = .ok (.aload_n 0, 1) := by decide +kernel
theorem dX5_maliceOf_84 : decode cX5_maliceOf 84 = .ok (.getfield 16, 3) := by decide +kernel
theorem dX5_maliceOf_87 : decode cX5_maliceOf 87 = .ok (.iload_n 1, 1) := by decide +kernel
theorem dX5_maliceOf_88 : decode cX5_maliceOf 88 = .ok (.iaload, 1) := by decide +kernel
theorem dX5_maliceOf_89 : decode cX5_maliceOf 89 = .ok (.iadd, 1) := by decide +kernel
theorem dX5_maliceOf_90 : decode cX5_maliceOf 90 = .ok (.ireturn, 1) := by decide +kernel
theorem dX5_maliceOf_91 : decode cX5_maliceOf 91 = .ok (.aload_n 0, 1) := by decide +kernel
theorem dX5_maliceOf_92 : decode cX5_maliceOf 92 = .ok (.getfield 19, 3) := by decide +kernel
theorem dX5_maliceOf_95 : decode cX5_maliceOf 95 = .ok (.iload_n 1, 1) := by decide +kernel
theorem dX5_maliceOf_96 : decode cX5_maliceOf 96 = .ok (.iaload, 1) := by decide +kernel
theorem dX5_maliceOf_97 : decode cX5_maliceOf 97 = .ok (.aload_n 0, 1) := by decide +kernel
theorem dX5_maliceOf_98 : decode cX5_maliceOf 98 = .ok (.getfield 19, 3) := by decide +kernel
theorem dX5_maliceOf_101 : decode cX5_maliceOf 101 = .ok (.iload_n 2, 1) := by decide +kernel
theorem dX5_maliceOf_102 : decode cX5_maliceOf 102 = .ok (.iaload, 1) := by decide +kernel
theorem dX5_maliceOf_103 : decode cX5_maliceOf 103 = .ok (.invokestatic 184, 3) := by decide +kernel
theorem dX5_maliceOf_106 : decode cX5_maliceOf 106 = .ok (.bipush 10, 2) := by decide +kernel
theorem dX5_maliceOf_108 : decode cX5_maliceOf 108 = .ok (.if_icmp .lt 7, 3) := by decide +kernel
theorem dX5_maliceOf_111 : decode cX5_maliceOf 111 = .ok (.iconst 0, 1) := by decide +kernel
theorem dX5_maliceOf_112 : decode cX5_maliceOf 112 = .ok (.goto 7, 3) := by decide +kernel
theorem dX5_maliceOf_115 : decode cX5_maliceOf 115 = .ok (.iconst 2, 1) := by decide +kernel
theorem dX5_maliceOf_116 : decode cX5_maliceOf 116 = .ok (.iload 4, 2) := by decide +kernel
theorem dX5_maliceOf_118 : decode cX5_maliceOf 118 = .ok (.imul, 1) := by decide +kernel
theorem dX5_maliceOf_119 : decode cX5_maliceOf 119 = .ok (.ireturn, 1) := by decide +kernel
theorem dX5_maliceOf_120 : decode cX5_maliceOf 120 = .ok (.iload_n 3, 1) := by decide +kernel
theorem dX5_maliceOf_121 : decode cX5_maliceOf 121 = .ok (.ireturn, 1) := by decide +kernel
theorem dX5_milesOf_0 : decode cX5_milesOf 0 = .ok (.aload_n 0, 1) := by decide +kernel
theorem dX5_milesOf_1 : decode cX5_milesOf 1 = .ok (.getfield 13, 3) := by decide +kernel
theorem dX5_milesOf_4 : decode cX5_milesOf 4 = .ok (.iload_n 1, 1) := by decide +kernel
theorem dX5_milesOf_5 : decode cX5_milesOf 5 = .ok (.iaload, 1) := by decide +kernel
theorem dX5_milesOf_6 : decode cX5_milesOf 6 = .ok (.ifCond .ne 7, 3) := by decide +kernel
theorem dX5_milesOf_9 : decode cX5_milesOf 9 = .ok (.iconst 2, 1) := by decide +kernel
theorem dX5_milesOf_10 : decode cX5_milesOf 10 = .ok (.goto 32, 3) := by decide +kernel
theorem dX5_milesOf_13 : decode cX5_milesOf 13 = .ok (.aload_n 0, 1) := by decide +kernel
theorem dX5_milesOf_14 : decode cX5_milesOf 14 = .ok (.getfield 13, 3) := by decide +kernel
theorem dX5_milesOf_17 : decode cX5_milesOf 17 = .ok (.iload_n 1, 1) := by decide +kernel
theorem dX5_milesOf_18 : decode cX5_milesOf 18 = .ok (.iaload, 1) := by decide +kernel
theorem dX5_milesOf_19 : decode cX5_milesOf 19 = .ok (.iconst 1, 1) := by decide +kernel
theorem dX5_milesOf_20 : decode cX5_milesOf 20 = .ok (.if_icmp .ne 7, 3) := by decide +kernel
theorem dX5_milesOf_23 : decode cX5_milesOf 23 = .ok (.iconst 1, 1) := by decide +kernel
theorem dX5_milesOf_24 : decode cX5_milesOf 24 = .ok (.goto 18, 3) := by decide +kernel
theorem dX5_milesOf_27 : decode cX5_milesOf 27 = .ok (.aload_n 0, 1) := by decide +kernel
theorem dX5_milesOf_28 : decode cX5_milesOf 28 = .ok (.getfield 13, 3) := by decide +kernel
theorem dX5_milesOf_31 : decode cX5_milesOf 31 = .ok (.iload_n 1, 1) := by decide +kernel
theorem dX5_milesOf_32 : decode cX5_milesOf 32 = .ok (.iaload, 1) := by decide +kernel
theorem dX5_milesOf_33 : decode cX5_milesOf 33 = .ok (.iconst 5, 1) := by decide +kernel
theorem dX5_milesOf_34 : decode cX5_milesOf 34 = .ok (.if_icmp .ne 7, 3) := by decide +kernel
theorem dX5_milesOf_37 : decode cX5_milesOf 37 = .ok (.iconst 4, 1) := by decide +kernel
theorem dX5_milesOf_38 : decode cX5_milesOf 38 = .ok (.goto 4, 3) := by decide +kernel
theorem dX5_milesOf_41 : decode cX5_milesOf 41 = .ok (.iconst 3, 1) := by decide +kernel
theorem dX5_milesOf_42 : decode cX5_milesOf 42 = .ok (.ireturn, 1) := by decide +kernel
theorem dX5_enemyBut_0 : decode cX5_enemyBut 0 = .ok (.bipush (-9), 2) := by decide +kernel
theorem dX5_enemyBut_2 : decode cX5_enemyBut 2 = .ok (.istore_n 3, 1) := by decide +kernel
theorem dX5_enemyBut_3 : decode cX5_enemyBut 3 = .ok (.iconst 0, 1) := by decide +kernel
theorem dX5_enemyBut_4 : decode cX5_enemyBut 4 = .ok (.istore 4, 2) := by decide +kernel
theorem dX5_enemyBut_6 : decode cX5_enemyBut 6 = .ok (.iload 4, 2) := by decide +kernel
theorem dX5_enemyBut_8 : decode cX5_enemyBut 8 = .ok (.aload_n 0, 1) := by decide +kernel
theorem dX5_enemyBut_9 : decode cX5_enemyBut 9 = .ok (.getfield 64, 3) := by decide +kernel
theorem dX5_enemyBut_12 : decode cX5_enemyBut 12 = .ok (.if_icmp .ge 44, 3) := by decide +kernel
theorem dX5_enemyBut_15 : decode cX5_enemyBut 15 = .ok (.iload 4, 2) := by decide +kernel
theorem dX5_enemyBut_17 : decode cX5_enemyBut 17 = .ok (.iload_n 1, 1) := by decide +kernel
theorem dX5_enemyBut_18 : decode cX5_enemyBut 18 = .ok (.if_icmp .eq 32, 3) := by decide +kernel
theorem dX5_enemyBut_21 : decode cX5_enemyBut 21 = .ok (.iload 4, 2) := by decide +kernel
theorem dX5_enemyBut_23 : decode cX5_enemyBut 23 = .ok (.iload_n 2, 1) := by decide +kernel
theorem dX5_enemyBut_24 : decode cX5_enemyBut 24 = .ok (.if_icmp .eq 26, 3) := by decide +kernel
theorem dX5_enemyBut_27 : decode cX5_enemyBut 27 = .ok (.iload_n 3, 1) := by decide +kernel
theorem dX5_enemyBut_28 : decode cX5_enemyBut 28 = .ok (.ifCond .lt 19, 3) := by decide +kernel
theorem dX5_enemyBut_31 : decode cX5_enemyBut 31 = .ok (.aload_n 0, 1) := by decide +kernel
theorem dX5_enemyBut_32 : decode cX5_enemyBut 32 = .ok (.iload 4, 2) := by decide +kernel
theorem dX5_enemyBut_34 : decode cX5_enemyBut 34 = .ok (.iload_n 1, 1) := by decide +kernel
theorem dX5_enemyBut_35 : decode cX5_enemyBut 35 = .ok (.invokevirtual 187, 3) := by decide +kernel
theorem dX5_enemyBut_38 : decode cX5_enemyBut 38 = .ok (.aload_n 0, 1) := by decide +kernel
theorem dX5_enemyBut_39 : decode cX5_enemyBut 39 = .ok (.iload_n 3, 1) := by decide +kernel
theorem dX5_enemyBut_40 : decode cX5_enemyBut 40 = .ok (.iload_n 1, 1) := by decide +kernel
theorem dX5_enemyBut_41 : decode cX5_enemyBut 41 = .ok (.invokevirtual 187, 3) := by decide +kernel
theorem dX5_enemyBut_44 : decode cX5_enemyBut 44 = .ok (.if_icmp .le 6, 3) := by decide +kernel
theorem dX5_enemyBut_47 : decode cX5_enemyBut 47 = .ok (.iload 4, 2) := by decide +kernel
theorem dX5_enemyBut_49 : decode cX5_enemyBut 49 = .ok (.istore_n 3, 1) := by decide +kernel
theorem dX5_enemyBut_50 : decode cX5_enemyBut 50 = .ok (.iinc 4 1, 3) := by decide +kernel
theorem dX5_enemyBut_53 : decode cX5_enemyBut 53 = .ok (.goto (-47), 3) := by decide +kernel
theorem dX5_enemyBut_56 : decode cX5_enemyBut 56 = .ok (.iload_n 3, 1) := by decide +kernel
theorem dX5_enemyBut_57 : decode cX5_enemyBut 57 = .ok (.ifCond .lt 13, 3) := by decide +kernel
theorem dX5_enemyBut_60 : decode cX5_enemyBut 60 = .ok (.aload_n 0, 1) := by decide +kernel
theorem dX5_enemyBut_61 : decode cX5_enemyBut 61 = .ok (.iload_n 3, 1) := by decide +kernel
theorem dX5_enemyBut_62 : decode cX5_enemyBut 62 = .ok (.iload_n 1, 1) := by decide +kernel
theorem dX5_enemyBut_63 : decode cX5_enemyBut 63 = .ok (.invokevirtual 187, 3) := by decide +kernel
theorem dX5_enemyBut_66 : decode cX5_enemyBut 66 = .ok (.iconst 5, 1) := by decide +kernel
theorem dX5_enemyBut_67 : decode cX5_enemyBut 67 = .ok (.if_icmp .ge 8, 3) := by decide +kernel
theorem dX5_enemyBut_70 : decode cX5_enemyBut 70 = .ok (.bipush (-9), 2) := by decide +kernel
theorem dX5_enemyBut_72 : decode cX5_enemyBut 72 = .ok (.goto 4, 3) := by decide +kernel
theorem dX5_enemyBut_75 : decode cX5_enemyBut 75 = .ok (.iload_n 3, 1) := by decide +kernel
theorem dX5_enemyBut_76 : decode cX5_enemyBut 76 = .ok (.ireturn, 1) := by decide +kernel
theorem dX5_enemyOf_0 : decode cX5_enemyOf 0 = .ok (.aload_n 0, 1) := by decide +kernel
theorem dX5_enemyOf_1 : decode cX5_enemyOf 1 = .ok (.iload_n 1, 1) := by decide +kernel
theorem dX5_enemyOf_2 : decode cX5_enemyOf 2 = .ok (.bipush (-9), 2) := by decide +kernel
theorem dX5_enemyOf_4 : decode cX5_enemyOf 4 = .ok (.invokevirtual 190, 3) := by decide +kernel
theorem dX5_enemyOf_7 : decode cX5_enemyOf 7 = .ok (.ireturn, 1) := by decide +kernel
theorem dX5_isCarrying_0 : decode cX5_isCarrying 0 = .ok (.iconst 0, 1) := by decide +kernel
theorem dX5_isCarrying_1 : decode cX5_isCarrying 1 = .ok (.istore_n 2, 1) := by decide +kernel
theorem dX5_isCarrying_2 : decode cX5_isCarrying 2 = .ok (.iload_n 2, 1) := by decide +kernel
theorem dX5_isCarrying_3 : decode cX5_isCarrying 3 = .ok (.aload_n 0, 1) := by decide +kernel
theorem dX5_isCarrying_4 : decode cX5_isCarrying 4 = .ok (.getfield 74, 3) := by decide +kernel
theorem dX5_isCarrying_7 : decode cX5_isCarrying 7 = .ok (.if_icmp .ge 31, 3) := by decide +kernel
theorem dX5_isCarrying_10 : decode cX5_isCarrying 10 = .ok (.aload_n 0, 1) := by decide +kernel
theorem dX5_isCarrying_11 : decode cX5_isCarrying 11 = .ok (.getfield 34, 3) := by decide +kernel
theorem dX5_isCarrying_14 : decode cX5_isCarrying 14 = .ok (.iload_n 2, 1) := by decide +kernel
theorem dX5_isCarrying_15 : decode cX5_isCarrying 15 = .ok (.iaload, 1) := by decide +kernel
theorem dX5_isCarrying_16 : decode cX5_isCarrying 16 = .ok (.iconst 1, 1) := by decide +kernel
theorem dX5_isCarrying_17 : decode cX5_isCarrying 17 = .ok (.if_icmp .ne 15, 3) := by decide +kernel
theorem dX5_isCarrying_20 : decode cX5_isCarrying 20 = .ok (.aload_n 0, 1) := by decide +kernel
theorem dX5_isCarrying_21 : decode cX5_isCarrying 21 = .ok (.getfield 40, 3) := by decide +kernel
theorem dX5_isCarrying_24 : decode cX5_isCarrying 24 = .ok (.iload_n 2, 1) := by decide +kernel
theorem dX5_isCarrying_25 : decode cX5_isCarrying 25 = .ok (.iaload, 1) := by decide +kernel
theorem dX5_isCarrying_26 : decode cX5_isCarrying 26 = .ok (.iload_n 1, 1) := by decide +kernel
theorem dX5_isCarrying_27 : decode cX5_isCarrying 27 = .ok (.if_icmp .ne 5, 3) := by decide +kernel
theorem dX5_isCarrying_30 : decode cX5_isCarrying 30 = .ok (.iconst 1, 1) := by decide +kernel
theorem dX5_isCarrying_31 : decode cX5_isCarrying 31 = .ok (.ireturn, 1) := by decide +kernel
theorem dX5_isCarrying_32 : decode cX5_isCarrying 32 = .ok (.iinc 2 1, 3) := by decide +kernel
theorem dX5_isCarrying_35 : decode cX5_isCarrying 35 = .ok (.goto (-33), 3) := by decide +kernel
theorem dX5_isCarrying_38 : decode cX5_isCarrying 38 = .ok (.iconst 0, 1) := by decide +kernel
theorem dX5_isCarrying_39 : decode cX5_isCarrying 39 = .ok (.ireturn, 1) := by decide +kernel
theorem dX5_comesNearer_0 : decode cX5_comesNearer 0 = .ok (.aload_n 0, 1) := by decide +kernel
theorem dX5_comesNearer_1 : decode cX5_comesNearer 1 = .ok (.getfield 37, 3) := by decide +kernel
theorem dX5_comesNearer_4 : decode cX5_comesNearer 4 = .ok (.iload_n 1, 1) := by decide +kernel
theorem dX5_comesNearer_5 : decode cX5_comesNearer 5 = .ok (.dup2, 1) := by decide +kernel
theorem dX5_comesNearer_6 : decode cX5_comesNearer 6 = .ok (.iaload, 1) := by decide +kernel
theorem dX5_comesNearer_7 : decode cX5_comesNearer 7 = .ok (.iconst 1, 1) := by decide +kernel
theorem dX5_comesNearer_8 : decode cX5_comesNearer 8 = .ok (.isub, 1) := by decide +kernel
theorem dX5_comesNearer_9 : decode cX5_comesNearer 9 = .ok (.iastore, 1) := by decide +kernel
theorem dX5_comesNearer_10 : decode cX5_comesNearer 10 = .ok (.aload_n 0, 1) := by decide +kernel
theorem dX5_comesNearer_11 : decode cX5_comesNearer 11 = .ok (.getfield 37, 3) := by decide +kernel
theorem dX5_comesNearer_14 : decode cX5_comesNearer 14 = .ok (.iload_n 1, 1) := by decide +kernel
theorem dX5_comesNearer_15 : decode cX5_comesNearer 15 = .ok (.iaload, 1) := by decide +kernel
theorem dX5_comesNearer_16 : decode cX5_comesNearer 16 = .ok (.ifCond .le 4, 3) := by decide +kernel
theorem dX5_comesNearer_19 : decode cX5_comesNearer 19 = .ok (.return_, 1) := by decide +kernel
theorem dX5_comesNearer_20 : decode cX5_comesNearer 20 = .ok (.aload_n 0, 1) := by decide +kernel
theorem dX5_comesNearer_21 : decode cX5_comesNearer 21 = .ok (.getfield 34, 3) := by decide +kernel
theorem dX5_comesNearer_24 : decode cX5_comesNearer 24 = .ok (.iload_n 1, 1) := by decide +kernel
theorem dX5_comesNearer_25 : decode cX5_comesNearer 25 = .ok (.iconst 2, 1) := by decide +kernel
theorem dX5_comesNearer_26 : decode cX5_comesNearer 26 = .ok (.iastore, 1) := by decide +kernel
theorem dX5_comesNearer_27 : decode cX5_comesNearer 27 = .ok (.aload_n 0, 1) := by decide +kernel
theorem dX5_comesNearer_28 : decode cX5_comesNearer 28 = .ok (.getfield 22, 3) := by decide +kernel
theorem dX5_comesNearer_31 : decode cX5_comesNearer 31 = .ok (.aload_n 0, 1) := by decide +kernel
theorem dX5_comesNearer_32 : decode cX5_comesNearer 32 = .ok (.getfield 28, 3) := by decide +kernel
theorem dX5_comesNearer_35 : decode cX5_comesNearer 35 = .ok (.iload_n 1, 1) := by decide +kernel
theorem dX5_comesNearer_36 : decode cX5_comesNearer 36 = .ok (.iaload, 1) := by decide +kernel
theorem dX5_comesNearer_37 : decode cX5_comesNearer 37 = .ok (.aload_n 0, 1) := by decide +kernel
theorem dX5_comesNearer_38 : decode cX5_comesNearer 38 = .ok (.getfield 22, 3) := by decide +kernel
theorem dX5_comesNearer_41 : decode cX5_comesNearer 41 = .ok (.aload_n 0, 1) := by decide +kernel
theorem dX5_comesNearer_42 : decode cX5_comesNearer 42 = .ok (.getfield 28, 3) := by decide +kernel
theorem dX5_comesNearer_45 : decode cX5_comesNearer 45 = .ok (.iload_n 1, 1) := by decide +kernel
theorem dX5_comesNearer_46 : decode cX5_comesNearer 46 = .ok (.iaload, 1) := by decide +kernel
theorem dX5_comesNearer_47 : decode cX5_comesNearer 47 = .ok (.iaload, 1) := by decide +kernel
theorem dX5_comesNearer_48 : decode cX5_comesNearer 48 = .ok (.iconst 1, 1) := by decide +kernel
theorem dX5_comesNearer_49 : decode cX5_comesNearer 49 = .ok (.iadd, 1) := by decide +kernel
theorem dX5_comesNearer_50 : decode cX5_comesNearer 50 = .ok (.iconst 0, 1) := by decide +kernel
theorem dX5_comesNearer_51 : decode cX5_comesNearer 51 = .ok (.sipush 999, 3) := by decide +kernel
theorem dX5_comesNearer_54 : decode cX5_comesNearer 54 = .ok (.invokestatic 181, 3) := by decide +kernel
theorem dX5_comesNearer_57 : decode cX5_comesNearer 57 = .ok (.iastore, 1) := by decide +kernel
theorem dX5_comesNearer_58 : decode cX5_comesNearer 58 = .ok (.aload_n 0, 1) := by decide +kernel
theorem dX5_comesNearer_59 : decode cX5_comesNearer 59 = .ok (.getfield 25, 3) := by decide +kernel
theorem dX5_comesNearer_62 : decode cX5_comesNearer 62 = .ok (.aload_n 0, 1) := by decide +kernel
theorem dX5_comesNearer_63 : decode cX5_comesNearer 63 = .ok (.getfield 40, 3) := by decide +kernel
theorem dX5_comesNearer_66 : decode cX5_comesNearer 66 = .ok (.iload_n 1, 1) := by decide +kernel
theorem dX5_comesNearer_67 : decode cX5_comesNearer 67 = .ok (.iaload, 1) := by decide +kernel
theorem dX5_comesNearer_68 : decode cX5_comesNearer 68 = .ok (.aload_n 0, 1) := by decide +kernel
theorem dX5_comesNearer_69 : decode cX5_comesNearer 69 = .ok (.getfield 28, 3) := by decide +kernel
theorem dX5_comesNearer_72 : decode cX5_comesNearer 72 = .ok (.iload_n 1, 1) := by decide +kernel
theorem dX5_comesNearer_73 : decode cX5_comesNearer 73 = .ok (.iaload, 1) := by decide +kernel
theorem dX5_comesNearer_74 : decode cX5_comesNearer 74 = .ok (.invokestatic 115, 3) := by decide +kernel
theorem dX5_comesNearer_77 : decode cX5_comesNearer 77 = .ok (.aload_n 0, 1) := by decide +kernel
theorem dX5_comesNearer_78 : decode cX5_comesNearer 78 = .ok (.getfield 25, 3) := by decide +kernel
theorem dX5_comesNearer_81 : decode cX5_comesNearer 81 = .ok (.aload_n 0, 1) := by decide +kernel
theorem dX5_comesNearer_82 : decode cX5_comesNearer 82 = .ok (.getfield 40, 3) := by decide +kernel
theorem dX5_comesNearer_85 : decode cX5_comesNearer 85 = .ok (.iload_n 1, 1) := by decide +kernel
theorem dX5_comesNearer_86 : decode cX5_comesNearer 86 = .ok (.iaload, 1) := by decide +kernel
theorem dX5_comesNearer_87 : decode cX5_comesNearer 87 = .ok (.aload_n 0, 1) := by decide +kernel
theorem dX5_comesNearer_88 : decode cX5_comesNearer 88 = .ok (.getfield 28, 3) := by decide +kernel
theorem dX5_comesNearer_91 : decode cX5_comesNearer 91 = .ok (.iload_n 1, 1) := by decide +kernel
theorem dX5_comesNearer_92 : decode cX5_comesNearer 92 = .ok (.iaload, 1) := by decide +kernel
theorem dX5_comesNearer_93 : decode cX5_comesNearer 93 = .ok (.invokestatic 115, 3) := by decide +kernel
theorem dX5_comesNearer_96 : decode cX5_comesNearer 96 = .ok (.iaload, 1) := by decide +kernel
theorem dX5_comesNearer_97 : decode cX5_comesNearer 97 = .ok (.aload_n 0, 1) := by decide +kernel
theorem dX5_comesNearer_98 : decode cX5_comesNearer 98 = .ok (.getfield 31, 3) := by decide +kernel
theorem dX5_comesNearer_101 : decode cX5_comesNearer 101 = .ok (.iload_n 1, 1) := by decide +kernel
theorem dX5_comesNearer_102 : decode cX5_comesNearer 102 = .ok (.iaload, 1) := by decide +kernel
theorem dX5_comesNearer_103 : decode cX5_comesNearer 103 = .ok (.isub, 1) := by decide +kernel
theorem dX5_comesNearer_104 : decode cX5_comesNearer 104 = .ok (.iconst 0, 1) := by decide +kernel
theorem dX5_comesNearer_105 : decode cX5_comesNearer 105 = .ok (.bipush 99, 2) := by decide +kernel
theorem dX5_comesNearer_107 : decode cX5_comesNearer 107 = .ok (.invokestatic 181, 3) := by decide +kernel
theorem dX5_comesNearer_110 : decode cX5_comesNearer 110 = .ok (.iastore, 1) := by decide +kernel
theorem dX5_comesNearer_111 : decode cX5_comesNearer 111 = .ok (.return_, 1) := by decide +kernel
theorem dX5_isTaken_0 : decode cX5_isTaken 0 = .ok (.aload_n 0, 1) := by decide +kernel
theorem dX5_isTaken_1 : decode cX5_isTaken 1 = .ok (.aload_n 0, 1) := by decide +kernel
theorem dX5_isTaken_2 : decode cX5_isTaken 2 = .ok (.getfield 28, 3) := by decide +kernel
theorem dX5_isTaken_5 : decode cX5_isTaken 5 = .ok (.iload_n 1, 1) := by decide +kernel
theorem dX5_isTaken_6 : decode cX5_isTaken 6 = .ok (.iaload, 1) := by decide +kernel
theorem dX5_isTaken_7 : decode cX5_isTaken 7 = .ok (.invokevirtual 193, 3) := by decide +kernel
theorem dX5_isTaken_10 : decode cX5_isTaken 10 = .ok (.istore_n 2, 1) := by decide +kernel
theorem dX5_isTaken_11 : decode cX5_isTaken 11 = .ok (.iload_n 2, 1) := by decide +kernel
theorem dX5_isTaken_12 : decode cX5_isTaken 12 = .ok (.ifCond .lt 11, 3) := by decide +kernel
theorem dX5_isTaken_15 : decode cX5_isTaken 15 = .ok (.aload_n 0, 1) := by decide +kernel
theorem dX5_isTaken_16 : decode cX5_isTaken 16 = .ok (.iload_n 2, 1) := by decide +kernel
theorem dX5_isTaken_17 : decode cX5_isTaken 17 = .ok (.invokevirtual 196, 3) := by decide +kernel
theorem dX5_isTaken_20 : decode cX5_isTaken 20 = .ok (.ifCond .eq 4, 3) := by decide +kernel
theorem dX5_isTaken_23 : decode cX5_isTaken 23 = .ok (.return_, 1) := by decide +kernel
theorem dX5_isTaken_24 : decode cX5_isTaken 24 = .ok (.aload_n 0, 1) := by decide +kernel
theorem dX5_isTaken_25 : decode cX5_isTaken 25 = .ok (.getfield 34, 3) := by decide +kernel
theorem dX5_isTaken_28 : decode cX5_isTaken 28 = .ok (.iload_n 1, 1) := by decide +kernel
theorem dX5_isTaken_29 : decode cX5_isTaken 29 = .ok (.iconst 1, 1) := by decide +kernel
theorem dX5_isTaken_30 : decode cX5_isTaken 30 = .ok (.iastore, 1) := by decide +kernel
theorem dX5_isTaken_31 : decode cX5_isTaken 31 = .ok (.aload_n 0, 1) := by decide +kernel
theorem dX5_isTaken_32 : decode cX5_isTaken 32 = .ok (.getfield 40, 3) := by decide +kernel
theorem dX5_isTaken_35 : decode cX5_isTaken 35 = .ok (.iload_n 1, 1) := by decide +kernel
theorem dX5_isTaken_36 : decode cX5_isTaken 36 = .ok (.iload_n 2, 1) := by decide +kernel
theorem dX5_isTaken_37 : decode cX5_isTaken 37 = .ok (.iastore, 1) := by decide +kernel
theorem dX5_isTaken_38 : decode cX5_isTaken 38 = .ok (.aload_n 0, 1) := by decide +kernel
theorem dX5_isTaken_39 : decode cX5_isTaken 39 = .ok (.getfield 37, 3) := by decide +kernel
theorem dX5_isTaken_42 : decode cX5_isTaken 42 = .ok (.iload_n 1, 1) := by decide +kernel
theorem dX5_isTaken_43 : decode cX5_isTaken 43 = .ok (.aload_n 0, 1) := by decide +kernel
theorem dX5_isTaken_44 : decode cX5_isTaken 44 = .ok (.getfield 19, 3) := by decide +kernel
theorem dX5_isTaken_47 : decode cX5_isTaken 47 = .ok (.iload_n 2, 1) := by decide +kernel
theorem dX5_isTaken_48 : decode cX5_isTaken 48 = .ok (.iaload, 1) := by decide +kernel
theorem dX5_isTaken_49 : decode cX5_isTaken 49 = .ok (.aload_n 0, 1) := by decide +kernel
theorem dX5_isTaken_50 : decode cX5_isTaken 50 = .ok (.getfield 19, 3) := by decide +kernel
theorem dX5_isTaken_53 : decode cX5_isTaken 53 = .ok (.aload_n 0, 1) := by decide +kernel
theorem dX5_isTaken_54 : decode cX5_isTaken 54 = .ok (.getfield 28, 3) := by decide +kernel
theorem dX5_isTaken_57 : decode cX5_isTaken 57 = .ok (.iload_n 1, 1) := by decide +kernel
theorem dX5_isTaken_58 : decode cX5_isTaken 58 = .ok (.iaload, 1) := by decide +kernel
theorem dX5_isTaken_59 : decode cX5_isTaken 59 = .ok (.iaload, 1) := by decide +kernel
theorem dX5_isTaken_60 : decode cX5_isTaken 60 = .ok (.invokestatic 184, 3) := by decide +kernel
theorem dX5_isTaken_63 : decode cX5_isTaken 63 = .ok (.aload_n 0, 1) := by decide +kernel
theorem dX5_isTaken_64 : decode cX5_isTaken 64 = .ok (.iload_n 2, 1) := by decide +kernel
theorem dX5_isTaken_65 : decode cX5_isTaken 65 = .ok (.invokevirtual 199, 3) := by decide +kernel
theorem dX5_isTaken_68 : decode cX5_isTaken 68 = .ok (.iadd, 1) := by decide +kernel
theorem dX5_isTaken_69 : decode cX5_isTaken 69 = .ok (.iconst 1, 1) := by decide +kernel
theorem dX5_isTaken_70 : decode cX5_isTaken 70 = .ok (.isub, 1) := by decide +kernel
theorem dX5_isTaken_71 : decode cX5_isTaken 71 = .ok (.aload_n 0, 1) := by decide +kernel
theorem dX5_isTaken_72 : decode cX5_isTaken 72 = .ok (.iload_n 2, 1) := by decide +kernel
theorem dX5_isTaken_73 : decode cX5_isTaken 73 = .ok (.invokevirtual 199, 3) := by decide +kernel
theorem dX5_isTaken_76 : decode cX5_isTaken 76 = .ok (.idiv, 1) := by decide +kernel
theorem dX5_isTaken_77 : decode cX5_isTaken 77 = .ok (.iconst 1, 1) := by decide +kernel
theorem dX5_isTaken_78 : decode cX5_isTaken 78 = .ok (.iadd, 1) := by decide +kernel
theorem dX5_isTaken_79 : decode cX5_isTaken 79 = .ok (.iastore, 1) := by decide +kernel
theorem dX5_isTaken_80 : decode cX5_isTaken 80 = .ok (.return_, 1) := by decide +kernel
theorem dX5_goesDay_0 : decode cX5_goesDay 0 = .ok (.aload_n 0, 1) := by decide +kernel
theorem dX5_goesDay_1 : decode cX5_goesDay 1 = .ok (.dup, 1) := by decide +kernel
theorem dX5_goesDay_2 : decode cX5_goesDay 2 = .ok (.getfield 133, 3) := by decide +kernel
theorem dX5_goesDay_5 : decode cX5_goesDay 5 = .ok (.iconst 1, 1) := by decide +kernel
theorem dX5_goesDay_6 : decode cX5_goesDay 6 = .ok (.iadd, 1) := by decide +kernel
theorem dX5_goesDay_7 : decode cX5_goesDay 7 = .ok (.putfield 133, 3) := by decide +kernel
theorem dX5_goesDay_10 : decode cX5_goesDay 10 = .ok (.iconst 0, 1) := by decide +kernel
theorem dX5_goesDay_11 : decode cX5_goesDay 11 = .ok (.istore_n 2, 1) := by decide +kernel
theorem dX5_goesDay_12 : decode cX5_goesDay 12 = .ok (.iload_n 2, 1) := by decide +kernel
theorem dX5_goesDay_13 : decode cX5_goesDay 13 = .ok (.aload_n 0, 1) := by decide +kernel
theorem dX5_goesDay_14 : decode cX5_goesDay 14 = .ok (.getfield 74, 3) := by decide +kernel
theorem dX5_goesDay_17 : decode cX5_goesDay 17 = .ok (.if_icmp .ge 28, 3) := by decide +kernel
theorem dX5_goesDay_20 : decode cX5_goesDay 20 = .ok (.iload_n 1, 1) := by decide +kernel
theorem dX5_goesDay_21 : decode cX5_goesDay 21 = .ok (.ifCond .ne 24, 3) := by decide +kernel
theorem dX5_goesDay_24 : decode cX5_goesDay 24 = .ok (.aload_n 0, 1) := by decide +kernel
theorem dX5_goesDay_25 : decode cX5_goesDay 25 = .ok (.getfield 34, 3) := by decide +kernel
theorem dX5_goesDay_28 : decode cX5_goesDay 28 = .ok (.iload_n 2, 1) := by decide +kernel
theorem dX5_goesDay_29 : decode cX5_goesDay 29 = .ok (.iaload, 1) := by decide +kernel
theorem dX5_goesDay_30 : decode cX5_goesDay 30 = .ok (.iconst 1, 1) := by decide +kernel
theorem dX5_goesDay_31 : decode cX5_goesDay 31 = .ok (.if_icmp .ne 8, 3) := by decide +kernel
theorem dX5_goesDay_34 : decode cX5_goesDay 34 = .ok (.aload_n 0, 1) := by decide +kernel
theorem dX5_goesDay_35 : decode cX5_goesDay 35 = .ok (.iload_n 2, 1) := by decide +kernel
theorem dX5_goesDay_36 : decode cX5_goesDay 36 = .ok (.invokevirtual 202, 3) := by decide +kernel
theorem dX5_goesDay_39 : decode cX5_goesDay 39 = .ok (.iinc 2 1, 3) := by decide +kernel
theorem dX5_goesDay_42 : decode cX5_goesDay 42 = .ok (.goto (-30), 3) := by decide +kernel
theorem dX5_goesDay_45 : decode cX5_goesDay 45 = .ok (.iconst 0, 1) := by decide +kernel
theorem dX5_goesDay_46 : decode cX5_goesDay 46 = .ok (.istore_n 2, 1) := by decide +kernel
theorem dX5_goesDay_47 : decode cX5_goesDay 47 = .ok (.iload_n 2, 1) := by decide +kernel
theorem dX5_goesDay_48 : decode cX5_goesDay 48 = .ok (.aload_n 0, 1) := by decide +kernel
theorem dX5_goesDay_49 : decode cX5_goesDay 49 = .ok (.getfield 74, 3) := by decide +kernel
theorem dX5_goesDay_52 : decode cX5_goesDay 52 = .ok (.if_icmp .ge 23, 3) := by decide +kernel
theorem dX5_goesDay_55 : decode cX5_goesDay 55 = .ok (.aload_n 0, 1) := by decide +kernel
theorem dX5_goesDay_56 : decode cX5_goesDay 56 = .ok (.getfield 34, 3) := by decide +kernel
theorem dX5_goesDay_59 : decode cX5_goesDay 59 = .ok (.iload_n 2, 1) := by decide +kernel
theorem dX5_goesDay_60 : decode cX5_goesDay 60 = .ok (.iaload, 1) := by decide +kernel
theorem dX5_goesDay_61 : decode cX5_goesDay 61 = .ok (.ifCond .ne 8, 3) := by decide +kernel
theorem dX5_goesDay_64 : decode cX5_goesDay 64 = .ok (.aload_n 0, 1) := by decide +kernel
theorem dX5_goesDay_65 : decode cX5_goesDay 65 = .ok (.iload_n 2, 1) := by decide +kernel
theorem dX5_goesDay_66 : decode cX5_goesDay 66 = .ok (.invokevirtual 205, 3) := by decide +kernel
theorem dX5_goesDay_69 : decode cX5_goesDay 69 = .ok (.iinc 2 1, 3) := by decide +kernel
theorem dX5_goesDay_72 : decode cX5_goesDay 72 = .ok (.goto (-25), 3) := by decide +kernel
theorem dX5_goesDay_75 : decode cX5_goesDay 75 = .ok (.iconst 0, 1) := by decide +kernel
theorem dX5_goesDay_76 : decode cX5_goesDay 76 = .ok (.istore_n 2, 1) := by decide +kernel
theorem dX5_goesDay_77 : decode cX5_goesDay 77 = .ok (.iload_n 2, 1) := by decide +kernel
theorem dX5_goesDay_78 : decode cX5_goesDay 78 = .ok (.bipush 36, 2) := by decide +kernel
theorem dX5_goesDay_80 : decode cX5_goesDay 80 = .ok (.if_icmp .ge 42, 3) := by decide +kernel
theorem dX5_goesDay_83 : decode cX5_goesDay 83 = .ok (.aload_n 0, 1) := by decide +kernel
theorem dX5_goesDay_84 : decode cX5_goesDay 84 = .ok (.getfield 133, 3) := by decide +kernel
theorem dX5_goesDay_87 : decode cX5_goesDay 87 = .ok (.bipush 7, 2) := by decide +kernel
theorem dX5_goesDay_89 : decode cX5_goesDay 89 = .ok (.irem, 1) := by decide +kernel
theorem dX5_goesDay_90 : decode cX5_goesDay 90 = .ok (.ifCond .ne 32, 3) := by decide +kernel
theorem dX5_goesDay_93 : decode cX5_goesDay 93 = .ok (.aload_n 0, 1) := by decide +kernel
theorem dX5_goesDay_94 : decode cX5_goesDay 94 = .ok (.getfield 25, 3) := by decide +kernel
theorem dX5_goesDay_97 : decode cX5_goesDay 97 = .ok (.iload_n 2, 1) := by decide +kernel
theorem dX5_goesDay_98 : decode cX5_goesDay 98 = .ok (.dup2, 1) := by decide +kernel
theorem dX5_goesDay_99 : decode cX5_goesDay 99 = .ok (.iaload, 1) := by decide +kernel
theorem dX5_goesDay_100 : decode cX5_goesDay 100 = .ok (.aload_n 0, 1) := by decide +kernel
theorem dX5_goesDay_101 : decode cX5_goesDay 101 = .ok (.getfield 25, 3) := by decide +kernel
theorem dX5_goesDay_104 : decode cX5_goesDay 104 = .ok (.iload_n 2, 1) := by decide +kernel
theorem dX5_goesDay_105 : decode cX5_goesDay 105 = .ok (.iaload, 1) := by decide +kernel
theorem dX5_goesDay_106 : decode cX5_goesDay 106 = .ok (.ifCond .le 7, 3) := by decide +kernel
theorem dX5_goesDay_109 : decode cX5_goesDay 109 = .ok (.iconst 1, 1) := by decide +kernel
theorem dX5_goesDay_110 : decode cX5_goesDay 110 = .ok (.goto 4, 3) := by decide +kernel
theorem dX5_goesDay_113 : decode cX5_goesDay 113 = .ok (.iconst 0, 1) := by decide +kernel
theorem dX5_goesDay_114 : decode cX5_goesDay 114 = .ok (.isub, 1) := by decide +kernel
theorem dX5_goesDay_115 : decode cX5_goesDay 115 = .ok (.iastore, 1) := by decide +kernel
theorem dX5_goesDay_116 : decode cX5_goesDay 116 = .ok (.iinc 2 1, 3) := by decide +kernel
theorem dX5_goesDay_119 : decode cX5_goesDay 119 = .ok (.goto (-42), 3) := by decide +kernel
theorem dX5_goesDay_122 : decode cX5_goesDay 122 = .ok (.return_, 1) := by decide +kernel
theorem dX5_goes_0 : decode cX5_goes 0 = .ok (.iconst 0, 1) := by decide +kernel
theorem dX5_goes_1 : decode cX5_goes 1 = .ok (.istore_n 2, 1) := by decide +kernel
theorem dX5_goes_2 : decode cX5_goes 2 = .ok (.iload_n 2, 1) := by decide +kernel
theorem dX5_goes_3 : decode cX5_goes 3 = .ok (.iload_n 1, 1) := by decide +kernel
theorem dX5_goes_4 : decode cX5_goes 4 = .ok (.if_icmp .ge 14, 3) := by decide +kernel
theorem dX5_goes_7 : decode cX5_goes 7 = .ok (.aload_n 0, 1) := by decide +kernel
theorem dX5_goes_8 : decode cX5_goes 8 = .ok (.iconst 0, 1) := by decide +kernel
theorem dX5_goes_9 : decode cX5_goes 9 = .ok (.invokevirtual 208, 3) := by decide +kernel
theorem dX5_goes_12 : decode cX5_goes 12 = .ok (.iinc 2 1, 3) := by decide +kernel
theorem dX5_goes_15 : decode cX5_goes 15 = .ok (.goto (-13), 3) := by decide +kernel
theorem dX5_goes_18 : decode cX5_goes 18 = .ok (.return_, 1) := by decide +kernel
theorem dX5_thoseIn_0 : decode cX5_thoseIn 0 = .ok (.iconst 0, 1) := by decide +kernel
theorem dX5_thoseIn_1 : decode cX5_thoseIn 1 = .ok (.istore_n 2, 1) := by decide +kernel
theorem dX5_thoseIn_2 : decode cX5_thoseIn 2 = .ok (.iconst 0, 1) := by decide +kernel
theorem dX5_thoseIn_3 : decode cX5_thoseIn 3 = .ok (.istore_n 3, 1) := by decide +kernel
theorem dX5_thoseIn_4 : decode cX5_thoseIn 4 = .ok (.iload_n 3, 1) := by decide +kernel
theorem dX5_thoseIn_5 : decode cX5_thoseIn 5 = .ok (.aload_n 0, 1) := by decide +kernel
theorem dX5_thoseIn_6 : decode cX5_thoseIn 6 = .ok (.getfield 74, 3) := by decide +kernel
theorem dX5_thoseIn_9 : decode cX5_thoseIn 9 = .ok (.if_icmp .ge 29, 3) := by decide +kernel
theorem dX5_thoseIn_12 : decode cX5_thoseIn 12 = .ok (.iload_n 2, 1) := by decide +kernel
theorem dX5_thoseIn_13 : decode cX5_thoseIn 13 = .ok (.aload_n 0, 1) := by decide +kernel
theorem dX5_thoseIn_14 : decode cX5_thoseIn 14 = .ok (.getfield 34, 3) := by decide +kernel
theorem dX5_thoseIn_17 : decode cX5_thoseIn 17 = .ok (.iload_n 3, 1) := by decide +kernel
theorem dX5_thoseIn_18 : decode cX5_thoseIn 18 = .ok (.iaload, 1) := by decide +kernel
theorem dX5_thoseIn_19 : decode cX5_thoseIn 19 = .ok (.iload_n 1, 1) := by decide +kernel
theorem dX5_thoseIn_20 : decode cX5_thoseIn 20 = .ok (.if_icmp .ne 9, 3) := by decide +kernel
theorem dX5_thoseIn_23 : decode cX5_thoseIn 23 = .ok (.iconst 1, 1) := by decide +kernel
theorem dX5_thoseIn_24 : decode cX5_thoseIn 24 = .ok (.iload_n 3, 1) := by decide +kernel
theorem dX5_thoseIn_25 : decode cX5_thoseIn 25 = .ok (.ishl, 1) := by decide +kernel
theorem dX5_thoseIn_26 : decode cX5_thoseIn 26 = .ok (.goto 4, 3) := by decide +kernel
theorem dX5_thoseIn_29 : decode cX5_thoseIn 29 = .ok (.iconst 0, 1) := by decide +kernel
theorem dX5_thoseIn_30 : decode cX5_thoseIn 30 = .ok (.ior, 1) := by decide +kernel
theorem dX5_thoseIn_31 : decode cX5_thoseIn 31 = .ok (.istore_n 2, 1) := by decide +kernel
theorem dX5_thoseIn_32 : decode cX5_thoseIn 32 = .ok (.iinc 3 1, 3) := by decide +kernel
theorem dX5_thoseIn_35 : decode cX5_thoseIn 35 = .ok (.goto (-31), 3) := by decide +kernel
theorem dX5_thoseIn_38 : decode cX5_thoseIn 38 = .ok (.iload_n 2, 1) := by decide +kernel
theorem dX5_thoseIn_39 : decode cX5_thoseIn 39 = .ok (.ireturn, 1) := by decide +kernel
theorem dX5_allHate_0 : decode cX5_allHate 0 = .ok (.iconst 0, 1) := by decide +kernel
theorem dX5_allHate_1 : decode cX5_allHate 1 = .ok (.istore_n 1, 1) := by decide +kernel
theorem dX5_allHate_2 : decode cX5_allHate 2 = .ok (.iconst 0, 1) := by decide +kernel
theorem dX5_allHate_3 : decode cX5_allHate 3 = .ok (.istore_n 2, 1) := by decide +kernel
theorem dX5_allHate_4 : decode cX5_allHate 4 = .ok (.iload_n 2, 1) := by decide +kernel
theorem dX5_allHate_5 : decode cX5_allHate 5 = .ok (.bipush 36, 2) := by decide +kernel
theorem dX5_allHate_7 : decode cX5_allHate 7 = .ok (.if_icmp .ge 18, 3) := by decide +kernel
theorem dX5_allHate_10 : decode cX5_allHate 10 = .ok (.iload_n 1, 1) := by decide +kernel
theorem dX5_allHate_11 : decode cX5_allHate 11 = .ok (.aload_n 0, 1) := by decide +kernel
theorem dX5_allHate_12 : decode cX5_allHate 12 = .ok (.getfield 25, 3) := by decide +kernel
theorem dX5_allHate_15 : decode cX5_allHate 15 = .ok (.iload_n 2, 1) := by decide +kernel
theorem dX5_allHate_16 : decode cX5_allHate 16 = .ok (.iaload, 1) := by decide +kernel
theorem dX5_allHate_17 : decode cX5_allHate 17 = .ok (.iadd, 1) := by decide +kernel
theorem dX5_allHate_18 : decode cX5_allHate 18 = .ok (.istore_n 1, 1) := by decide +kernel
theorem dX5_allHate_19 : decode cX5_allHate 19 = .ok (.iinc 2 1, 3) := by decide +kernel
theorem dX5_allHate_22 : decode cX5_allHate 22 = .ok (.goto (-18), 3) := by decide +kernel
theorem dX5_allHate_25 : decode cX5_allHate 25 = .ok (.iload_n 1, 1) := by decide +kernel
theorem dX5_allHate_26 : decode cX5_allHate 26 = .ok (.ireturn, 1) := by decide +kernel
theorem dX5_person_0 : decode cX5_person 0 = .ok (.aload_n 0, 1) := by decide +kernel
theorem dX5_person_1 : decode cX5_person 1 = .ok (.iload_n 1, 1) := by decide +kernel
theorem dX5_person_2 : decode cX5_person 2 = .ok (.invokevirtual 70, 3) := by decide +kernel
theorem dX5_person_5 : decode cX5_person 5 = .ok (.ifCond .ne 9, 3) := by decide +kernel
theorem dX5_person_8 : decode cX5_person 8 = .ok (.aload_n 0, 1) := by decide +kernel
theorem dX5_person_9 : decode cX5_person 9 = .ok (.iconst (-1), 1) := by decide +kernel
theorem dX5_person_10 : decode cX5_person 10 = .ok (.invokevirtual 84, 3) := by decide +kernel
theorem dX5_person_13 : decode cX5_person 13 = .ok (.ireturn, 1) := by decide +kernel
theorem dX5_person_14 : decode cX5_person 14 = .ok (.iload_n 2, 1) := by decide +kernel
theorem dX5_person_15 : decode cX5_person 15 = .ok (.tableswitch 85 0 5 #[37, 44, 51, 58, 65, 71], 37) := by decide +kernel
theorem dX5_person_52 : decode cX5_person 52 = .ok (.aload_n 0, 1) := by decide +kernel
theorem dX5_person_53 : decode cX5_person 53 = .ok (.getfield 13, 3) := by decide +kernel
theorem dX5_person_56 : decode cX5_person 56 = .ok (.iload_n 1, 1) := by decide +kernel
theorem dX5_person_57 : decode cX5_person 57 = .ok (.iaload, 1) := by decide +kernel
theorem dX5_person_58 : decode cX5_person 58 = .ok (.ireturn, 1) := by decide +kernel
theorem dX5_person_59 : decode cX5_person 59 = .ok (.aload_n 0, 1) := by decide +kernel
theorem dX5_person_60 : decode cX5_person 60 = .ok (.getfield 16, 3) := by decide +kernel
theorem dX5_person_63 : decode cX5_person 63 = .ok (.iload_n 1, 1) := by decide +kernel
theorem dX5_person_64 : decode cX5_person 64 = .ok (.iaload, 1) := by decide +kernel
theorem dX5_person_65 : decode cX5_person 65 = .ok (.ireturn, 1) := by decide +kernel
theorem dX5_person_66 : decode cX5_person 66 = .ok (.aload_n 0, 1) := by decide +kernel
theorem dX5_person_67 : decode cX5_person 67 = .ok (.getfield 19, 3) := by decide +kernel
theorem dX5_person_70 : decode cX5_person 70 = .ok (.iload_n 1, 1) := by decide +kernel
theorem dX5_person_71 : decode cX5_person 71 = .ok (.iaload, 1) := by decide +kernel
theorem dX5_person_72 : decode cX5_person 72 = .ok (.ireturn, 1) := by decide +kernel
theorem dX5_person_73 : decode cX5_person 73 = .ok (.aload_n 0, 1) := by decide +kernel
theorem dX5_person_74 : decode cX5_person 74 = .ok (.getfield 22, 3) := by decide +kernel
theorem dX5_person_77 : decode cX5_person 77 = .ok (.iload_n 1, 1) := by decide +kernel
theorem dX5_person_78 : decode cX5_person 78 = .ok (.iaload, 1) := by decide +kernel
theorem dX5_person_79 : decode cX5_person 79 = .ok (.ireturn, 1) := by decide +kernel
theorem dX5_person_80 : decode cX5_person 80 = .ok (.aload_n 0, 1) := by decide +kernel
theorem dX5_person_81 : decode cX5_person 81 = .ok (.iload_n 1, 1) := by decide +kernel
theorem dX5_person_82 : decode cX5_person 82 = .ok (.invokevirtual 199, 3) := by decide +kernel
theorem dX5_person_85 : decode cX5_person 85 = .ok (.ireturn, 1) := by decide +kernel
theorem dX5_person_86 : decode cX5_person 86 = .ok (.aload_n 0, 1) := by decide +kernel
theorem dX5_person_87 : decode cX5_person 87 = .ok (.iload_n 1, 1) := by decide +kernel
theorem dX5_person_88 : decode cX5_person 88 = .ok (.invokevirtual 196, 3) := by decide +kernel
theorem dX5_person_91 : decode cX5_person 91 = .ok (.ifCond .eq 7, 3) := by decide +kernel
theorem dX5_person_94 : decode cX5_person 94 = .ok (.iconst 1, 1) := by decide +kernel
theorem dX5_person_95 : decode cX5_person 95 = .ok (.goto 4, 3) := by decide +kernel
theorem dX5_person_98 : decode cX5_person 98 = .ok (.iconst 0, 1) := by decide +kernel
theorem dX5_person_99 : decode cX5_person 99 = .ok (.ireturn, 1) := by decide +kernel
theorem dX5_person_100 : decode cX5_person 100 = .ok (.aload_n 0, 1) := by decide +kernel
theorem dX5_person_101 : decode cX5_person 101 = .ok (.bipush (-2), 2) := by decide +kernel
theorem dX5_person_103 : decode cX5_person 103 = .ok (.invokevirtual 84, 3) := by decide +kernel
theorem dX5_person_106 : decode cX5_person 106 = .ok (.ireturn, 1) := by decide +kernel
theorem dX5_parcel_0 : decode cX5_parcel 0 = .ok (.aload_n 0, 1) := by decide +kernel
theorem dX5_parcel_1 : decode cX5_parcel 1 = .ok (.iload_n 1, 1) := by decide +kernel
theorem dX5_parcel_2 : decode cX5_parcel 2 = .ok (.invokevirtual 212, 3) := by decide +kernel
theorem dX5_parcel_5 : decode cX5_parcel 5 = .ok (.ifCond .ne 9, 3) := by decide +kernel
theorem dX5_parcel_8 : decode cX5_parcel 8 = .ok (.aload_n 0, 1) := by decide +kernel
theorem dX5_parcel_9 : decode cX5_parcel 9 = .ok (.iconst (-1), 1) := by decide +kernel
theorem dX5_parcel_10 : decode cX5_parcel 10 = .ok (.invokevirtual 84, 3) := by decide +kernel
theorem dX5_parcel_13 : decode cX5_parcel 13 = .ok (.ireturn, 1) := by decide +kernel
theorem dX5_parcel_14 : decode cX5_parcel 14 = .ok (.iload_n 2, 1) := by decide +kernel
theorem dX5_parcel_15 : decode cX5_parcel 15 = .ok (.tableswitch 68 0 4 #[33, 40, 47, 54, 61], 33) := by decide +kernel
theorem dX5_parcel_48 : decode cX5_parcel 48 = .ok (.aload_n 0, 1) := by decide +kernel
theorem dX5_parcel_49 : decode cX5_parcel 49 = .ok (.getfield 28, 3) := by decide +kernel
theorem dX5_parcel_52 : decode cX5_parcel 52 = .ok (.iload_n 1, 1) := by decide +kernel
theorem dX5_parcel_53 : decode cX5_parcel 53 = .ok (.iaload, 1) := by decide +kernel
theorem dX5_parcel_54 : decode cX5_parcel 54 = .ok (.ireturn, 1) := by decide +kernel
theorem dX5_parcel_55 : decode cX5_parcel 55 = .ok (.aload_n 0, 1) := by decide +kernel
theorem dX5_parcel_56 : decode cX5_parcel 56 = .ok (.getfield 31, 3) := by decide +kernel
theorem dX5_parcel_59 : decode cX5_parcel 59 = .ok (.iload_n 1, 1) := by decide +kernel
theorem dX5_parcel_60 : decode cX5_parcel 60 = .ok (.iaload, 1) := by decide +kernel
theorem dX5_parcel_61 : decode cX5_parcel 61 = .ok (.ireturn, 1) := by decide +kernel
theorem dX5_parcel_62 : decode cX5_parcel 62 = .ok (.aload_n 0, 1) := by decide +kernel
theorem dX5_parcel_63 : decode cX5_parcel 63 = .ok (.getfield 34, 3) := by decide +kernel
theorem dX5_parcel_66 : decode cX5_parcel 66 = .ok (.iload_n 1, 1) := by decide +kernel
theorem dX5_parcel_67 : decode cX5_parcel 67 = .ok (.iaload, 1) := by decide +kernel
theorem dX5_parcel_68 : decode cX5_parcel 68 = .ok (.ireturn, 1) := by decide +kernel
theorem dX5_parcel_69 : decode cX5_parcel 69 = .ok (.aload_n 0, 1) := by decide +kernel
theorem dX5_parcel_70 : decode cX5_parcel 70 = .ok (.getfield 37, 3) := by decide +kernel
theorem dX5_parcel_73 : decode cX5_parcel 73 = .ok (.iload_n 1, 1) := by decide +kernel
theorem dX5_parcel_74 : decode cX5_parcel 74 = .ok (.iaload, 1) := by decide +kernel
theorem dX5_parcel_75 : decode cX5_parcel 75 = .ok (.ireturn, 1) := by decide +kernel
theorem dX5_parcel_76 : decode cX5_parcel 76 = .ok (.aload_n 0, 1) := by decide +kernel
theorem dX5_parcel_77 : decode cX5_parcel 77 = .ok (.getfield 40, 3) := by decide +kernel
theorem dX5_parcel_80 : decode cX5_parcel 80 = .ok (.iload_n 1, 1) := by decide +kernel
theorem dX5_parcel_81 : decode cX5_parcel 81 = .ok (.iaload, 1) := by decide +kernel
theorem dX5_parcel_82 : decode cX5_parcel 82 = .ok (.ireturn, 1) := by decide +kernel
theorem dX5_parcel_83 : decode cX5_parcel 83 = .ok (.aload_n 0, 1) := by decide +kernel
theorem dX5_parcel_84 : decode cX5_parcel 84 = .ok (.bipush (-2), 2) := by decide +kernel
theorem dX5_parcel_86 : decode cX5_parcel 86 = .ok (.invokevirtual 84, 3) := by decide +kernel
theorem dX5_parcel_89 : decode cX5_parcel 89 = .ok (.ireturn, 1) := by decide +kernel
theorem dX5_hate_0 : decode cX5_hate 0 = .ok (.aload_n 0, 1) := by decide +kernel
theorem dX5_hate_1 : decode cX5_hate 1 = .ok (.iload_n 1, 1) := by decide +kernel
theorem dX5_hate_2 : decode cX5_hate 2 = .ok (.iload_n 2, 1) := by decide +kernel
theorem dX5_hate_3 : decode cX5_hate 3 = .ok (.invokevirtual 123, 3) := by decide +kernel
theorem dX5_hate_6 : decode cX5_hate 6 = .ok (.ifCond .eq 16, 3) := by decide +kernel
theorem dX5_hate_9 : decode cX5_hate 9 = .ok (.aload_n 0, 1) := by decide +kernel
theorem dX5_hate_10 : decode cX5_hate 10 = .ok (.getfield 25, 3) := by decide +kernel
theorem dX5_hate_13 : decode cX5_hate 13 = .ok (.iload_n 1, 1) := by decide +kernel
theorem dX5_hate_14 : decode cX5_hate 14 = .ok (.iload_n 2, 1) := by decide +kernel
theorem dX5_hate_15 : decode cX5_hate 15 = .ok (.invokestatic 115, 3) := by decide +kernel
theorem dX5_hate_18 : decode cX5_hate 18 = .ok (.iaload, 1) := by decide +kernel
theorem dX5_hate_19 : decode cX5_hate 19 = .ok (.goto 8, 3) := by decide +kernel
theorem dX5_hate_22 : decode cX5_hate 22 = .ok (.aload_n 0, 1) := by decide +kernel
theorem dX5_hate_23 : decode cX5_hate 23 = .ok (.iconst (-1), 1) := by decide +kernel
theorem dX5_hate_24 : decode cX5_hate 24 = .ok (.invokevirtual 84, 3) := by decide +kernel
theorem dX5_hate_27 : decode cX5_hate 27 = .ok (.ireturn, 1) := by decide +kernel
theorem dX5_posts_0 : decode cX5_posts 0 = .ok (.aload_n 0, 1) := by decide +kernel
theorem dX5_posts_1 : decode cX5_posts 1 = .ok (.iload_n 1, 1) := by decide +kernel
theorem dX5_posts_2 : decode cX5_posts 2 = .ok (.invokevirtual 70, 3) := by decide +kernel
theorem dX5_posts_5 : decode cX5_posts 5 = .ok (.ifCond .ne 7, 3) := by decide +kernel
theorem dX5_posts_8 : decode cX5_posts 8 = .ok (.iconst (-1), 1) := by decide +kernel
theorem dX5_posts_9 : decode cX5_posts 9 = .ok (.goto 10, 3) := by decide +kernel
theorem dX5_posts_12 : decode cX5_posts 12 = .ok (.iload_n 2, 1) := by decide +kernel
theorem dX5_posts_13 : decode cX5_posts 13 = .ok (.iconst 0, 1) := by decide +kernel
theorem dX5_posts_14 : decode cX5_posts 14 = .ok (.bipush 9, 2) := by decide +kernel
theorem dX5_posts_16 : decode cX5_posts 16 = .ok (.invokestatic 77, 3) := by decide +kernel
theorem dX5_posts_19 : decode cX5_posts 19 = .ok (.istore_n 3, 1) := by decide +kernel
theorem dX5_posts_20 : decode cX5_posts 20 = .ok (.iload_n 3, 1) := by decide +kernel
theorem dX5_posts_21 : decode cX5_posts 21 = .ok (.ifCond .ne 15, 3) := by decide +kernel
theorem dX5_posts_24 : decode cX5_posts 24 = .ok (.aload_n 0, 1) := by decide +kernel
theorem dX5_posts_25 : decode cX5_posts 25 = .ok (.getfield 74, 3) := by decide +kernel
theorem dX5_posts_28 : decode cX5_posts 28 = .ok (.bipush 8, 2) := by decide +kernel
theorem dX5_posts_30 : decode cX5_posts 30 = .ok (.if_icmp .ne 6, 3) := by decide +kernel
theorem dX5_posts_33 : decode cX5_posts 33 = .ok (.bipush (-6), 2) := by decide +kernel
theorem dX5_posts_35 : decode cX5_posts 35 = .ok (.istore_n 3, 1) := by decide +kernel
theorem dX5_posts_36 : decode cX5_posts 36 = .ok (.iload_n 3, 1) := by decide +kernel
theorem dX5_posts_37 : decode cX5_posts 37 = .ok (.ifCond .eq 9, 3) := by decide +kernel
theorem dX5_posts_40 : decode cX5_posts 40 = .ok (.aload_n 0, 1) := by decide +kernel
theorem dX5_posts_41 : decode cX5_posts 41 = .ok (.iload_n 3, 1) := by decide +kernel
theorem dX5_posts_42 : decode cX5_posts 42 = .ok (.invokevirtual 84, 3) := by decide +kernel
theorem dX5_posts_45 : decode cX5_posts 45 = .ok (.ireturn, 1) := by decide +kernel
theorem dX5_posts_46 : decode cX5_posts 46 = .ok (.aload_n 0, 1) := by decide +kernel
theorem dX5_posts_47 : decode cX5_posts 47 = .ok (.iload_n 1, 1) := by decide +kernel
theorem dX5_posts_48 : decode cX5_posts 48 = .ok (.iload_n 2, 1) := by decide +kernel
theorem dX5_posts_49 : decode cX5_posts 49 = .ok (.invokevirtual 119, 3) := by decide +kernel
theorem dX5_posts_52 : decode cX5_posts 52 = .ok (.aload_n 0, 1) := by decide +kernel
theorem dX5_posts_53 : decode cX5_posts 53 = .ok (.getfield 74, 3) := by decide +kernel
theorem dX5_posts_56 : decode cX5_posts 56 = .ok (.iconst 1, 1) := by decide +kernel
theorem dX5_posts_57 : decode cX5_posts 57 = .ok (.isub, 1) := by decide +kernel
theorem dX5_posts_58 : decode cX5_posts 58 = .ok (.ireturn, 1) := by decide +kernel
theorem dX5_hates_0 : decode cX5_hates 0 = .ok (.aload_n 0, 1) := by decide +kernel
theorem dX5_hates_1 : decode cX5_hates 1 = .ok (.iload_n 1, 1) := by decide +kernel
theorem dX5_hates_2 : decode cX5_hates 2 = .ok (.iload_n 2, 1) := by decide +kernel
theorem dX5_hates_3 : decode cX5_hates 3 = .ok (.invokevirtual 123, 3) := by decide +kernel
theorem dX5_hates_6 : decode cX5_hates 6 = .ok (.ifCond .ne 7, 3) := by decide +kernel
theorem dX5_hates_9 : decode cX5_hates 9 = .ok (.iconst (-1), 1) := by decide +kernel
theorem dX5_hates_10 : decode cX5_hates 10 = .ok (.goto 10, 3) := by decide +kernel
theorem dX5_hates_13 : decode cX5_hates 13 = .ok (.iload_n 3, 1) := by decide +kernel
theorem dX5_hates_14 : decode cX5_hates 14 = .ok (.iconst 0, 1) := by decide +kernel
theorem dX5_hates_15 : decode cX5_hates 15 = .ok (.bipush 99, 2) := by decide +kernel
theorem dX5_hates_17 : decode cX5_hates 17 = .ok (.invokestatic 77, 3) := by decide +kernel
theorem dX5_hates_20 : decode cX5_hates 20 = .ok (.istore 4, 2) := by decide +kernel
theorem dX5_hates_22 : decode cX5_hates 22 = .ok (.iload 4, 2) := by decide +kernel
theorem dX5_hates_24 : decode cX5_hates 24 = .ok (.ifCond .eq 10, 3) := by decide +kernel
theorem dX5_hates_27 : decode cX5_hates 27 = .ok (.aload_n 0, 1) := by decide +kernel
theorem dX5_hates_28 : decode cX5_hates 28 = .ok (.iload 4, 2) := by decide +kernel
theorem dX5_hates_30 : decode cX5_hates 30 = .ok (.invokevirtual 84, 3) := by decide +kernel
theorem dX5_hates_33 : decode cX5_hates 33 = .ok (.ireturn, 1) := by decide +kernel
theorem dX5_hates_34 : decode cX5_hates 34 = .ok (.aload_n 0, 1) := by decide +kernel
theorem dX5_hates_35 : decode cX5_hates 35 = .ok (.getfield 25, 3) := by decide +kernel
theorem dX5_hates_38 : decode cX5_hates 38 = .ok (.iload_n 1, 1) := by decide +kernel
theorem dX5_hates_39 : decode cX5_hates 39 = .ok (.iload_n 2, 1) := by decide +kernel
theorem dX5_hates_40 : decode cX5_hates 40 = .ok (.invokestatic 115, 3) := by decide +kernel
theorem dX5_hates_43 : decode cX5_hates 43 = .ok (.iaload, 1) := by decide +kernel
theorem dX5_hates_44 : decode cX5_hates 44 = .ok (.istore 5, 2) := by decide +kernel
theorem dX5_hates_46 : decode cX5_hates 46 = .ok (.aload_n 0, 1) := by decide +kernel
theorem dX5_hates_47 : decode cX5_hates 47 = .ok (.getfield 25, 3) := by decide +kernel
theorem dX5_hates_50 : decode cX5_hates 50 = .ok (.iload_n 1, 1) := by decide +kernel
theorem dX5_hates_51 : decode cX5_hates 51 = .ok (.iload_n 2, 1) := by decide +kernel
theorem dX5_hates_52 : decode cX5_hates 52 = .ok (.invokestatic 115, 3) := by decide +kernel
theorem dX5_hates_55 : decode cX5_hates 55 = .ok (.iload_n 3, 1) := by decide +kernel
theorem dX5_hates_56 : decode cX5_hates 56 = .ok (.iastore, 1) := by decide +kernel
theorem dX5_hates_57 : decode cX5_hates 57 = .ok (.iload 5, 2) := by decide +kernel
theorem dX5_hates_59 : decode cX5_hates 59 = .ok (.ireturn, 1) := by decide +kernel
theorem dX5_slights_0 : decode cX5_slights 0 = .ok (.aload_n 0, 1) := by decide +kernel
theorem dX5_slights_1 : decode cX5_slights 1 = .ok (.iload_n 1, 1) := by decide +kernel
theorem dX5_slights_2 : decode cX5_slights 2 = .ok (.iload_n 2, 1) := by decide +kernel
theorem dX5_slights_3 : decode cX5_slights 3 = .ok (.invokevirtual 123, 3) := by decide +kernel
theorem dX5_slights_6 : decode cX5_slights 6 = .ok (.ifCond .ne 9, 3) := by decide +kernel
theorem dX5_slights_9 : decode cX5_slights 9 = .ok (.aload_n 0, 1) := by decide +kernel
theorem dX5_slights_10 : decode cX5_slights 10 = .ok (.iconst (-1), 1) := by decide +kernel
theorem dX5_slights_11 : decode cX5_slights 11 = .ok (.invokevirtual 84, 3) := by decide +kernel
theorem dX5_slights_14 : decode cX5_slights 14 = .ok (.ireturn, 1) := by decide +kernel
theorem dX5_slights_15 : decode cX5_slights 15 = .ok (.aload_n 0, 1) := by decide +kernel
theorem dX5_slights_16 : decode cX5_slights 16 = .ok (.iload_n 1, 1) := by decide +kernel
theorem dX5_slights_17 : decode cX5_slights 17 = .ok (.iload_n 2, 1) := by decide +kernel
theorem dX5_slights_18 : decode cX5_slights 18 = .ok (.iconst 1, 1) := by decide +kernel
theorem dX5_slights_19 : decode cX5_slights 19 = .ok (.invokevirtual 126, 3) := by decide +kernel
theorem dX5_slights_22 : decode cX5_slights 22 = .ok (.aload_n 0, 1) := by decide +kernel
theorem dX5_slights_23 : decode cX5_slights 23 = .ok (.getfield 25, 3) := by decide +kernel
theorem dX5_slights_26 : decode cX5_slights 26 = .ok (.iload_n 1, 1) := by decide +kernel
theorem dX5_slights_27 : decode cX5_slights 27 = .ok (.iload_n 2, 1) := by decide +kernel
theorem dX5_slights_28 : decode cX5_slights 28 = .ok (.invokestatic 115, 3) := by decide +kernel
theorem dX5_slights_31 : decode cX5_slights 31 = .ok (.iaload, 1) := by decide +kernel
theorem dX5_slights_32 : decode cX5_slights 32 = .ok (.ireturn, 1) := by decide +kernel
theorem dX5_peace_0 : decode cX5_peace 0 = .ok (.aload_n 0, 1) := by decide +kernel
theorem dX5_peace_1 : decode cX5_peace 1 = .ok (.iload_n 1, 1) := by decide +kernel
theorem dX5_peace_2 : decode cX5_peace 2 = .ok (.iload_n 2, 1) := by decide +kernel
theorem dX5_peace_3 : decode cX5_peace 3 = .ok (.invokevirtual 123, 3) := by decide +kernel
theorem dX5_peace_6 : decode cX5_peace 6 = .ok (.ifCond .ne 9, 3) := by decide +kernel
theorem dX5_peace_9 : decode cX5_peace 9 = .ok (.aload_n 0, 1) := by decide +kernel
theorem dX5_peace_10 : decode cX5_peace 10 = .ok (.iconst (-1), 1) := by decide +kernel
theorem dX5_peace_11 : decode cX5_peace 11 = .ok (.invokevirtual 84, 3) := by decide +kernel
theorem dX5_peace_14 : decode cX5_peace 14 = .ok (.ireturn, 1) := by decide +kernel
theorem dX5_peace_15 : decode cX5_peace 15 = .ok (.aload_n 0, 1) := by decide +kernel
theorem dX5_peace_16 : decode cX5_peace 16 = .ok (.iload_n 1, 1) := by decide +kernel
theorem dX5_peace_17 : decode cX5_peace 17 = .ok (.iload_n 2, 1) := by decide +kernel
theorem dX5_peace_18 : decode cX5_peace 18 = .ok (.invokevirtual 130, 3) := by decide +kernel
theorem dX5_peace_21 : decode cX5_peace 21 = .ok (.aload_n 0, 1) := by decide +kernel
theorem dX5_peace_22 : decode cX5_peace 22 = .ok (.getfield 25, 3) := by decide +kernel
theorem dX5_peace_25 : decode cX5_peace 25 = .ok (.iload_n 1, 1) := by decide +kernel
theorem dX5_peace_26 : decode cX5_peace 26 = .ok (.iload_n 2, 1) := by decide +kernel
theorem dX5_peace_27 : decode cX5_peace 27 = .ok (.invokestatic 115, 3) := by decide +kernel
theorem dX5_peace_30 : decode cX5_peace 30 = .ok (.iaload, 1) := by decide +kernel
theorem dX5_peace_31 : decode cX5_peace 31 = .ok (.aload_n 0, 1) := by decide +kernel
theorem dX5_peace_32 : decode cX5_peace 32 = .ok (.getfield 25, 3) := by decide +kernel
theorem dX5_peace_35 : decode cX5_peace 35 = .ok (.iload_n 2, 1) := by decide +kernel
theorem dX5_peace_36 : decode cX5_peace 36 = .ok (.iload_n 1, 1) := by decide +kernel
theorem dX5_peace_37 : decode cX5_peace 37 = .ok (.invokestatic 115, 3) := by decide +kernel
theorem dX5_peace_40 : decode cX5_peace 40 = .ok (.iaload, 1) := by decide +kernel
theorem dX5_peace_41 : decode cX5_peace 41 = .ok (.iadd, 1) := by decide +kernel
theorem dX5_peace_42 : decode cX5_peace 42 = .ok (.ireturn, 1) := by decide +kernel
theorem dX5_moves_0 : decode cX5_moves 0 = .ok (.aload_n 0, 1) := by decide +kernel
theorem dX5_moves_1 : decode cX5_moves 1 = .ok (.iload_n 1, 1) := by decide +kernel
theorem dX5_moves_2 : decode cX5_moves 2 = .ok (.invokevirtual 70, 3) := by decide +kernel
theorem dX5_moves_5 : decode cX5_moves 5 = .ok (.ifCond .ne 7, 3) := by decide +kernel
theorem dX5_moves_8 : decode cX5_moves 8 = .ok (.iconst (-1), 1) := by decide +kernel
theorem dX5_moves_9 : decode cX5_moves 9 = .ok (.goto 10, 3) := by decide +kernel
theorem dX5_moves_12 : decode cX5_moves 12 = .ok (.iload_n 2, 1) := by decide +kernel
theorem dX5_moves_13 : decode cX5_moves 13 = .ok (.iconst 0, 1) := by decide +kernel
theorem dX5_moves_14 : decode cX5_moves 14 = .ok (.bipush 30, 2) := by decide +kernel
theorem dX5_moves_16 : decode cX5_moves 16 = .ok (.invokestatic 77, 3) := by decide +kernel
theorem dX5_moves_19 : decode cX5_moves 19 = .ok (.istore_n 3, 1) := by decide +kernel
theorem dX5_moves_20 : decode cX5_moves 20 = .ok (.iload_n 3, 1) := by decide +kernel
theorem dX5_moves_21 : decode cX5_moves 21 = .ok (.ifCond .eq 9, 3) := by decide +kernel
theorem dX5_moves_24 : decode cX5_moves 24 = .ok (.aload_n 0, 1) := by decide +kernel
theorem dX5_moves_25 : decode cX5_moves 25 = .ok (.iload_n 3, 1) := by decide +kernel
theorem dX5_moves_26 : decode cX5_moves 26 = .ok (.invokevirtual 84, 3) := by decide +kernel
theorem dX5_moves_29 : decode cX5_moves 29 = .ok (.ireturn, 1) := by decide +kernel
theorem dX5_moves_30 : decode cX5_moves 30 = .ok (.aload_n 0, 1) := by decide +kernel
theorem dX5_moves_31 : decode cX5_moves 31 = .ok (.getfield 19, 3) := by decide +kernel
theorem dX5_moves_34 : decode cX5_moves 34 = .ok (.iload_n 1, 1) := by decide +kernel
theorem dX5_moves_35 : decode cX5_moves 35 = .ok (.iaload, 1) := by decide +kernel
theorem dX5_moves_36 : decode cX5_moves 36 = .ok (.istore 4, 2) := by decide +kernel
theorem dX5_moves_38 : decode cX5_moves 38 = .ok (.aload_n 0, 1) := by decide +kernel
theorem dX5_moves_39 : decode cX5_moves 39 = .ok (.getfield 19, 3) := by decide +kernel
theorem dX5_moves_42 : decode cX5_moves 42 = .ok (.iload_n 1, 1) := by decide +kernel
theorem dX5_moves_43 : decode cX5_moves 43 = .ok (.iload_n 2, 1) := by decide +kernel
theorem dX5_moves_44 : decode cX5_moves 44 = .ok (.iastore, 1) := by decide +kernel
theorem dX5_moves_45 : decode cX5_moves 45 = .ok (.iload 4, 2) := by decide +kernel
theorem dX5_moves_47 : decode cX5_moves 47 = .ok (.ireturn, 1) := by decide +kernel
theorem dX5_turn_0 : decode cX5_turn 0 = .ok (.aload_n 0, 1) := by decide +kernel
theorem dX5_turn_1 : decode cX5_turn 1 = .ok (.iload_n 1, 1) := by decide +kernel
theorem dX5_turn_2 : decode cX5_turn 2 = .ok (.invokevirtual 70, 3) := by decide +kernel
theorem dX5_turn_5 : decode cX5_turn 5 = .ok (.ifCond .ne 7, 3) := by decide +kernel
theorem dX5_turn_8 : decode cX5_turn 8 = .ok (.iconst (-1), 1) := by decide +kernel
theorem dX5_turn_9 : decode cX5_turn 9 = .ok (.goto 24, 3) := by decide +kernel
theorem dX5_turn_12 : decode cX5_turn 12 = .ok (.iload_n 2, 1) := by decide +kernel
theorem dX5_turn_13 : decode cX5_turn 13 = .ok (.iconst 0, 1) := by decide +kernel
theorem dX5_turn_14 : decode cX5_turn 14 = .ok (.iconst 5, 1) := by decide +kernel
theorem dX5_turn_15 : decode cX5_turn 15 = .ok (.invokestatic 95, 3) := by decide +kernel
theorem dX5_turn_18 : decode cX5_turn 18 = .ok (.ifCond .ne 8, 3) := by decide +kernel
theorem dX5_turn_21 : decode cX5_turn 21 = .ok (.bipush (-2), 2) := by decide +kernel
theorem dX5_turn_23 : decode cX5_turn 23 = .ok (.goto 10, 3) := by decide +kernel
theorem dX5_turn_26 : decode cX5_turn 26 = .ok (.iload_n 3, 1) := by decide +kernel
theorem dX5_turn_27 : decode cX5_turn 27 = .ok (.iconst 0, 1) := by decide +kernel
theorem dX5_turn_28 : decode cX5_turn 28 = .ok (.bipush 9, 2) := by decide +kernel
theorem dX5_turn_30 : decode cX5_turn 30 = .ok (.invokestatic 77, 3) := by decide +kernel
theorem dX5_turn_33 : decode cX5_turn 33 = .ok (.istore 4, 2) := by decide +kernel
theorem dX5_turn_35 : decode cX5_turn 35 = .ok (.iload 4, 2) := by decide +kernel
theorem dX5_turn_37 : decode cX5_turn 37 = .ok (.ifCond .eq 10, 3) := by decide +kernel
theorem dX5_turn_40 : decode cX5_turn 40 = .ok (.aload_n 0, 1) := by decide +kernel
theorem dX5_turn_41 : decode cX5_turn 41 = .ok (.iload 4, 2) := by decide +kernel
theorem dX5_turn_43 : decode cX5_turn 43 = .ok (.invokevirtual 84, 3) := by decide +kernel
theorem dX5_turn_46 : decode cX5_turn 46 = .ok (.ireturn, 1) := by decide +kernel
theorem dX5_turn_47 : decode cX5_turn 47 = .ok (.bipush 10, 2) := by decide +kernel
theorem dX5_turn_49 : decode cX5_turn 49 = .ok (.aload_n 0, 1) := by decide +kernel
theorem dX5_turn_50 : decode cX5_turn 50 = .ok (.getfield 13, 3) := by decide +kernel
theorem dX5_turn_53 : decode cX5_turn 53 = .ok (.iload_n 1, 1) := by decide +kernel
theorem dX5_turn_54 : decode cX5_turn 54 = .ok (.iaload, 1) := by decide +kernel
theorem dX5_turn_55 : decode cX5_turn 55 = .ok (.imul, 1) := by decide +kernel
theorem dX5_turn_56 : decode cX5_turn 56 = .ok (.aload_n 0, 1) := by decide +kernel
theorem dX5_turn_57 : decode cX5_turn 57 = .ok (.getfield 16, 3) := by decide +kernel
theorem dX5_turn_60 : decode cX5_turn 60 = .ok (.iload_n 1, 1) := by decide +kernel
theorem dX5_turn_61 : decode cX5_turn 61 = .ok (.iaload, 1) := by decide +kernel
theorem dX5_turn_62 : decode cX5_turn 62 = .ok (.iadd, 1) := by decide +kernel
theorem dX5_turn_63 : decode cX5_turn 63 = .ok (.istore 5, 2) := by decide +kernel
theorem dX5_turn_65 : decode cX5_turn 65 = .ok (.aload_n 0, 1) := by decide +kernel
theorem dX5_turn_66 : decode cX5_turn 66 = .ok (.getfield 13, 3) := by decide +kernel
theorem dX5_turn_69 : decode cX5_turn 69 = .ok (.iload_n 1, 1) := by decide +kernel
theorem dX5_turn_70 : decode cX5_turn 70 = .ok (.iload_n 2, 1) := by decide +kernel
theorem dX5_turn_71 : decode cX5_turn 71 = .ok (.iastore, 1) := by decide +kernel
theorem dX5_turn_72 : decode cX5_turn 72 = .ok (.aload_n 0, 1) := by decide +kernel
theorem dX5_turn_73 : decode cX5_turn 73 = .ok (.getfield 16, 3) := by decide +kernel
theorem dX5_turn_76 : decode cX5_turn 76 = .ok (.iload_n 1, 1) := by decide +kernel
theorem dX5_turn_77 : decode cX5_turn 77 = .ok (.iload_n 3, 1) := by decide +kernel
theorem dX5_turn_78 : decode cX5_turn 78 = .ok (.iastore, 1) := by decide +kernel
theorem dX5_turn_79 : decode cX5_turn 79 = .ok (.iload 5, 2) := by decide +kernel
theorem dX5_turn_81 : decode cX5_turn 81 = .ok (.ireturn, 1) := by decide +kernel
theorem dX5_days_0 : decode cX5_days 0 = .ok (.iload_n 1, 1) := by decide +kernel
theorem dX5_days_1 : decode cX5_days 1 = .ok (.iconst 1, 1) := by decide +kernel
theorem dX5_days_2 : decode cX5_days 2 = .ok (.bipush 60, 2) := by decide +kernel
theorem dX5_days_4 : decode cX5_days 4 = .ok (.invokestatic 77, 3) := by decide +kernel
theorem dX5_days_7 : decode cX5_days 7 = .ok (.istore_n 2, 1) := by decide +kernel
theorem dX5_days_8 : decode cX5_days 8 = .ok (.iload_n 2, 1) := by decide +kernel
theorem dX5_days_9 : decode cX5_days 9 = .ok (.ifCond .ne 18, 3) := by decide +kernel
theorem dX5_days_12 : decode cX5_days 12 = .ok (.aload_n 0, 1) := by decide +kernel
theorem dX5_days_13 : decode cX5_days 13 = .ok (.getfield 133, 3) := by decide +kernel
theorem dX5_days_16 : decode cX5_days 16 = .ok (.iload_n 1, 1) := by decide +kernel
theorem dX5_days_17 : decode cX5_days 17 = .ok (.iadd, 1) := by decide +kernel
theorem dX5_days_18 : decode cX5_days 18 = .ok (.sipush 999, 3) := by decide +kernel
theorem dX5_days_21 : decode cX5_days 21 = .ok (.if_icmp .le 6, 3) := by decide +kernel
theorem dX5_days_24 : decode cX5_days 24 = .ok (.bipush (-6), 2) := by decide +kernel
theorem dX5_days_26 : decode cX5_days 26 = .ok (.istore_n 2, 1) := by decide +kernel
theorem dX5_days_27 : decode cX5_days 27 = .ok (.iload_n 2, 1) := by decide +kernel
theorem dX5_days_28 : decode cX5_days 28 = .ok (.ifCond .eq 9, 3) := by decide +kernel
theorem dX5_days_31 : decode cX5_days 31 = .ok (.aload_n 0, 1) := by decide +kernel
theorem dX5_days_32 : decode cX5_days 32 = .ok (.iload_n 2, 1) := by decide +kernel
theorem dX5_days_33 : decode cX5_days 33 = .ok (.invokevirtual 84, 3) := by decide +kernel
theorem dX5_days_36 : decode cX5_days 36 = .ok (.ireturn, 1) := by decide +kernel
theorem dX5_days_37 : decode cX5_days 37 = .ok (.aload_n 0, 1) := by decide +kernel
theorem dX5_days_38 : decode cX5_days 38 = .ok (.iload_n 1, 1) := by decide +kernel
theorem dX5_days_39 : decode cX5_days 39 = .ok (.invokevirtual 136, 3) := by decide +kernel
theorem dX5_days_42 : decode cX5_days 42 = .ok (.aload_n 0, 1) := by decide +kernel
theorem dX5_days_43 : decode cX5_days 43 = .ok (.iconst 2, 1) := by decide +kernel
theorem dX5_days_44 : decode cX5_days 44 = .ok (.invokevirtual 215, 3) := by decide +kernel
theorem dX5_days_47 : decode cX5_days 47 = .ok (.invokestatic 218, 3) := by decide +kernel
theorem dX5_days_50 : decode cX5_days 50 = .ok (.ireturn, 1) := by decide +kernel
theorem dX5_notDays_0 : decode cX5_notDays 0 = .ok (.iload_n 0, 1) := by decide +kernel
theorem dX5_notDays_1 : decode cX5_notDays 1 = .ok (.iconst 0, 1) := by decide +kernel
theorem dX5_notDays_2 : decode cX5_notDays 2 = .ok (.bipush 99, 2) := by decide +kernel
theorem dX5_notDays_4 : decode cX5_notDays 4 = .ok (.invokestatic 77, 3) := by decide +kernel
theorem dX5_notDays_7 : decode cX5_notDays 7 = .ok (.ireturn, 1) := by decide +kernel
theorem dX5_parcelThen_0 : decode cX5_parcelThen 0 = .ok (.aload_n 0, 1) := by decide +kernel
theorem dX5_parcelThen_1 : decode cX5_parcelThen 1 = .ok (.iload_n 1, 1) := by decide +kernel
theorem dX5_parcelThen_2 : decode cX5_parcelThen 2 = .ok (.invokevirtual 212, 3) := by decide +kernel
theorem dX5_parcelThen_5 : decode cX5_parcelThen 5 = .ok (.ifCond .ne 7, 3) := by decide +kernel
theorem dX5_parcelThen_8 : decode cX5_parcelThen 8 = .ok (.iconst (-1), 1) := by decide +kernel
theorem dX5_parcelThen_9 : decode cX5_parcelThen 9 = .ok (.goto 7, 3) := by decide +kernel
theorem dX5_parcelThen_12 : decode cX5_parcelThen 12 = .ok (.iload_n 2, 1) := by decide +kernel
theorem dX5_parcelThen_13 : decode cX5_parcelThen 13 = .ok (.invokestatic 221, 3) := by decide +kernel
theorem dX5_parcelThen_16 : decode cX5_parcelThen 16 = .ok (.istore 4, 2) := by decide +kernel
theorem dX5_parcelThen_18 : decode cX5_parcelThen 18 = .ok (.iload 4, 2) := by decide +kernel
theorem dX5_parcelThen_20 : decode cX5_parcelThen 20 = .ok (.ifCond .ne 16, 3) := by decide +kernel
theorem dX5_parcelThen_23 : decode cX5_parcelThen 23 = .ok (.iload_n 3, 1) := by decide +kernel
theorem dX5_parcelThen_24 : decode cX5_parcelThen 24 = .ok (.iconst 0, 1) := by decide +kernel
theorem dX5_parcelThen_25 : decode cX5_parcelThen 25 = .ok (.iconst 1, 1) := by decide +kernel
theorem dX5_parcelThen_26 : decode cX5_parcelThen 26 = .ok (.invokestatic 95, 3) := by decide +kernel
theorem dX5_parcelThen_29 : decode cX5_parcelThen 29 = .ok (.ifCond .ne 7, 3) := by decide +kernel
theorem dX5_parcelThen_32 : decode cX5_parcelThen 32 = .ok (.bipush (-2), 2) := by decide +kernel
theorem dX5_parcelThen_34 : decode cX5_parcelThen 34 = .ok (.istore 4, 2) := by decide +kernel
theorem dX5_parcelThen_36 : decode cX5_parcelThen 36 = .ok (.iload 4, 2) := by decide +kernel
theorem dX5_parcelThen_38 : decode cX5_parcelThen 38 = .ok (.ifCond .eq 10, 3) := by decide +kernel
theorem dX5_parcelThen_41 : decode cX5_parcelThen 41 = .ok (.aload_n 0, 1) := by decide +kernel
theorem dX5_parcelThen_42 : decode cX5_parcelThen 42 = .ok (.iload 4, 2) := by decide +kernel
theorem dX5_parcelThen_44 : decode cX5_parcelThen 44 = .ok (.invokevirtual 84, 3) := by decide +kernel
theorem dX5_parcelThen_47 : decode cX5_parcelThen 47 = .ok (.ireturn, 1) := by decide +kernel
theorem dX5_parcelThen_48 : decode cX5_parcelThen 48 = .ok (.aload_n 0, 1) := by decide +kernel
theorem dX5_parcelThen_49 : decode cX5_parcelThen 49 = .ok (.invokevirtual 224, 3) := by decide +kernel
theorem dX5_parcelThen_52 : decode cX5_parcelThen 52 = .ok (.aload_n 0, 1) := by decide +kernel
theorem dX5_parcelThen_53 : decode cX5_parcelThen 53 = .ok (.iload_n 2, 1) := by decide +kernel
theorem dX5_parcelThen_54 : decode cX5_parcelThen 54 = .ok (.invokevirtual 136, 3) := by decide +kernel
theorem dX5_parcelThen_57 : decode cX5_parcelThen 57 = .ok (.iload_n 3, 1) := by decide +kernel
theorem dX5_parcelThen_58 : decode cX5_parcelThen 58 = .ok (.ifCond .ne 12, 3) := by decide +kernel
theorem dX5_parcelThen_61 : decode cX5_parcelThen 61 = .ok (.aload_n 0, 1) := by decide +kernel
theorem dX5_parcelThen_62 : decode cX5_parcelThen 62 = .ok (.getfield 34, 3) := by decide +kernel
theorem dX5_parcelThen_65 : decode cX5_parcelThen 65 = .ok (.iload_n 1, 1) := by decide +kernel
theorem dX5_parcelThen_66 : decode cX5_parcelThen 66 = .ok (.iaload, 1) := by decide +kernel
theorem dX5_parcelThen_67 : decode cX5_parcelThen 67 = .ok (.goto 9, 3) := by decide +kernel
theorem dX5_parcelThen_70 : decode cX5_parcelThen 70 = .ok (.aload_n 0, 1) := by decide +kernel
theorem dX5_parcelThen_71 : decode cX5_parcelThen 71 = .ok (.getfield 40, 3) := by decide +kernel
theorem dX5_parcelThen_74 : decode cX5_parcelThen 74 = .ok (.iload_n 1, 1) := by decide +kernel
theorem dX5_parcelThen_75 : decode cX5_parcelThen 75 = .ok (.iaload, 1) := by decide +kernel
theorem dX5_parcelThen_76 : decode cX5_parcelThen 76 = .ok (.istore 5, 2) := by decide +kernel
theorem dX5_parcelThen_78 : decode cX5_parcelThen 78 = .ok (.aload_n 0, 1) := by decide +kernel
theorem dX5_parcelThen_79 : decode cX5_parcelThen 79 = .ok (.invokevirtual 227, 3) := by decide +kernel
theorem dX5_parcelThen_82 : decode cX5_parcelThen 82 = .ok (.iload 5, 2) := by decide +kernel
theorem dX5_parcelThen_84 : decode cX5_parcelThen 84 = .ok (.ireturn, 1) := by decide +kernel
theorem dX5_hateThen_0 : decode cX5_hateThen 0 = .ok (.aload_n 0, 1) := by decide +kernel
theorem dX5_hateThen_1 : decode cX5_hateThen 1 = .ok (.iload_n 1, 1) := by decide +kernel
theorem dX5_hateThen_2 : decode cX5_hateThen 2 = .ok (.iload_n 2, 1) := by decide +kernel
theorem dX5_hateThen_3 : decode cX5_hateThen 3 = .ok (.invokevirtual 123, 3) := by decide +kernel
theorem dX5_hateThen_6 : decode cX5_hateThen 6 = .ok (.ifCond .ne 7, 3) := by decide +kernel
theorem dX5_hateThen_9 : decode cX5_hateThen 9 = .ok (.iconst (-1), 1) := by decide +kernel
theorem dX5_hateThen_10 : decode cX5_hateThen 10 = .ok (.goto 7, 3) := by decide +kernel
theorem dX5_hateThen_13 : decode cX5_hateThen 13 = .ok (.iload_n 3, 1) := by decide +kernel
theorem dX5_hateThen_14 : decode cX5_hateThen 14 = .ok (.invokestatic 221, 3) := by decide +kernel
theorem dX5_hateThen_17 : decode cX5_hateThen 17 = .ok (.istore 4, 2) := by decide +kernel
theorem dX5_hateThen_19 : decode cX5_hateThen 19 = .ok (.iload 4, 2) := by decide +kernel
theorem dX5_hateThen_21 : decode cX5_hateThen 21 = .ok (.ifCond .eq 10, 3) := by decide +kernel
theorem dX5_hateThen_24 : decode cX5_hateThen 24 = .ok (.aload_n 0, 1) := by decide +kernel
theorem dX5_hateThen_25 : decode cX5_hateThen 25 = .ok (.iload 4, 2) := by decide +kernel
theorem dX5_hateThen_27 : decode cX5_hateThen 27 = .ok (.invokevirtual 84, 3) := by decide +kernel
theorem dX5_hateThen_30 : decode cX5_hateThen 30 = .ok (.ireturn, 1) := by decide +kernel
theorem dX5_hateThen_31 : decode cX5_hateThen 31 = .ok (.aload_n 0, 1) := by decide +kernel
theorem dX5_hateThen_32 : decode cX5_hateThen 32 = .ok (.invokevirtual 224, 3) := by decide +kernel
theorem dX5_hateThen_35 : decode cX5_hateThen 35 = .ok (.aload_n 0, 1) := by decide +kernel
theorem dX5_hateThen_36 : decode cX5_hateThen 36 = .ok (.iload_n 3, 1) := by decide +kernel
theorem dX5_hateThen_37 : decode cX5_hateThen 37 = .ok (.invokevirtual 136, 3) := by decide +kernel
theorem dX5_hateThen_40 : decode cX5_hateThen 40 = .ok (.aload_n 0, 1) := by decide +kernel
theorem dX5_hateThen_41 : decode cX5_hateThen 41 = .ok (.getfield 25, 3) := by decide +kernel
theorem dX5_hateThen_44 : decode cX5_hateThen 44 = .ok (.iload_n 1, 1) := by decide +kernel
theorem dX5_hateThen_45 : decode cX5_hateThen 45 = .ok (.iload_n 2, 1) := by decide +kernel
theorem dX5_hateThen_46 : decode cX5_hateThen 46 = .ok (.invokestatic 115, 3) := by decide +kernel
theorem dX5_hateThen_49 : decode cX5_hateThen 49 = .ok (.iaload, 1) := by decide +kernel
theorem dX5_hateThen_50 : decode cX5_hateThen 50 = .ok (.istore 5, 2) := by decide +kernel
theorem dX5_hateThen_52 : decode cX5_hateThen 52 = .ok (.aload_n 0, 1) := by decide +kernel
theorem dX5_hateThen_53 : decode cX5_hateThen 53 = .ok (.invokevirtual 227, 3) := by decide +kernel
theorem dX5_hateThen_56 : decode cX5_hateThen 56 = .ok (.iload 5, 2) := by decide +kernel
theorem dX5_hateThen_58 : decode cX5_hateThen 58 = .ok (.ireturn, 1) := by decide +kernel
theorem dX5_gotThen_0 : decode cX5_gotThen 0 = .ok (.iload_n 1, 1) := by decide +kernel
theorem dX5_gotThen_1 : decode cX5_gotThen 1 = .ok (.invokestatic 221, 3) := by decide +kernel
theorem dX5_gotThen_4 : decode cX5_gotThen 4 = .ok (.istore_n 3, 1) := by decide +kernel
theorem dX5_gotThen_5 : decode cX5_gotThen 5 = .ok (.iload_n 3, 1) := by decide +kernel
theorem dX5_gotThen_6 : decode cX5_gotThen 6 = .ok (.ifCond .ne 18, 3) := by decide +kernel
theorem dX5_gotThen_9 : decode cX5_gotThen 9 = .ok (.iload_n 2, 1) := by decide +kernel
theorem dX5_gotThen_10 : decode cX5_gotThen 10 = .ok (.iconst (-1), 1) := by decide +kernel
theorem dX5_gotThen_11 : decode cX5_gotThen 11 = .ok (.if_icmp .eq 13, 3) := by decide +kernel
theorem dX5_gotThen_14 : decode cX5_gotThen 14 = .ok (.aload_n 0, 1) := by decide +kernel
theorem dX5_gotThen_15 : decode cX5_gotThen 15 = .ok (.iload_n 2, 1) := by decide +kernel
theorem dX5_gotThen_16 : decode cX5_gotThen 16 = .ok (.invokevirtual 70, 3) := by decide +kernel
theorem dX5_gotThen_19 : decode cX5_gotThen 19 = .ok (.ifCond .ne 5, 3) := by decide +kernel
theorem dX5_gotThen_22 : decode cX5_gotThen 22 = .ok (.iconst (-1), 1) := by decide +kernel
theorem dX5_gotThen_23 : decode cX5_gotThen 23 = .ok (.istore_n 3, 1) := by decide +kernel
theorem dX5_gotThen_24 : decode cX5_gotThen 24 = .ok (.iload_n 3, 1) := by decide +kernel
theorem dX5_gotThen_25 : decode cX5_gotThen 25 = .ok (.ifCond .eq 9, 3) := by decide +kernel
theorem dX5_gotThen_28 : decode cX5_gotThen 28 = .ok (.aload_n 0, 1) := by decide +kernel
theorem dX5_gotThen_29 : decode cX5_gotThen 29 = .ok (.iload_n 3, 1) := by decide +kernel
theorem dX5_gotThen_30 : decode cX5_gotThen 30 = .ok (.invokevirtual 84, 3) := by decide +kernel
theorem dX5_gotThen_33 : decode cX5_gotThen 33 = .ok (.ireturn, 1) := by decide +kernel
theorem dX5_gotThen_34 : decode cX5_gotThen 34 = .ok (.aload_n 0, 1) := by decide +kernel
theorem dX5_gotThen_35 : decode cX5_gotThen 35 = .ok (.invokevirtual 224, 3) := by decide +kernel
theorem dX5_gotThen_38 : decode cX5_gotThen 38 = .ok (.aload_n 0, 1) := by decide +kernel
theorem dX5_gotThen_39 : decode cX5_gotThen 39 = .ok (.iload_n 1, 1) := by decide +kernel
theorem dX5_gotThen_40 : decode cX5_gotThen 40 = .ok (.invokevirtual 136, 3) := by decide +kernel
theorem dX5_gotThen_43 : decode cX5_gotThen 43 = .ok (.iload_n 2, 1) := by decide +kernel
theorem dX5_gotThen_44 : decode cX5_gotThen 44 = .ok (.ifCond .ge 14, 3) := by decide +kernel
theorem dX5_gotThen_47 : decode cX5_gotThen 47 = .ok (.aload_n 0, 1) := by decide +kernel
theorem dX5_gotThen_48 : decode cX5_gotThen 48 = .ok (.iconst 2, 1) := by decide +kernel
theorem dX5_gotThen_49 : decode cX5_gotThen 49 = .ok (.invokevirtual 215, 3) := by decide +kernel
theorem dX5_gotThen_52 : decode cX5_gotThen 52 = .ok (.invokestatic 218, 3) := by decide +kernel
theorem dX5_gotThen_55 : decode cX5_gotThen 55 = .ok (.goto 9, 3) := by decide +kernel
theorem dX5_gotThen_58 : decode cX5_gotThen 58 = .ok (.aload_n 0, 1) := by decide +kernel
theorem dX5_gotThen_59 : decode cX5_gotThen 59 = .ok (.getfield 22, 3) := by decide +kernel
theorem dX5_gotThen_62 : decode cX5_gotThen 62 = .ok (.iload_n 2, 1) := by decide +kernel
theorem dX5_gotThen_63 : decode cX5_gotThen 63 = .ok (.iaload, 1) := by decide +kernel
theorem dX5_gotThen_64 : decode cX5_gotThen 64 = .ok (.istore 4, 2) := by decide +kernel
theorem dX5_gotThen_66 : decode cX5_gotThen 66 = .ok (.aload_n 0, 1) := by decide +kernel
theorem dX5_gotThen_67 : decode cX5_gotThen 67 = .ok (.invokevirtual 227, 3) := by decide +kernel
theorem dX5_gotThen_70 : decode cX5_gotThen 70 = .ok (.iload 4, 2) := by decide +kernel
theorem dX5_gotThen_72 : decode cX5_gotThen 72 = .ok (.ireturn, 1) := by decide +kernel
theorem dX5_whenOf_0 : decode cX5_whenOf 0 = .ok (.aload_n 0, 1) := by decide +kernel
theorem dX5_whenOf_1 : decode cX5_whenOf 1 = .ok (.invokevirtual 224, 3) := by decide +kernel
theorem dX5_whenOf_4 : decode cX5_whenOf 4 = .ok (.bipush (-9), 2) := by decide +kernel
theorem dX5_whenOf_6 : decode cX5_whenOf 6 = .ok (.istore_n 2, 1) := by decide +kernel
theorem dX5_whenOf_7 : decode cX5_whenOf 7 = .ok (.iconst 0, 1) := by decide +kernel
theorem dX5_whenOf_8 : decode cX5_whenOf 8 = .ok (.istore_n 3, 1) := by decide +kernel
theorem dX5_whenOf_9 : decode cX5_whenOf 9 = .ok (.iload_n 3, 1) := by decide +kernel
theorem dX5_whenOf_10 : decode cX5_whenOf 10 = .ok (.bipush 99, 2) := by decide +kernel
theorem dX5_whenOf_12 : decode cX5_whenOf 12 = .ok (.if_icmp .gt 35, 3) := by decide +kernel
theorem dX5_whenOf_15 : decode cX5_whenOf 15 = .ok (.iload_n 2, 1) := by decide +kernel
theorem dX5_whenOf_16 : decode cX5_whenOf 16 = .ok (.ifCond .ge 31, 3) := by decide +kernel
theorem dX5_whenOf_19 : decode cX5_whenOf 19 = .ok (.aload_n 0, 1) := by decide +kernel
theorem dX5_whenOf_20 : decode cX5_whenOf 20 = .ok (.getfield 34, 3) := by decide +kernel
theorem dX5_whenOf_23 : decode cX5_whenOf 23 = .ok (.iload_n 1, 1) := by decide +kernel
theorem dX5_whenOf_24 : decode cX5_whenOf 24 = .ok (.iaload, 1) := by decide +kernel
theorem dX5_whenOf_25 : decode cX5_whenOf 25 = .ok (.iconst 2, 1) := by decide +kernel
theorem dX5_whenOf_26 : decode cX5_whenOf 26 = .ok (.if_icmp .ne 7, 3) := by decide +kernel
theorem dX5_whenOf_29 : decode cX5_whenOf 29 = .ok (.iload_n 3, 1) := by decide +kernel
theorem dX5_whenOf_30 : decode cX5_whenOf 30 = .ok (.goto 5, 3) := by decide +kernel
theorem dX5_whenOf_33 : decode cX5_whenOf 33 = .ok (.bipush (-9), 2) := by decide +kernel
theorem dX5_whenOf_35 : decode cX5_whenOf 35 = .ok (.istore_n 2, 1) := by decide +kernel
theorem dX5_whenOf_36 : decode cX5_whenOf 36 = .ok (.aload_n 0, 1) := by decide +kernel
theorem dX5_whenOf_37 : decode cX5_whenOf 37 = .ok (.iconst 0, 1) := by decide +kernel
theorem dX5_whenOf_38 : decode cX5_whenOf 38 = .ok (.invokevirtual 208, 3) := by decide +kernel
theorem dX5_whenOf_41 : decode cX5_whenOf 41 = .ok (.iinc 3 1, 3) := by decide +kernel
theorem dX5_whenOf_44 : decode cX5_whenOf 44 = .ok (.goto (-35), 3) := by decide +kernel
theorem dX5_whenOf_47 : decode cX5_whenOf 47 = .ok (.aload_n 0, 1) := by decide +kernel
theorem dX5_whenOf_48 : decode cX5_whenOf 48 = .ok (.invokevirtual 227, 3) := by decide +kernel
theorem dX5_whenOf_51 : decode cX5_whenOf 51 = .ok (.iload_n 2, 1) := by decide +kernel
theorem dX5_whenOf_52 : decode cX5_whenOf 52 = .ok (.ireturn, 1) := by decide +kernel
theorem dX5_lateOf_0 : decode cX5_lateOf 0 = .ok (.aload_n 0, 1) := by decide +kernel
theorem dX5_lateOf_1 : decode cX5_lateOf 1 = .ok (.iload_n 1, 1) := by decide +kernel
theorem dX5_lateOf_2 : decode cX5_lateOf 2 = .ok (.invokevirtual 230, 3) := by decide +kernel
theorem dX5_lateOf_5 : decode cX5_lateOf 5 = .ok (.istore_n 2, 1) := by decide +kernel
theorem dX5_lateOf_6 : decode cX5_lateOf 6 = .ok (.iload_n 2, 1) := by decide +kernel
theorem dX5_lateOf_7 : decode cX5_lateOf 7 = .ok (.ifCond .ge 9, 3) := by decide +kernel
theorem dX5_lateOf_10 : decode cX5_lateOf 10 = .ok (.sipush 1000, 3) := by decide +kernel
theorem dX5_lateOf_13 : decode cX5_lateOf 13 = .ok (.goto 4, 3) := by decide +kernel
theorem dX5_lateOf_16 : decode cX5_lateOf 16 = .ok (.iload_n 2, 1) := by decide +kernel
theorem dX5_lateOf_17 : decode cX5_lateOf 17 = .ok (.ireturn, 1) := by decide +kernel
theorem dX5_when_0 : decode cX5_when 0 = .ok (.aload_n 0, 1) := by decide +kernel
theorem dX5_when_1 : decode cX5_when 1 = .ok (.iload_n 1, 1) := by decide +kernel
theorem dX5_when_2 : decode cX5_when 2 = .ok (.invokevirtual 212, 3) := by decide +kernel
theorem dX5_when_5 : decode cX5_when 5 = .ok (.ifCond .eq 11, 3) := by decide +kernel
theorem dX5_when_8 : decode cX5_when 8 = .ok (.aload_n 0, 1) := by decide +kernel
theorem dX5_when_9 : decode cX5_when 9 = .ok (.iload_n 1, 1) := by decide +kernel
theorem dX5_when_10 : decode cX5_when 10 = .ok (.invokevirtual 230, 3) := by decide +kernel
theorem dX5_when_13 : decode cX5_when 13 = .ok (.goto 8, 3) := by decide +kernel
theorem dX5_when_16 : decode cX5_when 16 = .ok (.aload_n 0, 1) := by decide +kernel
theorem dX5_when_17 : decode cX5_when 17 = .ok (.iconst (-1), 1) := by decide +kernel
theorem dX5_when_18 : decode cX5_when 18 = .ok (.invokevirtual 84, 3) := by decide +kernel
theorem dX5_when_21 : decode cX5_when 21 = .ok (.ireturn, 1) := by decide +kernel
theorem dX5_first_0 : decode cX5_first 0 = .ok (.iload_n 1, 1) := by decide +kernel
theorem dX5_first_1 : decode cX5_first 1 = .ok (.iconst 0, 1) := by decide +kernel
theorem dX5_first_2 : decode cX5_first 2 = .ok (.iconst 2, 1) := by decide +kernel
theorem dX5_first_3 : decode cX5_first 3 = .ok (.invokestatic 95, 3) := by decide +kernel
theorem dX5_first_6 : decode cX5_first 6 = .ok (.ifCond .ne 10, 3) := by decide +kernel
theorem dX5_first_9 : decode cX5_first 9 = .ok (.aload_n 0, 1) := by decide +kernel
theorem dX5_first_10 : decode cX5_first 10 = .ok (.bipush (-2), 2) := by decide +kernel
theorem dX5_first_12 : decode cX5_first 12 = .ok (.invokevirtual 84, 3) := by decide +kernel
theorem dX5_first_15 : decode cX5_first 15 = .ok (.ireturn, 1) := by decide +kernel
theorem dX5_first_16 : decode cX5_first 16 = .ok (.bipush (-9), 2) := by decide +kernel
theorem dX5_first_18 : decode cX5_first 18 = .ok (.istore_n 2, 1) := by decide +kernel
theorem dX5_first_19 : decode cX5_first 19 = .ok (.sipush 1000, 3) := by decide +kernel
theorem dX5_first_22 : decode cX5_first 22 = .ok (.istore_n 3, 1) := by decide +kernel
theorem dX5_first_23 : decode cX5_first 23 = .ok (.iconst 0, 1) := by decide +kernel
theorem dX5_first_24 : decode cX5_first 24 = .ok (.istore 4, 2) := by decide +kernel
theorem dX5_first_26 : decode cX5_first 26 = .ok (.iconst 0, 1) := by decide +kernel
theorem dX5_first_27 : decode cX5_first 27 = .ok (.istore 5, 2) := by decide +kernel
theorem dX5_first_29 : decode cX5_first 29 = .ok (.iload 5, 2) := by decide +kernel
theorem dX5_first_31 : decode cX5_first 31 = .ok (.aload_n 0, 1) := by decide +kernel
theorem dX5_first_32 : decode cX5_first 32 = .ok (.getfield 74, 3) := by decide +kernel
theorem dX5_first_35 : decode cX5_first 35 = .ok (.if_icmp .ge 53, 3) := by decide +kernel
theorem dX5_first_38 : decode cX5_first 38 = .ok (.aload_n 0, 1) := by decide +kernel
theorem dX5_first_39 : decode cX5_first 39 = .ok (.iload 5, 2) := by decide +kernel
theorem dX5_first_41 : decode cX5_first 41 = .ok (.invokevirtual 233, 3) := by decide +kernel
theorem dX5_first_44 : decode cX5_first 44 = .ok (.istore 6, 2) := by decide +kernel
theorem dX5_first_46 : decode cX5_first 46 = .ok (.iload 6, 2) := by decide +kernel
theorem dX5_first_48 : decode cX5_first 48 = .ok (.iload 4, 2) := by decide +kernel
theorem dX5_first_50 : decode cX5_first 50 = .ok (.if_icmp .le 8, 3) := by decide +kernel
theorem dX5_first_53 : decode cX5_first 53 = .ok (.iload 6, 2) := by decide +kernel
theorem dX5_first_55 : decode cX5_first 55 = .ok (.goto 5, 3) := by decide +kernel
theorem dX5_first_58 : decode cX5_first 58 = .ok (.iload 4, 2) := by decide +kernel
theorem dX5_first_60 : decode cX5_first 60 = .ok (.istore 4, 2) := by decide +kernel
theorem dX5_first_62 : decode cX5_first 62 = .ok (.iload 6, 2) := by decide +kernel
theorem dX5_first_64 : decode cX5_first 64 = .ok (.ifCond .eq 18, 3) := by decide +kernel
theorem dX5_first_67 : decode cX5_first 67 = .ok (.iload 6, 2) := by decide +kernel
theorem dX5_first_69 : decode cX5_first 69 = .ok (.iload_n 3, 1) := by decide +kernel
theorem dX5_first_70 : decode cX5_first 70 = .ok (.if_icmp .lt 6, 3) := by decide +kernel
theorem dX5_first_73 : decode cX5_first 73 = .ok (.goto 9, 3) := by decide +kernel
theorem dX5_first_76 : decode cX5_first 76 = .ok (.iload 5, 2) := by decide +kernel
theorem dX5_first_78 : decode cX5_first 78 = .ok (.istore_n 2, 1) := by decide +kernel
theorem dX5_first_79 : decode cX5_first 79 = .ok (.iload 6, 2) := by decide +kernel
theorem dX5_first_81 : decode cX5_first 81 = .ok (.istore_n 3, 1) := by decide +kernel
theorem dX5_first_82 : decode cX5_first 82 = .ok (.iinc 5 1, 3) := by decide +kernel
theorem dX5_first_85 : decode cX5_first 85 = .ok (.goto (-56), 3) := by decide +kernel
theorem dX5_first_88 : decode cX5_first 88 = .ok (.iload_n 1, 1) := by decide +kernel
theorem dX5_first_89 : decode cX5_first 89 = .ok (.ifCond .ne 7, 3) := by decide +kernel
theorem dX5_first_92 : decode cX5_first 92 = .ok (.iload_n 2, 1) := by decide +kernel
theorem dX5_first_93 : decode cX5_first 93 = .ok (.goto 36, 3) := by decide +kernel
theorem dX5_first_96 : decode cX5_first 96 = .ok (.iload_n 1, 1) := by decide +kernel
theorem dX5_first_97 : decode cX5_first 97 = .ok (.iconst 1, 1) := by decide +kernel
theorem dX5_first_98 : decode cX5_first 98 = .ok (.if_icmp .ne 16, 3) := by decide +kernel
theorem dX5_first_101 : decode cX5_first 101 = .ok (.iload_n 2, 1) := by decide +kernel
theorem dX5_first_102 : decode cX5_first 102 = .ok (.ifCond .ge 8, 3) := by decide +kernel
theorem dX5_first_105 : decode cX5_first 105 = .ok (.bipush (-9), 2) := by decide +kernel
theorem dX5_first_107 : decode cX5_first 107 = .ok (.goto 22, 3) := by decide +kernel
theorem dX5_first_110 : decode cX5_first 110 = .ok (.iload_n 3, 1) := by decide +kernel
theorem dX5_first_111 : decode cX5_first 111 = .ok (.goto 18, 3) := by decide +kernel
theorem dX5_first_114 : decode cX5_first 114 = .ok (.iload 4, 2) := by decide +kernel
theorem dX5_first_116 : decode cX5_first 116 = .ok (.sipush 1000, 3) := by decide +kernel
theorem dX5_first_119 : decode cX5_first 119 = .ok (.if_icmp .ne 8, 3) := by decide +kernel
theorem dX5_first_122 : decode cX5_first 122 = .ok (.bipush (-9), 2) := by decide +kernel
theorem dX5_first_124 : decode cX5_first 124 = .ok (.goto 5, 3) := by decide +kernel
theorem dX5_first_127 : decode cX5_first 127 = .ok (.iload 4, 2) := by decide +kernel
theorem dX5_first_129 : decode cX5_first 129 = .ok (.ireturn, 1) := by decide +kernel
theorem dX5_enemy_0 : decode cX5_enemy 0 = .ok (.aload_n 0, 1) := by decide +kernel
theorem dX5_enemy_1 : decode cX5_enemy 1 = .ok (.iload_n 1, 1) := by decide +kernel
theorem dX5_enemy_2 : decode cX5_enemy 2 = .ok (.invokevirtual 70, 3) := by decide +kernel
theorem dX5_enemy_5 : decode cX5_enemy 5 = .ok (.ifCond .ne 7, 3) := by decide +kernel
theorem dX5_enemy_8 : decode cX5_enemy 8 = .ok (.iconst (-1), 1) := by decide +kernel
theorem dX5_enemy_9 : decode cX5_enemy 9 = .ok (.goto 18, 3) := by decide +kernel
theorem dX5_enemy_12 : decode cX5_enemy 12 = .ok (.iload_n 2, 1) := by decide +kernel
theorem dX5_enemy_13 : decode cX5_enemy 13 = .ok (.iconst 0, 1) := by decide +kernel
theorem dX5_enemy_14 : decode cX5_enemy 14 = .ok (.iconst 1, 1) := by decide +kernel
theorem dX5_enemy_15 : decode cX5_enemy 15 = .ok (.invokestatic 95, 3) := by decide +kernel
theorem dX5_enemy_18 : decode cX5_enemy 18 = .ok (.ifCond .ne 8, 3) := by decide +kernel
theorem dX5_enemy_21 : decode cX5_enemy 21 = .ok (.bipush (-2), 2) := by decide +kernel
theorem dX5_enemy_23 : decode cX5_enemy 23 = .ok (.goto 4, 3) := by decide +kernel
theorem dX5_enemy_26 : decode cX5_enemy 26 = .ok (.iconst 0, 1) := by decide +kernel
theorem dX5_enemy_27 : decode cX5_enemy 27 = .ok (.istore_n 3, 1) := by decide +kernel
theorem dX5_enemy_28 : decode cX5_enemy 28 = .ok (.iload_n 3, 1) := by decide +kernel
theorem dX5_enemy_29 : decode cX5_enemy 29 = .ok (.ifCond .eq 9, 3) := by decide +kernel
theorem dX5_enemy_32 : decode cX5_enemy 32 = .ok (.aload_n 0, 1) := by decide +kernel
theorem dX5_enemy_33 : decode cX5_enemy 33 = .ok (.iload_n 3, 1) := by decide +kernel
theorem dX5_enemy_34 : decode cX5_enemy 34 = .ok (.invokevirtual 84, 3) := by decide +kernel
theorem dX5_enemy_37 : decode cX5_enemy 37 = .ok (.ireturn, 1) := by decide +kernel
theorem dX5_enemy_38 : decode cX5_enemy 38 = .ok (.aload_n 0, 1) := by decide +kernel
theorem dX5_enemy_39 : decode cX5_enemy 39 = .ok (.iload_n 1, 1) := by decide +kernel
theorem dX5_enemy_40 : decode cX5_enemy 40 = .ok (.invokevirtual 193, 3) := by decide +kernel
theorem dX5_enemy_43 : decode cX5_enemy 43 = .ok (.istore 4, 2) := by decide +kernel
theorem dX5_enemy_45 : decode cX5_enemy 45 = .ok (.iload_n 2, 1) := by decide +kernel
theorem dX5_enemy_46 : decode cX5_enemy 46 = .ok (.ifCond .eq 8, 3) := by decide +kernel
theorem dX5_enemy_49 : decode cX5_enemy 49 = .ok (.iload 4, 2) := by decide +kernel
theorem dX5_enemy_51 : decode cX5_enemy 51 = .ok (.ifCond .ge 8, 3) := by decide +kernel
theorem dX5_enemy_54 : decode cX5_enemy 54 = .ok (.iload 4, 2) := by decide +kernel
theorem dX5_enemy_56 : decode cX5_enemy 56 = .ok (.goto 10, 3) := by decide +kernel
theorem dX5_enemy_59 : decode cX5_enemy 59 = .ok (.aload_n 0, 1) := by decide +kernel
theorem dX5_enemy_60 : decode cX5_enemy 60 = .ok (.iload_n 1, 1) := by decide +kernel
theorem dX5_enemy_61 : decode cX5_enemy 61 = .ok (.iload 4, 2) := by decide +kernel
theorem dX5_enemy_63 : decode cX5_enemy 63 = .ok (.invokevirtual 190, 3) := by decide +kernel
theorem dX5_enemy_66 : decode cX5_enemy 66 = .ok (.ireturn, 1) := by decide +kernel
theorem dX5_malice_0 : decode cX5_malice 0 = .ok (.aload_n 0, 1) := by decide +kernel
theorem dX5_malice_1 : decode cX5_malice 1 = .ok (.iload_n 1, 1) := by decide +kernel
theorem dX5_malice_2 : decode cX5_malice 2 = .ok (.iload_n 2, 1) := by decide +kernel
theorem dX5_malice_3 : decode cX5_malice 3 = .ok (.invokevirtual 123, 3) := by decide +kernel
theorem dX5_malice_6 : decode cX5_malice 6 = .ok (.ifCond .eq 12, 3) := by decide +kernel
theorem dX5_malice_9 : decode cX5_malice 9 = .ok (.aload_n 0, 1) := by decide +kernel
theorem dX5_malice_10 : decode cX5_malice 10 = .ok (.iload_n 1, 1) := by decide +kernel
theorem dX5_malice_11 : decode cX5_malice 11 = .ok (.iload_n 2, 1) := by decide +kernel
theorem dX5_malice_12 : decode cX5_malice 12 = .ok (.invokevirtual 187, 3) := by decide +kernel
theorem dX5_malice_15 : decode cX5_malice 15 = .ok (.goto 8, 3) := by decide +kernel
theorem dX5_malice_18 : decode cX5_malice 18 = .ok (.aload_n 0, 1) := by decide +kernel
theorem dX5_malice_19 : decode cX5_malice 19 = .ok (.iconst (-1), 1) := by decide +kernel
theorem dX5_malice_20 : decode cX5_malice 20 = .ok (.invokevirtual 84, 3) := by decide +kernel
theorem dX5_malice_23 : decode cX5_malice 23 = .ok (.ireturn, 1) := by decide +kernel
theorem dX5_loved_0 : decode cX5_loved 0 = .ok (.iconst 0, 1) := by decide +kernel
theorem dX5_loved_1 : decode cX5_loved 1 = .ok (.istore_n 1, 1) := by decide +kernel
theorem dX5_loved_2 : decode cX5_loved 2 = .ok (.iconst 0, 1) := by decide +kernel
theorem dX5_loved_3 : decode cX5_loved 3 = .ok (.istore_n 2, 1) := by decide +kernel
theorem dX5_loved_4 : decode cX5_loved 4 = .ok (.iload_n 2, 1) := by decide +kernel
theorem dX5_loved_5 : decode cX5_loved 5 = .ok (.aload_n 0, 1) := by decide +kernel
theorem dX5_loved_6 : decode cX5_loved 6 = .ok (.getfield 64, 3) := by decide +kernel
theorem dX5_loved_9 : decode cX5_loved 9 = .ok (.if_icmp .ge 27, 3) := by decide +kernel
theorem dX5_loved_12 : decode cX5_loved 12 = .ok (.iload_n 1, 1) := by decide +kernel
theorem dX5_loved_13 : decode cX5_loved 13 = .ok (.aload_n 0, 1) := by decide +kernel
theorem dX5_loved_14 : decode cX5_loved 14 = .ok (.iload_n 2, 1) := by decide +kernel
theorem dX5_loved_15 : decode cX5_loved 15 = .ok (.invokevirtual 193, 3) := by decide +kernel
theorem dX5_loved_18 : decode cX5_loved 18 = .ok (.ifCond .ge 9, 3) := by decide +kernel
theorem dX5_loved_21 : decode cX5_loved 21 = .ok (.iconst 1, 1) := by decide +kernel
theorem dX5_loved_22 : decode cX5_loved 22 = .ok (.iload_n 2, 1) := by decide +kernel
theorem dX5_loved_23 : decode cX5_loved 23 = .ok (.ishl, 1) := by decide +kernel
theorem dX5_loved_24 : decode cX5_loved 24 = .ok (.goto 4, 3) := by decide +kernel
theorem dX5_loved_27 : decode cX5_loved 27 = .ok (.iconst 0, 1) := by decide +kernel
theorem dX5_loved_28 : decode cX5_loved 28 = .ok (.ior, 1) := by decide +kernel
theorem dX5_loved_29 : decode cX5_loved 29 = .ok (.istore_n 1, 1) := by decide +kernel
theorem dX5_loved_30 : decode cX5_loved 30 = .ok (.iinc 2 1, 3) := by decide +kernel
theorem dX5_loved_33 : decode cX5_loved 33 = .ok (.goto (-29), 3) := by decide +kernel
theorem dX5_loved_36 : decode cX5_loved 36 = .ok (.iload_n 1, 1) := by decide +kernel
theorem dX5_loved_37 : decode cX5_loved 37 = .ok (.ireturn, 1) := by decide +kernel
theorem dX5_enemyOfMany_0 : decode cX5_enemyOfMany 0 = .ok (.iconst 0, 1) := by decide +kernel
theorem dX5_enemyOfMany_1 : decode cX5_enemyOfMany 1 = .ok (.istore_n 2, 1) := by decide +kernel
theorem dX5_enemyOfMany_2 : decode cX5_enemyOfMany 2 = .ok (.iconst 0, 1) := by decide +kernel
theorem dX5_enemyOfMany_3 : decode cX5_enemyOfMany 3 = .ok (.istore_n 3, 1) := by decide +kernel
theorem dX5_enemyOfMany_4 : decode cX5_enemyOfMany 4 = .ok (.iload_n 3, 1) := by decide +kernel
theorem dX5_enemyOfMany_5 : decode cX5_enemyOfMany 5 = .ok (.aload_n 0, 1) := by decide +kernel
theorem dX5_enemyOfMany_6 : decode cX5_enemyOfMany 6 = .ok (.getfield 64, 3) := by decide +kernel
theorem dX5_enemyOfMany_9 : decode cX5_enemyOfMany 9 = .ok (.if_icmp .ge 26, 3) := by decide +kernel
theorem dX5_enemyOfMany_12 : decode cX5_enemyOfMany 12 = .ok (.iload_n 2, 1) := by decide +kernel
theorem dX5_enemyOfMany_13 : decode cX5_enemyOfMany 13 = .ok (.aload_n 0, 1) := by decide +kernel
theorem dX5_enemyOfMany_14 : decode cX5_enemyOfMany 14 = .ok (.iload_n 3, 1) := by decide +kernel
theorem dX5_enemyOfMany_15 : decode cX5_enemyOfMany 15 = .ok (.invokevirtual 193, 3) := by decide +kernel
theorem dX5_enemyOfMany_18 : decode cX5_enemyOfMany 18 = .ok (.iload_n 1, 1) := by decide +kernel
theorem dX5_enemyOfMany_19 : decode cX5_enemyOfMany 19 = .ok (.if_icmp .ne 7, 3) := by decide +kernel
theorem dX5_enemyOfMany_22 : decode cX5_enemyOfMany 22 = .ok (.iconst 1, 1) := by decide +kernel
theorem dX5_enemyOfMany_23 : decode cX5_enemyOfMany 23 = .ok (.goto 4, 3) := by decide +kernel
theorem dX5_enemyOfMany_26 : decode cX5_enemyOfMany 26 = .ok (.iconst 0, 1) := by decide +kernel
theorem dX5_enemyOfMany_27 : decode cX5_enemyOfMany 27 = .ok (.iadd, 1) := by decide +kernel
theorem dX5_enemyOfMany_28 : decode cX5_enemyOfMany 28 = .ok (.istore_n 2, 1) := by decide +kernel
theorem dX5_enemyOfMany_29 : decode cX5_enemyOfMany 29 = .ok (.iinc 3 1, 3) := by decide +kernel
theorem dX5_enemyOfMany_32 : decode cX5_enemyOfMany 32 = .ok (.goto (-28), 3) := by decide +kernel
theorem dX5_enemyOfMany_35 : decode cX5_enemyOfMany 35 = .ok (.iload_n 2, 1) := by decide +kernel
theorem dX5_enemyOfMany_36 : decode cX5_enemyOfMany 36 = .ok (.ireturn, 1) := by decide +kernel
theorem dX5_busiest_0 : decode cX5_busiest 0 = .ok (.iload_n 1, 1) := by decide +kernel
theorem dX5_busiest_1 : decode cX5_busiest 1 = .ok (.iconst 0, 1) := by decide +kernel
theorem dX5_busiest_2 : decode cX5_busiest 2 = .ok (.iconst 1, 1) := by decide +kernel
theorem dX5_busiest_3 : decode cX5_busiest 3 = .ok (.invokestatic 95, 3) := by decide +kernel
theorem dX5_busiest_6 : decode cX5_busiest 6 = .ok (.ifCond .ne 10, 3) := by decide +kernel
theorem dX5_busiest_9 : decode cX5_busiest 9 = .ok (.aload_n 0, 1) := by decide +kernel
theorem dX5_busiest_10 : decode cX5_busiest 10 = .ok (.bipush (-2), 2) := by decide +kernel
theorem dX5_busiest_12 : decode cX5_busiest 12 = .ok (.invokevirtual 84, 3) := by decide +kernel
theorem dX5_busiest_15 : decode cX5_busiest 15 = .ok (.ireturn, 1) := by decide +kernel
theorem dX5_busiest_16 : decode cX5_busiest 16 = .ok (.bipush (-9), 2) := by decide +kernel
theorem dX5_busiest_18 : decode cX5_busiest 18 = .ok (.istore_n 2, 1) := by decide +kernel
theorem dX5_busiest_19 : decode cX5_busiest 19 = .ok (.iconst 0, 1) := by decide +kernel
theorem dX5_busiest_20 : decode cX5_busiest 20 = .ok (.istore_n 3, 1) := by decide +kernel
theorem dX5_busiest_21 : decode cX5_busiest 21 = .ok (.iconst 0, 1) := by decide +kernel
theorem dX5_busiest_22 : decode cX5_busiest 22 = .ok (.istore 4, 2) := by decide +kernel
theorem dX5_busiest_24 : decode cX5_busiest 24 = .ok (.iload 4, 2) := by decide +kernel
theorem dX5_busiest_26 : decode cX5_busiest 26 = .ok (.aload_n 0, 1) := by decide +kernel
theorem dX5_busiest_27 : decode cX5_busiest 27 = .ok (.getfield 64, 3) := by decide +kernel
theorem dX5_busiest_30 : decode cX5_busiest 30 = .ok (.if_icmp .ge 32, 3) := by decide +kernel
theorem dX5_busiest_33 : decode cX5_busiest 33 = .ok (.aload_n 0, 1) := by decide +kernel
theorem dX5_busiest_34 : decode cX5_busiest 34 = .ok (.iload 4, 2) := by decide +kernel
theorem dX5_busiest_36 : decode cX5_busiest 36 = .ok (.invokevirtual 236, 3) := by decide +kernel
theorem dX5_busiest_39 : decode cX5_busiest 39 = .ok (.iload_n 3, 1) := by decide +kernel
theorem dX5_busiest_40 : decode cX5_busiest 40 = .ok (.if_icmp .gt 6, 3) := by decide +kernel
theorem dX5_busiest_43 : decode cX5_busiest 43 = .ok (.goto 13, 3) := by decide +kernel
theorem dX5_busiest_46 : decode cX5_busiest 46 = .ok (.iload 4, 2) := by decide +kernel
theorem dX5_busiest_48 : decode cX5_busiest 48 = .ok (.istore_n 2, 1) := by decide +kernel
theorem dX5_busiest_49 : decode cX5_busiest 49 = .ok (.aload_n 0, 1) := by decide +kernel
theorem dX5_busiest_50 : decode cX5_busiest 50 = .ok (.iload 4, 2) := by decide +kernel
theorem dX5_busiest_52 : decode cX5_busiest 52 = .ok (.invokevirtual 236, 3) := by decide +kernel
theorem dX5_busiest_55 : decode cX5_busiest 55 = .ok (.istore_n 3, 1) := by decide +kernel
theorem dX5_busiest_56 : decode cX5_busiest 56 = .ok (.iinc 4 1, 3) := by decide +kernel
theorem dX5_busiest_59 : decode cX5_busiest 59 = .ok (.goto (-35), 3) := by decide +kernel
theorem dX5_busiest_62 : decode cX5_busiest 62 = .ok (.iload_n 1, 1) := by decide +kernel
theorem dX5_busiest_63 : decode cX5_busiest 63 = .ok (.ifCond .ne 7, 3) := by decide +kernel
theorem dX5_busiest_66 : decode cX5_busiest 66 = .ok (.iload_n 2, 1) := by decide +kernel
theorem dX5_busiest_67 : decode cX5_busiest 67 = .ok (.goto 4, 3) := by decide +kernel
theorem dX5_busiest_70 : decode cX5_busiest 70 = .ok (.iload_n 3, 1) := by decide +kernel
theorem dX5_busiest_71 : decode cX5_busiest 71 = .ok (.ireturn, 1) := by decide +kernel
theorem dX5_ring_0 : decode cX5_ring 0 = .ok (.aload_n 0, 1) := by decide +kernel
theorem dX5_ring_1 : decode cX5_ring 1 = .ok (.iload_n 1, 1) := by decide +kernel
theorem dX5_ring_2 : decode cX5_ring 2 = .ok (.invokevirtual 70, 3) := by decide +kernel
theorem dX5_ring_5 : decode cX5_ring 5 = .ok (.ifCond .ne 7, 3) := by decide +kernel
theorem dX5_ring_8 : decode cX5_ring 8 = .ok (.iconst (-1), 1) := by decide +kernel
theorem dX5_ring_9 : decode cX5_ring 9 = .ok (.goto 18, 3) := by decide +kernel
theorem dX5_ring_12 : decode cX5_ring 12 = .ok (.iload_n 2, 1) := by decide +kernel
theorem dX5_ring_13 : decode cX5_ring 13 = .ok (.iconst 0, 1) := by decide +kernel
theorem dX5_ring_14 : decode cX5_ring 14 = .ok (.iconst 1, 1) := by decide +kernel
theorem dX5_ring_15 : decode cX5_ring 15 = .ok (.invokestatic 95, 3) := by decide +kernel
theorem dX5_ring_18 : decode cX5_ring 18 = .ok (.ifCond .ne 8, 3) := by decide +kernel
theorem dX5_ring_21 : decode cX5_ring 21 = .ok (.bipush (-2), 2) := by decide +kernel
theorem dX5_ring_23 : decode cX5_ring 23 = .ok (.goto 4, 3) := by decide +kernel
theorem dX5_ring_26 : decode cX5_ring 26 = .ok (.iconst 0, 1) := by decide +kernel
theorem dX5_ring_27 : decode cX5_ring 27 = .ok (.istore_n 3, 1) := by decide +kernel
theorem dX5_ring_28 : decode cX5_ring 28 = .ok (.iload_n 3, 1) := by decide +kernel
theorem dX5_ring_29 : decode cX5_ring 29 = .ok (.ifCond .eq 9, 3) := by decide +kernel
theorem dX5_ring_32 : decode cX5_ring 32 = .ok (.aload_n 0, 1) := by decide +kernel
theorem dX5_ring_33 : decode cX5_ring 33 = .ok (.iload_n 3, 1) := by decide +kernel
theorem dX5_ring_34 : decode cX5_ring 34 = .ok (.invokevirtual 84, 3) := by decide +kernel
theorem dX5_ring_37 : decode cX5_ring 37 = .ok (.ireturn, 1) := by decide +kernel
theorem dX5_ring_38 : decode cX5_ring 38 = .ok (.iconst 0, 1) := by decide +kernel
theorem dX5_ring_39 : decode cX5_ring 39 = .ok (.istore 4, 2) := by decide +kernel
theorem dX5_ring_41 : decode cX5_ring 41 = .ok (.iload_n 1, 1) := by decide +kernel
theorem dX5_ring_42 : decode cX5_ring 42 = .ok (.istore 5, 2) := by decide +kernel
theorem dX5_ring_44 : decode cX5_ring 44 = .ok (.iload 5, 2) := by decide +kernel
theorem dX5_ring_46 : decode cX5_ring 46 = .ok (.ifCond .lt 33, 3) := by decide +kernel
theorem dX5_ring_49 : decode cX5_ring 49 = .ok (.iload 4, 2) := by decide +kernel
theorem dX5_ring_51 : decode cX5_ring 51 = .ok (.iload 5, 2) := by decide +kernel
theorem dX5_ring_53 : decode cX5_ring 53 = .ok (.invokestatic 239, 3) := by decide +kernel
theorem dX5_ring_56 : decode cX5_ring 56 = .ok (.ifCond .ne 23, 3) := by decide +kernel
theorem dX5_ring_59 : decode cX5_ring 59 = .ok (.iload 4, 2) := by decide +kernel
theorem dX5_ring_61 : decode cX5_ring 61 = .ok (.iconst 1, 1) := by decide +kernel
theorem dX5_ring_62 : decode cX5_ring 62 = .ok (.iload 5, 2) := by decide +kernel
theorem dX5_ring_64 : decode cX5_ring 64 = .ok (.ishl, 1) := by decide +kernel
theorem dX5_ring_65 : decode cX5_ring 65 = .ok (.ior, 1) := by decide +kernel
theorem dX5_ring_66 : decode cX5_ring 66 = .ok (.istore 4, 2) := by decide +kernel
theorem dX5_ring_68 : decode cX5_ring 68 = .ok (.aload_n 0, 1) := by decide +kernel
theorem dX5_ring_69 : decode cX5_ring 69 = .ok (.iload 5, 2) := by decide +kernel
theorem dX5_ring_71 : decode cX5_ring 71 = .ok (.invokevirtual 193, 3) := by decide +kernel
theorem dX5_ring_74 : decode cX5_ring 74 = .ok (.istore 5, 2) := by decide +kernel
theorem dX5_ring_76 : decode cX5_ring 76 = .ok (.goto (-32), 3) := by decide +kernel
theorem dX5_ring_79 : decode cX5_ring 79 = .ok (.iload_n 2, 1) := by decide +kernel
theorem dX5_ring_80 : decode cX5_ring 80 = .ok (.ifCond .ne 11, 3) := by decide +kernel
theorem dX5_ring_83 : decode cX5_ring 83 = .ok (.iload 4, 2) := by decide +kernel
theorem dX5_ring_85 : decode cX5_ring 85 = .ok (.invokestatic 218, 3) := by decide +kernel
theorem dX5_ring_88 : decode cX5_ring 88 = .ok (.goto 13, 3) := by decide +kernel
theorem dX5_ring_91 : decode cX5_ring 91 = .ok (.iload 5, 2) := by decide +kernel
theorem dX5_ring_93 : decode cX5_ring 93 = .ok (.ifCond .ge 7, 3) := by decide +kernel
theorem dX5_ring_96 : decode cX5_ring 96 = .ok (.iconst 0, 1) := by decide +kernel
theorem dX5_ring_97 : decode cX5_ring 97 = .ok (.goto 4, 3) := by decide +kernel
theorem dX5_ring_100 : decode cX5_ring 100 = .ok (.iconst 1, 1) := by decide +kernel
theorem dX5_ring_101 : decode cX5_ring 101 = .ok (.ireturn, 1) := by decide +kernel
theorem dX5_lateSlighting_0 : decode cX5_lateSlighting 0 = .ok (.aload_n 0, 1) := by decide +kernel
theorem dX5_lateSlighting_1 : decode cX5_lateSlighting 1 = .ok (.getfield 25, 3) := by decide +kernel
theorem dX5_lateSlighting_4 : decode cX5_lateSlighting 4 = .ok (.iload_n 2, 1) := by decide +kernel
theorem dX5_lateSlighting_5 : decode cX5_lateSlighting 5 = .ok (.aload_n 0, 1) := by decide +kernel
theorem dX5_lateSlighting_6 : decode cX5_lateSlighting 6 = .ok (.getfield 28, 3) := by decide +kernel
theorem dX5_lateSlighting_9 : decode cX5_lateSlighting 9 = .ok (.iload_n 1, 1) := by decide +kernel
theorem dX5_lateSlighting_10 : decode cX5_lateSlighting 10 = .ok (.iaload, 1) := by decide +kernel
theorem dX5_lateSlighting_11 : decode cX5_lateSlighting 11 = .ok (.invokestatic 115, 3) := by decide +kernel
theorem dX5_lateSlighting_14 : decode cX5_lateSlighting 14 = .ok (.iaload, 1) := by decide +kernel
theorem dX5_lateSlighting_15 : decode cX5_lateSlighting 15 = .ok (.istore_n 3, 1) := by decide +kernel
theorem dX5_lateSlighting_16 : decode cX5_lateSlighting 16 = .ok (.aload_n 0, 1) := by decide +kernel
theorem dX5_lateSlighting_17 : decode cX5_lateSlighting 17 = .ok (.iload_n 2, 1) := by decide +kernel
theorem dX5_lateSlighting_18 : decode cX5_lateSlighting 18 = .ok (.aload_n 0, 1) := by decide +kernel
theorem dX5_lateSlighting_19 : decode cX5_lateSlighting 19 = .ok (.getfield 28, 3) := by decide +kernel
theorem dX5_lateSlighting_22 : decode cX5_lateSlighting 22 = .ok (.iload_n 1, 1) := by decide +kernel
theorem dX5_lateSlighting_23 : decode cX5_lateSlighting 23 = .ok (.iaload, 1) := by decide +kernel
theorem dX5_lateSlighting_24 : decode cX5_lateSlighting 24 = .ok (.iconst 1, 1) := by decide +kernel
theorem dX5_lateSlighting_25 : decode cX5_lateSlighting 25 = .ok (.invokevirtual 126, 3) := by decide +kernel
theorem dX5_lateSlighting_28 : decode cX5_lateSlighting 28 = .ok (.aload_n 0, 1) := by decide +kernel
theorem dX5_lateSlighting_29 : decode cX5_lateSlighting 29 = .ok (.iload_n 1, 1) := by decide +kernel
theorem dX5_lateSlighting_30 : decode cX5_lateSlighting 30 = .ok (.invokevirtual 233, 3) := by decide +kernel
theorem dX5_lateSlighting_33 : decode cX5_lateSlighting 33 = .ok (.istore 4, 2) := by decide +kernel
theorem dX5_lateSlighting_35 : decode cX5_lateSlighting 35 = .ok (.aload_n 0, 1) := by decide +kernel
theorem dX5_lateSlighting_36 : decode cX5_lateSlighting 36 = .ok (.getfield 25, 3) := by decide +kernel
theorem dX5_lateSlighting_39 : decode cX5_lateSlighting 39 = .ok (.iload_n 2, 1) := by decide +kernel
theorem dX5_lateSlighting_40 : decode cX5_lateSlighting 40 = .ok (.aload_n 0, 1) := by decide +kernel
theorem dX5_lateSlighting_41 : decode cX5_lateSlighting 41 = .ok (.getfield 28, 3) := by decide +kernel
theorem dX5_lateSlighting_44 : decode cX5_lateSlighting 44 = .ok (.iload_n 1, 1) := by decide +kernel
theorem dX5_lateSlighting_45 : decode cX5_lateSlighting 45 = .ok (.iaload, 1) := by decide +kernel
theorem dX5_lateSlighting_46 : decode cX5_lateSlighting 46 = .ok (.invokestatic 115, 3) := by decide +kernel
theorem dX5_lateSlighting_49 : decode cX5_lateSlighting 49 = .ok (.iload_n 3, 1) := by decide +kernel
theorem dX5_lateSlighting_50 : decode cX5_lateSlighting 50 = .ok (.iastore, 1) := by decide +kernel
theorem dX5_lateSlighting_51 : decode cX5_lateSlighting 51 = .ok (.iload 4, 2) := by decide +kernel
theorem dX5_lateSlighting_53 : decode cX5_lateSlighting 53 = .ok (.ireturn, 1) := by decide +kernel
theorem dX5_slight_0 : decode cX5_slight 0 = .ok (.aload_n 0, 1) := by decide +kernel
theorem dX5_slight_1 : decode cX5_slight 1 = .ok (.iload_n 1, 1) := by decide +kernel
theorem dX5_slight_2 : decode cX5_slight 2 = .ok (.invokevirtual 212, 3) := by decide +kernel
theorem dX5_slight_5 : decode cX5_slight 5 = .ok (.ifCond .ne 7, 3) := by decide +kernel
theorem dX5_slight_8 : decode cX5_slight 8 = .ok (.iconst (-1), 1) := by decide +kernel
theorem dX5_slight_9 : decode cX5_slight 9 = .ok (.goto 18, 3) := by decide +kernel
theorem dX5_slight_12 : decode cX5_slight 12 = .ok (.aload_n 0, 1) := by decide +kernel
theorem dX5_slight_13 : decode cX5_slight 13 = .ok (.getfield 34, 3) := by decide +kernel
theorem dX5_slight_16 : decode cX5_slight 16 = .ok (.iload_n 1, 1) := by decide +kernel
theorem dX5_slight_17 : decode cX5_slight 17 = .ok (.iaload, 1) := by decide +kernel
theorem dX5_slight_18 : decode cX5_slight 18 = .ok (.ifCond .eq 8, 3) := by decide +kernel
theorem dX5_slight_21 : decode cX5_slight 21 = .ok (.bipush (-3), 2) := by decide +kernel
theorem dX5_slight_23 : decode cX5_slight 23 = .ok (.goto 4, 3) := by decide +kernel
theorem dX5_slight_26 : decode cX5_slight 26 = .ok (.iconst 0, 1) := by decide +kernel
theorem dX5_slight_27 : decode cX5_slight 27 = .ok (.istore_n 2, 1) := by decide +kernel
theorem dX5_slight_28 : decode cX5_slight 28 = .ok (.iload_n 2, 1) := by decide +kernel
theorem dX5_slight_29 : decode cX5_slight 29 = .ok (.ifCond .eq 9, 3) := by decide +kernel
theorem dX5_slight_32 : decode cX5_slight 32 = .ok (.aload_n 0, 1) := by decide +kernel
theorem dX5_slight_33 : decode cX5_slight 33 = .ok (.iload_n 2, 1) := by decide +kernel
theorem dX5_slight_34 : decode cX5_slight 34 = .ok (.invokevirtual 84, 3) := by decide +kernel
theorem dX5_slight_37 : decode cX5_slight 37 = .ok (.ireturn, 1) := by decide +kernel
theorem dX5_slight_38 : decode cX5_slight 38 = .ok (.bipush (-9), 2) := by decide +kernel
theorem dX5_slight_40 : decode cX5_slight 40 = .ok (.istore_n 3, 1) := by decide +kernel
theorem dX5_slight_41 : decode cX5_slight 41 = .ok (.aload_n 0, 1) := by decide +kernel
theorem dX5_slight_42 : decode cX5_slight 42 = .ok (.iload_n 1, 1) := by decide +kernel
theorem dX5_slight_43 : decode cX5_slight 43 = .ok (.invokevirtual 233, 3) := by decide +kernel
theorem dX5_slight_46 : decode cX5_slight 46 = .ok (.istore 4, 2) := by decide +kernel
theorem dX5_slight_48 : decode cX5_slight 48 = .ok (.iconst 0, 1) := by decide +kernel
theorem dX5_slight_49 : decode cX5_slight 49 = .ok (.istore 5, 2) := by decide +kernel
theorem dX5_slight_51 : decode cX5_slight 51 = .ok (.iload 5, 2) := by decide +kernel
theorem dX5_slight_53 : decode cX5_slight 53 = .ok (.aload_n 0, 1) := by decide +kernel
theorem dX5_slight_54 : decode cX5_slight 54 = .ok (.getfield 64, 3) := by decide +kernel
theorem dX5_slight_57 : decode cX5_slight 57 = .ok (.if_icmp .ge 52, 3) := by decide +kernel
theorem dX5_slight_60 : decode cX5_slight 60 = .ok (.iload 5, 2) := by decide +kernel
theorem dX5_slight_62 : decode cX5_slight 62 = .ok (.aload_n 0, 1) := by decide +kernel
theorem dX5_slight_63 : decode cX5_slight 63 = .ok (.getfield 28, 3) := by decide +kernel
theorem dX5_slight_66 : decode cX5_slight 66 = .ok (.iload_n 1, 1) := by decide +kernel
theorem dX5_slight_67 : decode cX5_slight 67 = .ok (.iaload, 1) := by decide +kernel
theorem dX5_slight_68 : decode cX5_slight 68 = .ok (.if_icmp .ne 9, 3) := by decide +kernel
theorem dX5_slight_71 : decode cX5_slight 71 = .ok (.sipush 1000, 3) := by decide +kernel
theorem dX5_slight_74 : decode cX5_slight 74 = .ok (.goto 10, 3) := by decide +kernel
theorem dX5_slight_77 : decode cX5_slight 77 = .ok (.aload_n 0, 1) := by decide +kernel
theorem dX5_slight_78 : decode cX5_slight 78 = .ok (.iload_n 1, 1) := by decide +kernel
theorem dX5_slight_79 : decode cX5_slight 79 = .ok (.iload 5, 2) := by decide +kernel
theorem dX5_slight_81 : decode cX5_slight 81 = .ok (.invokevirtual 242, 3) := by decide +kernel
theorem dX5_slight_84 : decode cX5_slight 84 = .ok (.istore 6, 2) := by decide +kernel
theorem dX5_slight_86 : decode cX5_slight 86 = .ok (.iload 6, 2) := by decide +kernel
theorem dX5_slight_88 : decode cX5_slight 88 = .ok (.iload 4, 2) := by decide +kernel
theorem dX5_slight_90 : decode cX5_slight 90 = .ok (.if_icmp .lt 6, 3) := by decide +kernel
theorem dX5_slight_93 : decode cX5_slight 93 = .ok (.goto 10, 3) := by decide +kernel
theorem dX5_slight_96 : decode cX5_slight 96 = .ok (.iload 5, 2) := by decide +kernel
theorem dX5_slight_98 : decode cX5_slight 98 = .ok (.istore_n 3, 1) := by decide +kernel
theorem dX5_slight_99 : decode cX5_slight 99 = .ok (.iload 6, 2) := by decide +kernel
theorem dX5_slight_101 : decode cX5_slight 101 = .ok (.istore 4, 2) := by decide +kernel
theorem dX5_slight_103 : decode cX5_slight 103 = .ok (.iinc 5 1, 3) := by decide +kernel
theorem dX5_slight_106 : decode cX5_slight 106 = .ok (.goto (-55), 3) := by decide +kernel
theorem dX5_slight_109 : decode cX5_slight 109 = .ok (.iload_n 3, 1) := by decide +kernel
theorem dX5_slight_110 : decode cX5_slight 110 = .ok (.ireturn, 1) := by decide +kernel
theorem dX5_bringsIn_0 : decode cX5_bringsIn 0 = .ok (.aload_n 0, 1) := by decide +kernel
theorem dX5_bringsIn_1 : decode cX5_bringsIn 1 = .ok (.invokevirtual 245, 3) := by decide +kernel
theorem dX5_bringsIn_4 : decode cX5_bringsIn 4 = .ok (.iload_n 2, 1) := by decide +kernel
theorem dX5_bringsIn_5 : decode cX5_bringsIn 5 = .ok (.istore 4, 2) := by decide +kernel
theorem dX5_bringsIn_7 : decode cX5_bringsIn 7 = .ok (.iload 4, 2) := by decide +kernel
theorem dX5_bringsIn_9 : decode cX5_bringsIn 9 = .ok (.ifCond .le 51, 3) := by decide +kernel
theorem dX5_bringsIn_12 : decode cX5_bringsIn 12 = .ok (.iload 4, 2) := by decide +kernel
theorem dX5_bringsIn_14 : decode cX5_bringsIn 14 = .ok (.bipush 7, 2) := by decide +kernel
theorem dX5_bringsIn_16 : decode cX5_bringsIn 16 = .ok (.irem, 1) := by decide +kernel
theorem dX5_bringsIn_17 : decode cX5_bringsIn 17 = .ok (.iconst 1, 1) := by decide +kernel
theorem dX5_bringsIn_18 : decode cX5_bringsIn 18 = .ok (.isub, 1) := by decide +kernel
theorem dX5_bringsIn_19 : decode cX5_bringsIn 19 = .ok (.istore 5, 2) := by decide +kernel
theorem dX5_bringsIn_21 : decode cX5_bringsIn 21 = .ok (.iload 5, 2) := by decide +kernel
theorem dX5_bringsIn_23 : decode cX5_bringsIn 23 = .ok (.ifCond .lt 27, 3) := by decide +kernel
theorem dX5_bringsIn_26 : decode cX5_bringsIn 26 = .ok (.iload 5, 2) := by decide +kernel
theorem dX5_bringsIn_28 : decode cX5_bringsIn 28 = .ok (.aload_n 0, 1) := by decide +kernel
theorem dX5_bringsIn_29 : decode cX5_bringsIn 29 = .ok (.getfield 28, 3) := by decide +kernel
theorem dX5_bringsIn_32 : decode cX5_bringsIn 32 = .ok (.iload_n 1, 1) := by decide +kernel
theorem dX5_bringsIn_33 : decode cX5_bringsIn 33 = .ok (.iaload, 1) := by decide +kernel
theorem dX5_bringsIn_34 : decode cX5_bringsIn 34 = .ok (.if_icmp .eq 16, 3) := by decide +kernel
theorem dX5_bringsIn_37 : decode cX5_bringsIn 37 = .ok (.aload_n 0, 1) := by decide +kernel
theorem dX5_bringsIn_38 : decode cX5_bringsIn 38 = .ok (.iload 5, 2) := by decide +kernel
theorem dX5_bringsIn_40 : decode cX5_bringsIn 40 = .ok (.aload_n 0, 1) := by decide +kernel
theorem dX5_bringsIn_41 : decode cX5_bringsIn 41 = .ok (.getfield 28, 3) := by decide +kernel
theorem dX5_bringsIn_44 : decode cX5_bringsIn 44 = .ok (.iload_n 1, 1) := by decide +kernel
theorem dX5_bringsIn_45 : decode cX5_bringsIn 45 = .ok (.iaload, 1) := by decide +kernel
theorem dX5_bringsIn_46 : decode cX5_bringsIn 46 = .ok (.iconst 1, 1) := by decide +kernel
theorem dX5_bringsIn_47 : decode cX5_bringsIn 47 = .ok (.invokevirtual 126, 3) := by decide +kernel
theorem dX5_bringsIn_50 : decode cX5_bringsIn 50 = .ok (.iload 4, 2) := by decide +kernel
theorem dX5_bringsIn_52 : decode cX5_bringsIn 52 = .ok (.bipush 7, 2) := by decide +kernel
theorem dX5_bringsIn_54 : decode cX5_bringsIn 54 = .ok (.idiv, 1) := by decide +kernel
theorem dX5_bringsIn_55 : decode cX5_bringsIn 55 = .ok (.istore 4, 2) := by decide +kernel
theorem dX5_bringsIn_57 : decode cX5_bringsIn 57 = .ok (.goto (-50), 3) := by decide +kernel
theorem dX5_bringsIn_60 : decode cX5_bringsIn 60 = .ok (.aload_n 0, 1) := by decide +kernel
theorem dX5_bringsIn_61 : decode cX5_bringsIn 61 = .ok (.iload_n 1, 1) := by decide +kernel
theorem dX5_bringsIn_62 : decode cX5_bringsIn 62 = .ok (.invokevirtual 233, 3) := by decide +kernel
theorem dX5_bringsIn_65 : decode cX5_bringsIn 65 = .ok (.iload_n 3, 1) := by decide +kernel
theorem dX5_bringsIn_66 : decode cX5_bringsIn 66 = .ok (.if_icmp .gt 7, 3) := by decide +kernel
theorem dX5_bringsIn_69 : decode cX5_bringsIn 69 = .ok (.iconst 1, 1) := by decide +kernel
theorem dX5_bringsIn_70 : decode cX5_bringsIn 70 = .ok (.goto 4, 3) := by decide +kernel
theorem dX5_bringsIn_73 : decode cX5_bringsIn 73 = .ok (.iconst 0, 1) := by decide +kernel
theorem dX5_bringsIn_74 : decode cX5_bringsIn 74 = .ok (.istore 4, 2) := by decide +kernel
theorem dX5_bringsIn_76 : decode cX5_bringsIn 76 = .ok (.aload_n 0, 1) := by decide +kernel
theorem dX5_bringsIn_77 : decode cX5_bringsIn 77 = .ok (.invokevirtual 248, 3) := by decide +kernel
theorem dX5_bringsIn_80 : decode cX5_bringsIn 80 = .ok (.iload 4, 2) := by decide +kernel
theorem dX5_bringsIn_82 : decode cX5_bringsIn 82 = .ok (.ireturn, 1) := by decide +kernel
theorem dX5_slightsOf_0 : decode cX5_slightsOf 0 = .ok (.iconst 0, 1) := by decide +kernel
theorem dX5_slightsOf_1 : decode cX5_slightsOf 1 = .ok (.istore_n 3, 1) := by decide +kernel
theorem dX5_slightsOf_2 : decode cX5_slightsOf 2 = .ok (.iload_n 2, 1) := by decide +kernel
theorem dX5_slightsOf_3 : decode cX5_slightsOf 3 = .ok (.istore 4, 2) := by decide +kernel
theorem dX5_slightsOf_5 : decode cX5_slightsOf 5 = .ok (.iload 4, 2) := by decide +kernel
theorem dX5_slightsOf_7 : decode cX5_slightsOf 7 = .ok (.ifCond .le 59, 3) := by decide +kernel
theorem dX5_slightsOf_10 : decode cX5_slightsOf 10 = .ok (.iload 4, 2) := by decide +kernel
theorem dX5_slightsOf_12 : decode cX5_slightsOf 12 = .ok (.bipush 7, 2) := by decide +kernel
theorem dX5_slightsOf_14 : decode cX5_slightsOf 14 = .ok (.irem, 1) := by decide +kernel
theorem dX5_slightsOf_15 : decode cX5_slightsOf 15 = .ok (.iconst 1, 1) := by decide +kernel
theorem dX5_slightsOf_16 : decode cX5_slightsOf 16 = .ok (.isub, 1) := by decide +kernel
theorem dX5_slightsOf_17 : decode cX5_slightsOf 17 = .ok (.istore 5, 2) := by decide +kernel
theorem dX5_slightsOf_19 : decode cX5_slightsOf 19 = .ok (.iload 5, 2) := by decide +kernel
theorem dX5_slightsOf_21 : decode cX5_slightsOf 21 = .ok (.aload_n 0, 1) := by decide +kernel
theorem dX5_slightsOf_22 : decode cX5_slightsOf 22 = .ok (.getfield 28, 3) := by decide +kernel
theorem dX5_slightsOf_25 : decode cX5_slightsOf 25 = .ok (.iload_n 1, 1) := by decide +kernel
theorem dX5_slightsOf_26 : decode cX5_slightsOf 26 = .ok (.iaload, 1) := by decide +kernel
theorem dX5_slightsOf_27 : decode cX5_slightsOf 27 = .ok (.if_icmp .eq 12, 3) := by decide +kernel
theorem dX5_slightsOf_30 : decode cX5_slightsOf 30 = .ok (.iload 5, 2) := by decide +kernel
theorem dX5_slightsOf_32 : decode cX5_slightsOf 32 = .ok (.aload_n 0, 1) := by decide +kernel
theorem dX5_slightsOf_33 : decode cX5_slightsOf 33 = .ok (.getfield 64, 3) := by decide +kernel
theorem dX5_slightsOf_36 : decode cX5_slightsOf 36 = .ok (.if_icmp .lt 7, 3) := by decide +kernel
theorem dX5_slightsOf_39 : decode cX5_slightsOf 39 = .ok (.sipush 1000, 3) := by decide +kernel
theorem dX5_slightsOf_42 : decode cX5_slightsOf 42 = .ok (.ireturn, 1) := by decide +kernel
theorem dX5_slightsOf_43 : decode cX5_slightsOf 43 = .ok (.iload_n 3, 1) := by decide +kernel
theorem dX5_slightsOf_44 : decode cX5_slightsOf 44 = .ok (.iload 5, 2) := by decide +kernel
theorem dX5_slightsOf_46 : decode cX5_slightsOf 46 = .ok (.ifCond .lt 7, 3) := by decide +kernel
theorem dX5_slightsOf_49 : decode cX5_slightsOf 49 = .ok (.iconst 1, 1) := by decide +kernel
theorem dX5_slightsOf_50 : decode cX5_slightsOf 50 = .ok (.goto 4, 3) := by decide +kernel
theorem dX5_slightsOf_53 : decode cX5_slightsOf 53 = .ok (.iconst 0, 1) := by decide +kernel
theorem dX5_slightsOf_54 : decode cX5_slightsOf 54 = .ok (.iadd, 1) := by decide +kernel
theorem dX5_slightsOf_55 : decode cX5_slightsOf 55 = .ok (.istore_n 3, 1) := by decide +kernel
theorem dX5_slightsOf_56 : decode cX5_slightsOf 56 = .ok (.iload 4, 2) := by decide +kernel
theorem dX5_slightsOf_58 : decode cX5_slightsOf 58 = .ok (.bipush 7, 2) := by decide +kernel
theorem dX5_slightsOf_60 : decode cX5_slightsOf 60 = .ok (.idiv, 1) := by decide +kernel
theorem dX5_slightsOf_61 : decode cX5_slightsOf 61 = .ok (.istore 4, 2) := by decide +kernel
theorem dX5_slightsOf_63 : decode cX5_slightsOf 63 = .ok (.goto (-58), 3) := by decide +kernel
theorem dX5_slightsOf_66 : decode cX5_slightsOf 66 = .ok (.iload_n 3, 1) := by decide +kernel
theorem dX5_slightsOf_67 : decode cX5_slightsOf 67 = .ok (.ireturn, 1) := by decide +kernel
theorem dX5_cost_0 : decode cX5_cost 0 = .ok (.aload_n 0, 1) := by decide +kernel
theorem dX5_cost_1 : decode cX5_cost 1 = .ok (.iload_n 1, 1) := by decide +kernel
theorem dX5_cost_2 : decode cX5_cost 2 = .ok (.invokevirtual 212, 3) := by decide +kernel
theorem dX5_cost_5 : decode cX5_cost 5 = .ok (.ifCond .ne 7, 3) := by decide +kernel
theorem dX5_cost_8 : decode cX5_cost 8 = .ok (.iconst (-1), 1) := by decide +kernel
theorem dX5_cost_9 : decode cX5_cost 9 = .ok (.goto 10, 3) := by decide +kernel
theorem dX5_cost_12 : decode cX5_cost 12 = .ok (.iload_n 2, 1) := by decide +kernel
theorem dX5_cost_13 : decode cX5_cost 13 = .ok (.iconst 1, 1) := by decide +kernel
theorem dX5_cost_14 : decode cX5_cost 14 = .ok (.bipush 60, 2) := by decide +kernel
theorem dX5_cost_16 : decode cX5_cost 16 = .ok (.invokestatic 77, 3) := by decide +kernel
theorem dX5_cost_19 : decode cX5_cost 19 = .ok (.istore_n 3, 1) := by decide +kernel
theorem dX5_cost_20 : decode cX5_cost 20 = .ok (.iload_n 3, 1) := by decide +kernel
theorem dX5_cost_21 : decode cX5_cost 21 = .ok (.ifCond .ne 15, 3) := by decide +kernel
theorem dX5_cost_24 : decode cX5_cost 24 = .ok (.aload_n 0, 1) := by decide +kernel
theorem dX5_cost_25 : decode cX5_cost 25 = .ok (.getfield 34, 3) := by decide +kernel
theorem dX5_cost_28 : decode cX5_cost 28 = .ok (.iload_n 1, 1) := by decide +kernel
theorem dX5_cost_29 : decode cX5_cost 29 = .ok (.iaload, 1) := by decide +kernel
theorem dX5_cost_30 : decode cX5_cost 30 = .ok (.ifCond .eq 6, 3) := by decide +kernel
theorem dX5_cost_33 : decode cX5_cost 33 = .ok (.bipush (-3), 2) := by decide +kernel
theorem dX5_cost_35 : decode cX5_cost 35 = .ok (.istore_n 3, 1) := by decide +kernel
theorem dX5_cost_36 : decode cX5_cost 36 = .ok (.iload_n 3, 1) := by decide +kernel
theorem dX5_cost_37 : decode cX5_cost 37 = .ok (.ifCond .eq 9, 3) := by decide +kernel
theorem dX5_cost_40 : decode cX5_cost 40 = .ok (.aload_n 0, 1) := by decide +kernel
theorem dX5_cost_41 : decode cX5_cost 41 = .ok (.iload_n 3, 1) := by decide +kernel
theorem dX5_cost_42 : decode cX5_cost 42 = .ok (.invokevirtual 84, 3) := by decide +kernel
theorem dX5_cost_45 : decode cX5_cost 45 = .ok (.ireturn, 1) := by decide +kernel
theorem dX5_cost_46 : decode cX5_cost 46 = .ok (.sipush 1000, 3) := by decide +kernel
theorem dX5_cost_49 : decode cX5_cost 49 = .ok (.istore 4, 2) := by decide +kernel
theorem dX5_cost_51 : decode cX5_cost 51 = .ok (.iconst 0, 1) := by decide +kernel
theorem dX5_cost_52 : decode cX5_cost 52 = .ok (.istore 5, 2) := by decide +kernel
theorem dX5_cost_54 : decode cX5_cost 54 = .ok (.iload 5, 2) := by decide +kernel
theorem dX5_cost_56 : decode cX5_cost 56 = .ok (.sipush 343, 3) := by decide +kernel
theorem dX5_cost_59 : decode cX5_cost 59 = .ok (.if_icmp .ge 40, 3) := by decide +kernel
theorem dX5_cost_62 : decode cX5_cost 62 = .ok (.aload_n 0, 1) := by decide +kernel
theorem dX5_cost_63 : decode cX5_cost 63 = .ok (.iload_n 1, 1) := by decide +kernel
theorem dX5_cost_64 : decode cX5_cost 64 = .ok (.iload 5, 2) := by decide +kernel
theorem dX5_cost_66 : decode cX5_cost 66 = .ok (.invokevirtual 251, 3) := by decide +kernel
theorem dX5_cost_69 : decode cX5_cost 69 = .ok (.istore 6, 2) := by decide +kernel
theorem dX5_cost_71 : decode cX5_cost 71 = .ok (.iload 6, 2) := by decide +kernel
theorem dX5_cost_73 : decode cX5_cost 73 = .ok (.iload 4, 2) := by decide +kernel
theorem dX5_cost_75 : decode cX5_cost 75 = .ok (.if_icmp .ge 18, 3) := by decide +kernel
theorem dX5_cost_78 : decode cX5_cost 78 = .ok (.aload_n 0, 1) := by decide +kernel
theorem dX5_cost_79 : decode cX5_cost 79 = .ok (.iload_n 1, 1) := by decide +kernel
theorem dX5_cost_80 : decode cX5_cost 80 = .ok (.iload 5, 2) := by decide +kernel
theorem dX5_cost_82 : decode cX5_cost 82 = .ok (.iload_n 2, 1) := by decide +kernel
theorem dX5_cost_83 : decode cX5_cost 83 = .ok (.invokevirtual 254, 3) := by decide +kernel
theorem dX5_cost_86 : decode cX5_cost 86 = .ok (.ifCond .eq 7, 3) := by decide +kernel
theorem dX5_cost_89 : decode cX5_cost 89 = .ok (.iload 6, 2) := by decide +kernel
theorem dX5_cost_91 : decode cX5_cost 91 = .ok (.istore 4, 2) := by decide +kernel
theorem dX5_cost_93 : decode cX5_cost 93 = .ok (.iinc 5 1, 3) := by decide +kernel
theorem dX5_cost_96 : decode cX5_cost 96 = .ok (.goto (-42), 3) := by decide +kernel
theorem dX5_cost_99 : decode cX5_cost 99 = .ok (.iload 4, 2) := by decide +kernel
theorem dX5_cost_101 : decode cX5_cost 101 = .ok (.sipush 1000, 3) := by decide +kernel
theorem dX5_cost_104 : decode cX5_cost 104 = .ok (.if_icmp .ne 8, 3) := by decide +kernel
theorem dX5_cost_107 : decode cX5_cost 107 = .ok (.bipush (-9), 2) := by decide +kernel
theorem dX5_cost_109 : decode cX5_cost 109 = .ok (.goto 5, 3) := by decide +kernel
theorem dX5_cost_112 : decode cX5_cost 112 = .ok (.iload 4, 2) := by decide +kernel
theorem dX5_cost_114 : decode cX5_cost 114 = .ok (.ireturn, 1) := by decide +kernel
theorem dX5_latePeace_0 : decode cX5_latePeace 0 = .ok (.aload_n 0, 1) := by decide +kernel
theorem dX5_latePeace_1 : decode cX5_latePeace 1 = .ok (.invokevirtual 245, 3) := by decide +kernel
theorem dX5_latePeace_4 : decode cX5_latePeace 4 = .ok (.aload_n 0, 1) := by decide +kernel
theorem dX5_latePeace_5 : decode cX5_latePeace 5 = .ok (.iload_n 2, 1) := by decide +kernel
theorem dX5_latePeace_6 : decode cX5_latePeace 6 = .ok (.aload_n 0, 1) := by decide +kernel
theorem dX5_latePeace_7 : decode cX5_latePeace 7 = .ok (.getfield 28, 3) := by decide +kernel
theorem dX5_latePeace_10 : decode cX5_latePeace 10 = .ok (.iload_n 1, 1) := by decide +kernel
theorem dX5_latePeace_11 : decode cX5_latePeace 11 = .ok (.iaload, 1) := by decide +kernel
theorem dX5_latePeace_12 : decode cX5_latePeace 12 = .ok (.invokevirtual 130, 3) := by decide +kernel
theorem dX5_latePeace_15 : decode cX5_latePeace 15 = .ok (.aload_n 0, 1) := by decide +kernel
theorem dX5_latePeace_16 : decode cX5_latePeace 16 = .ok (.iload_n 1, 1) := by decide +kernel
theorem dX5_latePeace_17 : decode cX5_latePeace 17 = .ok (.invokevirtual 233, 3) := by decide +kernel
theorem dX5_latePeace_20 : decode cX5_latePeace 20 = .ok (.istore_n 3, 1) := by decide +kernel
theorem dX5_latePeace_21 : decode cX5_latePeace 21 = .ok (.aload_n 0, 1) := by decide +kernel
theorem dX5_latePeace_22 : decode cX5_latePeace 22 = .ok (.invokevirtual 248, 3) := by decide +kernel
theorem dX5_latePeace_25 : decode cX5_latePeace 25 = .ok (.iload_n 3, 1) := by decide +kernel
theorem dX5_latePeace_26 : decode cX5_latePeace 26 = .ok (.ireturn, 1) := by decide +kernel
theorem dX5_makeUp_0 : decode cX5_makeUp 0 = .ok (.aload_n 0, 1) := by decide +kernel
theorem dX5_makeUp_1 : decode cX5_makeUp 1 = .ok (.iload_n 1, 1) := by decide +kernel
theorem dX5_makeUp_2 : decode cX5_makeUp 2 = .ok (.invokevirtual 212, 3) := by decide +kernel
theorem dX5_makeUp_5 : decode cX5_makeUp 5 = .ok (.ifCond .ne 7, 3) := by decide +kernel
theorem dX5_makeUp_8 : decode cX5_makeUp 8 = .ok (.iconst (-1), 1) := by decide +kernel
theorem dX5_makeUp_9 : decode cX5_makeUp 9 = .ok (.goto 18, 3) := by decide +kernel
theorem dX5_makeUp_12 : decode cX5_makeUp 12 = .ok (.aload_n 0, 1) := by decide +kernel
theorem dX5_makeUp_13 : decode cX5_makeUp 13 = .ok (.getfield 34, 3) := by decide +kernel
theorem dX5_makeUp_16 : decode cX5_makeUp 16 = .ok (.iload_n 1, 1) := by decide +kernel
theorem dX5_makeUp_17 : decode cX5_makeUp 17 = .ok (.iaload, 1) := by decide +kernel
theorem dX5_makeUp_18 : decode cX5_makeUp 18 = .ok (.ifCond .eq 8, 3) := by decide +kernel
theorem dX5_makeUp_21 : decode cX5_makeUp 21 = .ok (.bipush (-3), 2) := by decide +kernel
theorem dX5_makeUp_23 : decode cX5_makeUp 23 = .ok (.goto 4, 3) := by decide +kernel
theorem dX5_makeUp_26 : decode cX5_makeUp 26 = .ok (.iconst 0, 1) := by decide +kernel
theorem dX5_makeUp_27 : decode cX5_makeUp 27 = .ok (.istore_n 2, 1) := by decide +kernel
theorem dX5_makeUp_28 : decode cX5_makeUp 28 = .ok (.iload_n 2, 1) := by decide +kernel
theorem dX5_makeUp_29 : decode cX5_makeUp 29 = .ok (.ifCond .eq 9, 3) := by decide +kernel
theorem dX5_makeUp_32 : decode cX5_makeUp 32 = .ok (.aload_n 0, 1) := by decide +kernel
theorem dX5_makeUp_33 : decode cX5_makeUp 33 = .ok (.iload_n 2, 1) := by decide +kernel
theorem dX5_makeUp_34 : decode cX5_makeUp 34 = .ok (.invokevirtual 84, 3) := by decide +kernel
theorem dX5_makeUp_37 : decode cX5_makeUp 37 = .ok (.ireturn, 1) := by decide +kernel
theorem dX5_makeUp_38 : decode cX5_makeUp 38 = .ok (.bipush (-9), 2) := by decide +kernel
theorem dX5_makeUp_40 : decode cX5_makeUp 40 = .ok (.istore_n 3, 1) := by decide +kernel
theorem dX5_makeUp_41 : decode cX5_makeUp 41 = .ok (.aload_n 0, 1) := by decide +kernel
theorem dX5_makeUp_42 : decode cX5_makeUp 42 = .ok (.iload_n 1, 1) := by decide +kernel
theorem dX5_makeUp_43 : decode cX5_makeUp 43 = .ok (.invokevirtual 233, 3) := by decide +kernel
theorem dX5_makeUp_46 : decode cX5_makeUp 46 = .ok (.istore 4, 2) := by decide +kernel
theorem dX5_makeUp_48 : decode cX5_makeUp 48 = .ok (.iconst 0, 1) := by decide +kernel
theorem dX5_makeUp_49 : decode cX5_makeUp 49 = .ok (.istore 5, 2) := by decide +kernel
theorem dX5_makeUp_51 : decode cX5_makeUp 51 = .ok (.iload 5, 2) := by decide +kernel
theorem dX5_makeUp_53 : decode cX5_makeUp 53 = .ok (.aload_n 0, 1) := by decide +kernel
theorem dX5_makeUp_54 : decode cX5_makeUp 54 = .ok (.getfield 64, 3) := by decide +kernel
theorem dX5_makeUp_57 : decode cX5_makeUp 57 = .ok (.if_icmp .ge 51, 3) := by decide +kernel
theorem dX5_makeUp_60 : decode cX5_makeUp 60 = .ok (.iload 5, 2) := by decide +kernel
theorem dX5_makeUp_62 : decode cX5_makeUp 62 = .ok (.aload_n 0, 1) := by decide +kernel
theorem dX5_makeUp_63 : decode cX5_makeUp 63 = .ok (.getfield 28, 3) := by decide +kernel
theorem dX5_makeUp_66 : decode cX5_makeUp 66 = .ok (.iload_n 1, 1) := by decide +kernel
theorem dX5_makeUp_67 : decode cX5_makeUp 67 = .ok (.iaload, 1) := by decide +kernel
theorem dX5_makeUp_68 : decode cX5_makeUp 68 = .ok (.if_icmp .ne 8, 3) := by decide +kernel
theorem dX5_makeUp_71 : decode cX5_makeUp 71 = .ok (.bipush (-9), 2) := by decide +kernel
theorem dX5_makeUp_73 : decode cX5_makeUp 73 = .ok (.goto 10, 3) := by decide +kernel
theorem dX5_makeUp_76 : decode cX5_makeUp 76 = .ok (.aload_n 0, 1) := by decide +kernel
theorem dX5_makeUp_77 : decode cX5_makeUp 77 = .ok (.iload_n 1, 1) := by decide +kernel
theorem dX5_makeUp_78 : decode cX5_makeUp 78 = .ok (.iload 5, 2) := by decide +kernel
theorem dX5_makeUp_80 : decode cX5_makeUp 80 = .ok (.invokevirtual 257, 3) := by decide +kernel
theorem dX5_makeUp_83 : decode cX5_makeUp 83 = .ok (.istore 6, 2) := by decide +kernel
theorem dX5_makeUp_85 : decode cX5_makeUp 85 = .ok (.iload 6, 2) := by decide +kernel
theorem dX5_makeUp_87 : decode cX5_makeUp 87 = .ok (.iload 4, 2) := by decide +kernel
theorem dX5_makeUp_89 : decode cX5_makeUp 89 = .ok (.if_icmp .gt 6, 3) := by decide +kernel
theorem dX5_makeUp_92 : decode cX5_makeUp 92 = .ok (.goto 10, 3) := by decide +kernel
theorem dX5_makeUp_95 : decode cX5_makeUp 95 = .ok (.iload 5, 2) := by decide +kernel
theorem dX5_makeUp_97 : decode cX5_makeUp 97 = .ok (.istore_n 3, 1) := by decide +kernel
theorem dX5_makeUp_98 : decode cX5_makeUp 98 = .ok (.iload 6, 2) := by decide +kernel
theorem dX5_makeUp_100 : decode cX5_makeUp 100 = .ok (.istore 4, 2) := by decide +kernel
theorem dX5_makeUp_102 : decode cX5_makeUp 102 = .ok (.iinc 5 1, 3) := by decide +kernel
theorem dX5_makeUp_105 : decode cX5_makeUp 105 = .ok (.goto (-54), 3) := by decide +kernel
theorem dX5_makeUp_108 : decode cX5_makeUp 108 = .ok (.iload_n 3, 1) := by decide +kernel
theorem dX5_makeUp_109 : decode cX5_makeUp 109 = .ok (.ireturn, 1) := by decide +kernel
theorem dX5_latePosted_0 : decode cX5_latePosted 0 = .ok (.aload_n 0, 1) := by decide +kernel
theorem dX5_latePosted_1 : decode cX5_latePosted 1 = .ok (.invokevirtual 245, 3) := by decide +kernel
theorem dX5_latePosted_4 : decode cX5_latePosted 4 = .ok (.aload_n 0, 1) := by decide +kernel
theorem dX5_latePosted_5 : decode cX5_latePosted 5 = .ok (.iload_n 2, 1) := by decide +kernel
theorem dX5_latePosted_6 : decode cX5_latePosted 6 = .ok (.invokevirtual 136, 3) := by decide +kernel
theorem dX5_latePosted_9 : decode cX5_latePosted 9 = .ok (.aload_n 0, 1) := by decide +kernel
theorem dX5_latePosted_10 : decode cX5_latePosted 10 = .ok (.iload_n 1, 1) := by decide +kernel
theorem dX5_latePosted_11 : decode cX5_latePosted 11 = .ok (.iconst 0, 1) := by decide +kernel
theorem dX5_latePosted_12 : decode cX5_latePosted 12 = .ok (.invokevirtual 119, 3) := by decide +kernel
theorem dX5_latePosted_15 : decode cX5_latePosted 15 = .ok (.aload_n 0, 1) := by decide +kernel
theorem dX5_latePosted_16 : decode cX5_latePosted 16 = .ok (.aload_n 0, 1) := by decide +kernel
theorem dX5_latePosted_17 : decode cX5_latePosted 17 = .ok (.getfield 74, 3) := by decide +kernel
theorem dX5_latePosted_20 : decode cX5_latePosted 20 = .ok (.iconst 1, 1) := by decide +kernel
theorem dX5_latePosted_21 : decode cX5_latePosted 21 = .ok (.isub, 1) := by decide +kernel
theorem dX5_latePosted_22 : decode cX5_latePosted 22 = .ok (.invokevirtual 233, 3) := by decide +kernel
theorem dX5_latePosted_25 : decode cX5_latePosted 25 = .ok (.iload_n 2, 1) := by decide +kernel
theorem dX5_latePosted_26 : decode cX5_latePosted 26 = .ok (.iadd, 1) := by decide +kernel
theorem dX5_latePosted_27 : decode cX5_latePosted 27 = .ok (.istore_n 3, 1) := by decide +kernel
theorem dX5_latePosted_28 : decode cX5_latePosted 28 = .ok (.aload_n 0, 1) := by decide +kernel
theorem dX5_latePosted_29 : decode cX5_latePosted 29 = .ok (.invokevirtual 248, 3) := by decide +kernel
theorem dX5_latePosted_32 : decode cX5_latePosted 32 = .ok (.iload_n 3, 1) := by decide +kernel
theorem dX5_latePosted_33 : decode cX5_latePosted 33 = .ok (.bipush 99, 2) := by decide +kernel
theorem dX5_latePosted_35 : decode cX5_latePosted 35 = .ok (.if_icmp .le 9, 3) := by decide +kernel
theorem dX5_latePosted_38 : decode cX5_latePosted 38 = .ok (.sipush 1000, 3) := by decide +kernel
theorem dX5_latePosted_41 : decode cX5_latePosted 41 = .ok (.goto 4, 3) := by decide +kernel
theorem dX5_latePosted_44 : decode cX5_latePosted 44 = .ok (.iload_n 3, 1) := by decide +kernel
theorem dX5_latePosted_45 : decode cX5_latePosted 45 = .ok (.ireturn, 1) := by decide +kernel
theorem dX5_post_0 : decode cX5_post 0 = .ok (.aload_n 0, 1) := by decide +kernel
theorem dX5_post_1 : decode cX5_post 1 = .ok (.iload_n 1, 1) := by decide +kernel
theorem dX5_post_2 : decode cX5_post 2 = .ok (.invokevirtual 70, 3) := by decide +kernel
theorem dX5_post_5 : decode cX5_post 5 = .ok (.ifCond .ne 7, 3) := by decide +kernel
theorem dX5_post_8 : decode cX5_post 8 = .ok (.iconst (-1), 1) := by decide +kernel
theorem dX5_post_9 : decode cX5_post 9 = .ok (.goto 18, 3) := by decide +kernel
theorem dX5_post_12 : decode cX5_post 12 = .ok (.iload_n 2, 1) := by decide +kernel
theorem dX5_post_13 : decode cX5_post 13 = .ok (.iconst 0, 1) := by decide +kernel
theorem dX5_post_14 : decode cX5_post 14 = .ok (.iconst 1, 1) := by decide +kernel
theorem dX5_post_15 : decode cX5_post 15 = .ok (.invokestatic 95, 3) := by decide +kernel
theorem dX5_post_18 : decode cX5_post 18 = .ok (.ifCond .ne 8, 3) := by decide +kernel
theorem dX5_post_21 : decode cX5_post 21 = .ok (.bipush (-2), 2) := by decide +kernel
theorem dX5_post_23 : decode cX5_post 23 = .ok (.goto 4, 3) := by decide +kernel
theorem dX5_post_26 : decode cX5_post 26 = .ok (.iconst 0, 1) := by decide +kernel
theorem dX5_post_27 : decode cX5_post 27 = .ok (.istore_n 3, 1) := by decide +kernel
theorem dX5_post_28 : decode cX5_post 28 = .ok (.iload_n 3, 1) := by decide +kernel
theorem dX5_post_29 : decode cX5_post 29 = .ok (.ifCond .eq 9, 3) := by decide +kernel
theorem dX5_post_32 : decode cX5_post 32 = .ok (.aload_n 0, 1) := by decide +kernel
theorem dX5_post_33 : decode cX5_post 33 = .ok (.iload_n 3, 1) := by decide +kernel
theorem dX5_post_34 : decode cX5_post 34 = .ok (.invokevirtual 84, 3) := by decide +kernel
theorem dX5_post_37 : decode cX5_post 37 = .ok (.ireturn, 1) := by decide +kernel
theorem dX5_post_38 : decode cX5_post 38 = .ok (.bipush (-9), 2) := by decide +kernel
theorem dX5_post_40 : decode cX5_post 40 = .ok (.istore 4, 2) := by decide +kernel
theorem dX5_post_42 : decode cX5_post 42 = .ok (.sipush 1000, 3) := by decide +kernel
theorem dX5_post_45 : decode cX5_post 45 = .ok (.istore 5, 2) := by decide +kernel
theorem dX5_post_47 : decode cX5_post 47 = .ok (.iconst 0, 1) := by decide +kernel
theorem dX5_post_48 : decode cX5_post 48 = .ok (.istore 6, 2) := by decide +kernel
theorem dX5_post_50 : decode cX5_post 50 = .ok (.iload 6, 2) := by decide +kernel
theorem dX5_post_52 : decode cX5_post 52 = .ok (.bipush 30, 2) := by decide +kernel
theorem dX5_post_54 : decode cX5_post 54 = .ok (.if_icmp .gt 45, 3) := by decide +kernel
theorem dX5_post_57 : decode cX5_post 57 = .ok (.aload_n 0, 1) := by decide +kernel
theorem dX5_post_58 : decode cX5_post 58 = .ok (.getfield 74, 3) := by decide +kernel
theorem dX5_post_61 : decode cX5_post 61 = .ok (.bipush 8, 2) := by decide +kernel
theorem dX5_post_63 : decode cX5_post 63 = .ok (.if_icmp .ge 36, 3) := by decide +kernel
theorem dX5_post_66 : decode cX5_post 66 = .ok (.aload_n 0, 1) := by decide +kernel
theorem dX5_post_67 : decode cX5_post 67 = .ok (.iload_n 1, 1) := by decide +kernel
theorem dX5_post_68 : decode cX5_post 68 = .ok (.iload 6, 2) := by decide +kernel
theorem dX5_post_70 : decode cX5_post 70 = .ok (.invokevirtual 260, 3) := by decide +kernel
theorem dX5_post_73 : decode cX5_post 73 = .ok (.istore 7, 2) := by decide +kernel
theorem dX5_post_75 : decode cX5_post 75 = .ok (.iload 7, 2) := by decide +kernel
theorem dX5_post_77 : decode cX5_post 77 = .ok (.iload 5, 2) := by decide +kernel
theorem dX5_post_79 : decode cX5_post 79 = .ok (.if_icmp .lt 6, 3) := by decide +kernel
theorem dX5_post_82 : decode cX5_post 82 = .ok (.goto 11, 3) := by decide +kernel
theorem dX5_post_85 : decode cX5_post 85 = .ok (.iload 6, 2) := by decide +kernel
theorem dX5_post_87 : decode cX5_post 87 = .ok (.istore 4, 2) := by decide +kernel
theorem dX5_post_89 : decode cX5_post 89 = .ok (.iload 7, 2) := by decide +kernel
theorem dX5_post_91 : decode cX5_post 91 = .ok (.istore 5, 2) := by decide +kernel
theorem dX5_post_93 : decode cX5_post 93 = .ok (.iinc 6 1, 3) := by decide +kernel
theorem dX5_post_96 : decode cX5_post 96 = .ok (.goto (-46), 3) := by decide +kernel
theorem dX5_post_99 : decode cX5_post 99 = .ok (.iload_n 2, 1) := by decide +kernel
theorem dX5_post_100 : decode cX5_post 100 = .ok (.ifCond .eq 8, 3) := by decide +kernel
theorem dX5_post_103 : decode cX5_post 103 = .ok (.iload 4, 2) := by decide +kernel
theorem dX5_post_105 : decode cX5_post 105 = .ok (.ifCond .ge 8, 3) := by decide +kernel
theorem dX5_post_108 : decode cX5_post 108 = .ok (.iload 4, 2) := by decide +kernel
theorem dX5_post_110 : decode cX5_post 110 = .ok (.goto 5, 3) := by decide +kernel
theorem dX5_post_113 : decode cX5_post 113 = .ok (.iload 5, 2) := by decide +kernel
theorem dX5_post_115 : decode cX5_post 115 = .ok (.ireturn, 1) := by decide +kernel
theorem dX5_road_0 : decode cX5_road 0 = .ok (.aload_n 0, 1) := by decide +kernel
theorem dX5_road_1 : decode cX5_road 1 = .ok (.iload_n 1, 1) := by decide +kernel
theorem dX5_road_2 : decode cX5_road 2 = .ok (.iload_n 2, 1) := by decide +kernel
theorem dX5_road_3 : decode cX5_road 3 = .ok (.invokevirtual 123, 3) := by decide +kernel
theorem dX5_road_6 : decode cX5_road 6 = .ok (.ifCond .eq 21, 3) := by decide +kernel
theorem dX5_road_9 : decode cX5_road 9 = .ok (.aload_n 0, 1) := by decide +kernel
theorem dX5_road_10 : decode cX5_road 10 = .ok (.getfield 19, 3) := by decide +kernel
theorem dX5_road_13 : decode cX5_road 13 = .ok (.iload_n 1, 1) := by decide +kernel
theorem dX5_road_14 : decode cX5_road 14 = .ok (.iaload, 1) := by decide +kernel
theorem dX5_road_15 : decode cX5_road 15 = .ok (.aload_n 0, 1) := by decide +kernel
theorem dX5_road_16 : decode cX5_road 16 = .ok (.getfield 19, 3) := by decide +kernel
theorem dX5_road_19 : decode cX5_road 19 = .ok (.iload_n 2, 1) := by decide +kernel
theorem dX5_road_20 : decode cX5_road 20 = .ok (.iaload, 1) := by decide +kernel
theorem dX5_road_21 : decode cX5_road 21 = .ok (.invokestatic 184, 3) := by decide +kernel
theorem dX5_road_24 : decode cX5_road 24 = .ok (.goto 8, 3) := by decide +kernel
theorem dX5_road_27 : decode cX5_road 27 = .ok (.aload_n 0, 1) := by decide +kernel
theorem dX5_road_28 : decode cX5_road 28 = .ok (.iconst (-1), 1) := by decide +kernel
theorem dX5_road_29 : decode cX5_road 29 = .ok (.invokevirtual 84, 3) := by decide +kernel
theorem dX5_road_32 : decode cX5_road 32 = .ok (.ireturn, 1) := by decide +kernel
theorem dX5_farthest_0 : decode cX5_farthest 0 = .ok (.bipush (-9), 2) := by decide +kernel
theorem dX5_farthest_2 : decode cX5_farthest 2 = .ok (.istore_n 1, 1) := by decide +kernel
theorem dX5_farthest_3 : decode cX5_farthest 3 = .ok (.bipush (-9), 2) := by decide +kernel
theorem dX5_farthest_5 : decode cX5_farthest 5 = .ok (.istore_n 2, 1) := by decide +kernel
theorem dX5_farthest_6 : decode cX5_farthest 6 = .ok (.iconst 0, 1) := by decide +kernel
theorem dX5_farthest_7 : decode cX5_farthest 7 = .ok (.istore_n 3, 1) := by decide +kernel
theorem dX5_farthest_8 : decode cX5_farthest 8 = .ok (.iload_n 3, 1) := by decide +kernel
theorem dX5_farthest_9 : decode cX5_farthest 9 = .ok (.aload_n 0, 1) := by decide +kernel
theorem dX5_farthest_10 : decode cX5_farthest 10 = .ok (.getfield 64, 3) := by decide +kernel
theorem dX5_farthest_13 : decode cX5_farthest 13 = .ok (.if_icmp .ge 77, 3) := by decide +kernel
theorem dX5_farthest_16 : decode cX5_farthest 16 = .ok (.iload_n 3, 1) := by decide +kernel
theorem dX5_farthest_17 : decode cX5_farthest 17 = .ok (.iconst 1, 1) := by decide +kernel
theorem dX5_farthest_18 : decode cX5_farthest 18 = .ok (.iadd, 1) := by decide +kernel
theorem dX5_farthest_19 : decode cX5_farthest 19 = .ok (.istore 4, 2) := by decide +kernel
theorem dX5_farthest_21 : decode cX5_farthest 21 = .ok (.iload 4, 2) := by decide +kernel
theorem dX5_farthest_23 : decode cX5_farthest 23 = .ok (.aload_n 0, 1) := by decide +kernel
theorem dX5_farthest_24 : decode cX5_farthest 24 = .ok (.getfield 64, 3) := by decide +kernel
theorem dX5_farthest_27 : decode cX5_farthest 27 = .ok (.if_icmp .ge 57, 3) := by decide +kernel
theorem dX5_farthest_30 : decode cX5_farthest 30 = .ok (.aload_n 0, 1) := by decide +kernel
theorem dX5_farthest_31 : decode cX5_farthest 31 = .ok (.getfield 19, 3) := by decide +kernel
theorem dX5_farthest_34 : decode cX5_farthest 34 = .ok (.iload_n 3, 1) := by decide +kernel
theorem dX5_farthest_35 : decode cX5_farthest 35 = .ok (.iaload, 1) := by decide +kernel
theorem dX5_farthest_36 : decode cX5_farthest 36 = .ok (.aload_n 0, 1) := by decide +kernel
theorem dX5_farthest_37 : decode cX5_farthest 37 = .ok (.getfield 19, 3) := by decide +kernel
theorem dX5_farthest_40 : decode cX5_farthest 40 = .ok (.iload 4, 2) := by decide +kernel
theorem dX5_farthest_42 : decode cX5_farthest 42 = .ok (.iaload, 1) := by decide +kernel
theorem dX5_farthest_43 : decode cX5_farthest 43 = .ok (.invokestatic 184, 3) := by decide +kernel
theorem dX5_farthest_46 : decode cX5_farthest 46 = .ok (.iload_n 2, 1) := by decide +kernel
theorem dX5_farthest_47 : decode cX5_farthest 47 = .ok (.if_icmp .gt 6, 3) := by decide +kernel
theorem dX5_farthest_50 : decode cX5_farthest 50 = .ok (.goto 28, 3) := by decide +kernel
theorem dX5_farthest_53 : decode cX5_farthest 53 = .ok (.bipush 10, 2) := by decide +kernel
theorem dX5_farthest_55 : decode cX5_farthest 55 = .ok (.iload_n 3, 1) := by decide +kernel
theorem dX5_farthest_56 : decode cX5_farthest 56 = .ok (.imul, 1) := by decide +kernel
theorem dX5_farthest_57 : decode cX5_farthest 57 = .ok (.iload 4, 2) := by decide +kernel
theorem dX5_farthest_59 : decode cX5_farthest 59 = .ok (.iadd, 1) := by decide +kernel
theorem dX5_farthest_60 : decode cX5_farthest 60 = .ok (.istore_n 1, 1) := by decide +kernel
theorem dX5_farthest_61 : decode cX5_farthest 61 = .ok (.aload_n 0, 1) := by decide +kernel
theorem dX5_farthest_62 : decode cX5_farthest 62 = .ok (.getfield 19, 3) := by decide +kernel
theorem dX5_farthest_65 : decode cX5_farthest 65 = .ok (.iload_n 3, 1) := by decide +kernel
theorem dX5_farthest_66 : decode cX5_farthest 66 = .ok (.iaload, 1) := by decide +kernel
theorem dX5_farthest_67 : decode cX5_farthest 67 = .ok (.aload_n 0, 1) := by decide +kernel
theorem dX5_farthest_68 : decode cX5_farthest 68 = .ok (.getfield 19, 3) := by decide +kernel
theorem dX5_farthest_71 : decode cX5_farthest 71 = .ok (.iload 4, 2) := by decide +kernel
theorem dX5_farthest_73 : decode cX5_farthest 73 = .ok (.iaload, 1) := by decide +kernel
theorem dX5_farthest_74 : decode cX5_farthest 74 = .ok (.invokestatic 184, 3) := by decide +kernel
theorem dX5_farthest_77 : decode cX5_farthest 77 = .ok (.istore_n 2, 1) := by decide +kernel
theorem dX5_farthest_78 : decode cX5_farthest 78 = .ok (.iinc 4 1, 3) := by decide +kernel
theorem dX5_farthest_81 : decode cX5_farthest 81 = .ok (.goto (-60), 3) := by decide +kernel
theorem dX5_farthest_84 : decode cX5_farthest 84 = .ok (.iinc 3 1, 3) := by decide +kernel
theorem dX5_farthest_87 : decode cX5_farthest 87 = .ok (.goto (-79), 3) := by decide +kernel
theorem dX5_farthest_90 : decode cX5_farthest 90 = .ok (.iload_n 1, 1) := by decide +kernel
theorem dX5_farthest_91 : decode cX5_farthest 91 = .ok (.ireturn, 1) := by decide +kernel
theorem dX5_maliceFor_0 : decode cX5_maliceFor 0 = .ok (.iconst 0, 1) := by decide +kernel
theorem dX5_maliceFor_1 : decode cX5_maliceFor 1 = .ok (.istore_n 2, 1) := by decide +kernel
theorem dX5_maliceFor_2 : decode cX5_maliceFor 2 = .ok (.iconst 0, 1) := by decide +kernel
theorem dX5_maliceFor_3 : decode cX5_maliceFor 3 = .ok (.istore_n 3, 1) := by decide +kernel
theorem dX5_maliceFor_4 : decode cX5_maliceFor 4 = .ok (.iload_n 3, 1) := by decide +kernel
theorem dX5_maliceFor_5 : decode cX5_maliceFor 5 = .ok (.aload_n 0, 1) := by decide +kernel
theorem dX5_maliceFor_6 : decode cX5_maliceFor 6 = .ok (.getfield 64, 3) := by decide +kernel
theorem dX5_maliceFor_9 : decode cX5_maliceFor 9 = .ok (.if_icmp .ge 27, 3) := by decide +kernel
theorem dX5_maliceFor_12 : decode cX5_maliceFor 12 = .ok (.iload_n 2, 1) := by decide +kernel
theorem dX5_maliceFor_13 : decode cX5_maliceFor 13 = .ok (.iload_n 3, 1) := by decide +kernel
theorem dX5_maliceFor_14 : decode cX5_maliceFor 14 = .ok (.iload_n 1, 1) := by decide +kernel
theorem dX5_maliceFor_15 : decode cX5_maliceFor 15 = .ok (.if_icmp .ne 7, 3) := by decide +kernel
theorem dX5_maliceFor_18 : decode cX5_maliceFor 18 = .ok (.iconst 0, 1) := by decide +kernel
theorem dX5_maliceFor_19 : decode cX5_maliceFor 19 = .ok (.goto 9, 3) := by decide +kernel
theorem dX5_maliceFor_22 : decode cX5_maliceFor 22 = .ok (.aload_n 0, 1) := by decide +kernel
theorem dX5_maliceFor_23 : decode cX5_maliceFor 23 = .ok (.iload_n 3, 1) := by decide +kernel
theorem dX5_maliceFor_24 : decode cX5_maliceFor 24 = .ok (.iload_n 1, 1) := by decide +kernel
theorem dX5_maliceFor_25 : decode cX5_maliceFor 25 = .ok (.invokevirtual 187, 3) := by decide +kernel
theorem dX5_maliceFor_28 : decode cX5_maliceFor 28 = .ok (.iadd, 1) := by decide +kernel
theorem dX5_maliceFor_29 : decode cX5_maliceFor 29 = .ok (.istore_n 2, 1) := by decide +kernel
