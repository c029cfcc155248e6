theorem dX4_duchy_32 : decode cX4_duchy 32 = .ok (.aload_n 0, 1) := by decide +kernel
theorem dX4_duchy_33 : decode cX4_duchy 33 = .ok (.getfield 33, 3) := by decide +kernel
theorem dX4_duchy_36 : decode cX4_duchy 36 = .ok (.getfield 52, 3) := by decide +kernel
theorem dX4_duchy_39 : decode cX4_duchy 39 = .ok (.if_icmp .ge 40, 3) := by decide +kernel
theorem dX4_duchy_42 : decode cX4_duchy 42 = .ok (.aload_n 0, 1) := by decide +kernel
theorem dX4_duchy_43 : decode cX4_duchy 43 = .ok (.getfield 33, 3) := by decide +kernel
theorem dX4_duchy_46 : decode cX4_duchy 46 = .ok (.iload 4, 2) := by decide +kernel
theorem dX4_duchy_48 : decode cX4_duchy 48 = .ok (.aload_n 2, 1) := by decide +kernel
theorem dX4_duchy_49 : decode cX4_duchy 49 = .ok (.invokevirtual 68, 3) := by decide +kernel
theorem dX4_duchy_52 : decode cX4_duchy 52 = .ok (.ifCond .eq 27, 3) := by decide +kernel
theorem dX4_duchy_55 : decode cX4_duchy 55 = .ok (.iload 4, 2) := by decide +kernel
theorem dX4_duchy_57 : decode cX4_duchy 57 = .ok (.iconst 1, 1) := by decide +kernel
theorem dX4_duchy_58 : decode cX4_duchy 58 = .ok (.aload_n 0, 1) := by decide +kernel
theorem dX4_duchy_59 : decode cX4_duchy 59 = .ok (.getfield 33, 3) := by decide +kernel
theorem dX4_duchy_62 : decode cX4_duchy 62 = .ok (.iload 4, 2) := by decide +kernel
theorem dX4_duchy_64 : decode cX4_duchy 64 = .ok (.invokevirtual 72, 3) := by decide +kernel
theorem dX4_duchy_67 : decode cX4_duchy 67 = .ok (.invokestatic 75, 3) := by decide +kernel
theorem dX4_duchy_70 : decode cX4_duchy 70 = .ok (.iadd, 1) := by decide +kernel
theorem dX4_duchy_71 : decode cX4_duchy 71 = .ok (.istore 4, 2) := by decide +kernel
theorem dX4_duchy_73 : decode cX4_duchy 73 = .ok (.iinc 3 1, 3) := by decide +kernel
theorem dX4_duchy_76 : decode cX4_duchy 76 = .ok (.goto (-50), 3) := by decide +kernel
theorem dX4_duchy_79 : decode cX4_duchy 79 = .ok (.iload 4, 2) := by decide +kernel
theorem dX4_duchy_81 : decode cX4_duchy 81 = .ok (.aload_n 0, 1) := by decide +kernel
theorem dX4_duchy_82 : decode cX4_duchy 82 = .ok (.getfield 33, 3) := by decide +kernel
theorem dX4_duchy_85 : decode cX4_duchy 85 = .ok (.getfield 52, 3) := by decide +kernel
theorem dX4_duchy_88 : decode cX4_duchy 88 = .ok (.if_icmp .lt 7, 3) := by decide +kernel
theorem dX4_duchy_91 : decode cX4_duchy 91 = .ok (.iconst 1, 1) := by decide +kernel
theorem dX4_duchy_92 : decode cX4_duchy 92 = .ok (.goto 4, 3) := by decide +kernel
theorem dX4_duchy_95 : decode cX4_duchy 95 = .ok (.iconst 0, 1) := by decide +kernel
theorem dX4_duchy_96 : decode cX4_duchy 96 = .ok (.istore 5, 2) := by decide +kernel
theorem dX4_duchy_98 : decode cX4_duchy 98 = .ok (.aload_n 0, 1) := by decide +kernel
theorem dX4_duchy_99 : decode cX4_duchy 99 = .ok (.getfield 33, 3) := by decide +kernel
theorem dX4_duchy_102 : decode cX4_duchy 102 = .ok (.iconst 0, 1) := by decide +kernel
theorem dX4_duchy_103 : decode cX4_duchy 103 = .ok (.putfield 52, 3) := by decide +kernel
theorem dX4_duchy_106 : decode cX4_duchy 106 = .ok (.iload_n 1, 1) := by decide +kernel
theorem dX4_duchy_107 : decode cX4_duchy 107 = .ok (.ifCond .lt 9, 3) := by decide +kernel
theorem dX4_duchy_110 : decode cX4_duchy 110 = .ok (.sipush (-1000), 3) := by decide +kernel
theorem dX4_duchy_113 : decode cX4_duchy 113 = .ok (.iload_n 1, 1) := by decide +kernel
theorem dX4_duchy_114 : decode cX4_duchy 114 = .ok (.isub, 1) := by decide +kernel
theorem dX4_duchy_115 : decode cX4_duchy 115 = .ok (.ireturn, 1) := by decide +kernel
theorem dX4_duchy_116 : decode cX4_duchy 116 = .ok (.iload 5, 2) := by decide +kernel
theorem dX4_duchy_118 : decode cX4_duchy 118 = .ok (.ifCond .ne 10, 3) := by decide +kernel
theorem dX4_duchy_121 : decode cX4_duchy 121 = .ok (.sipush (-2000), 3) := by decide +kernel
theorem dX4_duchy_124 : decode cX4_duchy 124 = .ok (.iload 4, 2) := by decide +kernel
theorem dX4_duchy_126 : decode cX4_duchy 126 = .ok (.isub, 1) := by decide +kernel
theorem dX4_duchy_127 : decode cX4_duchy 127 = .ok (.ireturn, 1) := by decide +kernel
theorem dX4_duchy_128 : decode cX4_duchy 128 = .ok (.aload_n 0, 1) := by decide +kernel
theorem dX4_duchy_129 : decode cX4_duchy 129 = .ok (.getfield 10, 3) := by decide +kernel
theorem dX4_duchy_132 : decode cX4_duchy 132 = .ok (.aload_n 2, 1) := by decide +kernel
theorem dX4_duchy_133 : decode cX4_duchy 133 = .ok (.invokevirtual 81, 3) := by decide +kernel
theorem dX4_duchy_136 : decode cX4_duchy 136 = .ok (.iload_n 3, 1) := by decide +kernel
theorem dX4_duchy_137 : decode cX4_duchy 137 = .ok (.ireturn, 1) := by decide +kernel
theorem dX4_person_0 : decode cX4_person 0 = .ok (.aload_n 0, 1) := by decide +kernel
theorem dX4_person_1 : decode cX4_person 1 = .ok (.getfield 10, 3) := by decide +kernel
theorem dX4_person_4 : decode cX4_person 4 = .ok (.iload_n 1, 1) := by decide +kernel
theorem dX4_person_5 : decode cX4_person 5 = .ok (.invokevirtual 85, 3) := by decide +kernel
theorem dX4_person_8 : decode cX4_person 8 = .ok (.ifCond .ne 9, 3) := by decide +kernel
theorem dX4_person_11 : decode cX4_person 11 = .ok (.aload_n 0, 1) := by decide +kernel
theorem dX4_person_12 : decode cX4_person 12 = .ok (.iconst (-1), 1) := by decide +kernel
theorem dX4_person_13 : decode cX4_person 13 = .ok (.invokevirtual 48, 3) := by decide +kernel
theorem dX4_person_16 : decode cX4_person 16 = .ok (.ireturn, 1) := by decide +kernel
theorem dX4_person_17 : decode cX4_person 17 = .ok (.iload_n 2, 1) := by decide +kernel
theorem dX4_person_18 : decode cX4_person 18 = .ok (.ifCond .lt 8, 3) := by decide +kernel
theorem dX4_person_21 : decode cX4_person 21 = .ok (.iload_n 2, 1) := by decide +kernel
theorem dX4_person_22 : decode cX4_person 22 = .ok (.iconst 5, 1) := by decide +kernel
theorem dX4_person_23 : decode cX4_person 23 = .ok (.if_icmp .le 10, 3) := by decide +kernel
theorem dX4_person_26 : decode cX4_person 26 = .ok (.aload_n 0, 1) := by decide +kernel
theorem dX4_person_27 : decode cX4_person 27 = .ok (.bipush (-2), 2) := by decide +kernel
theorem dX4_person_29 : decode cX4_person 29 = .ok (.invokevirtual 48, 3) := by decide +kernel
theorem dX4_person_32 : decode cX4_person 32 = .ok (.ireturn, 1) := by decide +kernel
theorem dX4_person_33 : decode cX4_person 33 = .ok (.aload_n 0, 1) := by decide +kernel
theorem dX4_person_34 : decode cX4_person 34 = .ok (.getfield 10, 3) := by decide +kernel
theorem dX4_person_37 : decode cX4_person 37 = .ok (.iload_n 1, 1) := by decide +kernel
theorem dX4_person_38 : decode cX4_person 38 = .ok (.iload_n 2, 1) := by decide +kernel
theorem dX4_person_39 : decode cX4_person 39 = .ok (.invokevirtual 89, 3) := by decide +kernel
theorem dX4_person_42 : decode cX4_person 42 = .ok (.ireturn, 1) := by decide +kernel
theorem dX4_parcel_0 : decode cX4_parcel 0 = .ok (.aload_n 0, 1) := by decide +kernel
theorem dX4_parcel_1 : decode cX4_parcel 1 = .ok (.getfield 10, 3) := by decide +kernel
theorem dX4_parcel_4 : decode cX4_parcel 4 = .ok (.iload_n 1, 1) := by decide +kernel
theorem dX4_parcel_5 : decode cX4_parcel 5 = .ok (.invokevirtual 92, 3) := by decide +kernel
theorem dX4_parcel_8 : decode cX4_parcel 8 = .ok (.ifCond .ne 9, 3) := by decide +kernel
theorem dX4_parcel_11 : decode cX4_parcel 11 = .ok (.aload_n 0, 1) := by decide +kernel
theorem dX4_parcel_12 : decode cX4_parcel 12 = .ok (.iconst (-1), 1) := by decide +kernel
theorem dX4_parcel_13 : decode cX4_parcel 13 = .ok (.invokevirtual 48, 3) := by decide +kernel
theorem dX4_parcel_16 : decode cX4_parcel 16 = .ok (.ireturn, 1) := by decide +kernel
theorem dX4_parcel_17 : decode cX4_parcel 17 = .ok (.iload_n 2, 1) := by decide +kernel
theorem dX4_parcel_18 : decode cX4_parcel 18 = .ok (.ifCond .lt 8, 3) := by decide +kernel
theorem dX4_parcel_21 : decode cX4_parcel 21 = .ok (.iload_n 2, 1) := by decide +kernel
theorem dX4_parcel_22 : decode cX4_parcel 22 = .ok (.iconst 4, 1) := by decide +kernel
theorem dX4_parcel_23 : decode cX4_parcel 23 = .ok (.if_icmp .le 10, 3) := by decide +kernel
theorem dX4_parcel_26 : decode cX4_parcel 26 = .ok (.aload_n 0, 1) := by decide +kernel
theorem dX4_parcel_27 : decode cX4_parcel 27 = .ok (.bipush (-2), 2) := by decide +kernel
theorem dX4_parcel_29 : decode cX4_parcel 29 = .ok (.invokevirtual 48, 3) := by decide +kernel
theorem dX4_parcel_32 : decode cX4_parcel 32 = .ok (.ireturn, 1) := by decide +kernel
theorem dX4_parcel_33 : decode cX4_parcel 33 = .ok (.aload_n 0, 1) := by decide +kernel
theorem dX4_parcel_34 : decode cX4_parcel 34 = .ok (.getfield 10, 3) := by decide +kernel
theorem dX4_parcel_37 : decode cX4_parcel 37 = .ok (.iload_n 1, 1) := by decide +kernel
theorem dX4_parcel_38 : decode cX4_parcel 38 = .ok (.iload_n 2, 1) := by decide +kernel
theorem dX4_parcel_39 : decode cX4_parcel 39 = .ok (.invokevirtual 95, 3) := by decide +kernel
theorem dX4_parcel_42 : decode cX4_parcel 42 = .ok (.ireturn, 1) := by decide +kernel
theorem dX4_hate_0 : decode cX4_hate 0 = .ok (.aload_n 0, 1) := by decide +kernel
theorem dX4_hate_1 : decode cX4_hate 1 = .ok (.getfield 10, 3) := by decide +kernel
theorem dX4_hate_4 : decode cX4_hate 4 = .ok (.iload_n 1, 1) := by decide +kernel
theorem dX4_hate_5 : decode cX4_hate 5 = .ok (.iload_n 2, 1) := by decide +kernel
theorem dX4_hate_6 : decode cX4_hate 6 = .ok (.invokevirtual 98, 3) := by decide +kernel
theorem dX4_hate_9 : decode cX4_hate 9 = .ok (.ifCond .ne 9, 3) := by decide +kernel
theorem dX4_hate_12 : decode cX4_hate 12 = .ok (.aload_n 0, 1) := by decide +kernel
theorem dX4_hate_13 : decode cX4_hate 13 = .ok (.iconst (-1), 1) := by decide +kernel
theorem dX4_hate_14 : decode cX4_hate 14 = .ok (.invokevirtual 48, 3) := by decide +kernel
theorem dX4_hate_17 : decode cX4_hate 17 = .ok (.ireturn, 1) := by decide +kernel
theorem dX4_hate_18 : decode cX4_hate 18 = .ok (.aload_n 0, 1) := by decide +kernel
theorem dX4_hate_19 : decode cX4_hate 19 = .ok (.getfield 10, 3) := by decide +kernel
theorem dX4_hate_22 : decode cX4_hate 22 = .ok (.iload_n 1, 1) := by decide +kernel
theorem dX4_hate_23 : decode cX4_hate 23 = .ok (.iload_n 2, 1) := by decide +kernel
theorem dX4_hate_24 : decode cX4_hate 24 = .ok (.invokevirtual 102, 3) := by decide +kernel
theorem dX4_hate_27 : decode cX4_hate 27 = .ok (.ireturn, 1) := by decide +kernel
theorem dX4_posts_0 : decode cX4_posts 0 = .ok (.aload_n 0, 1) := by decide +kernel
theorem dX4_posts_1 : decode cX4_posts 1 = .ok (.getfield 10, 3) := by decide +kernel
theorem dX4_posts_4 : decode cX4_posts 4 = .ok (.iload_n 1, 1) := by decide +kernel
theorem dX4_posts_5 : decode cX4_posts 5 = .ok (.invokevirtual 85, 3) := by decide +kernel
theorem dX4_posts_8 : decode cX4_posts 8 = .ok (.ifCond .ne 9, 3) := by decide +kernel
theorem dX4_posts_11 : decode cX4_posts 11 = .ok (.aload_n 0, 1) := by decide +kernel
theorem dX4_posts_12 : decode cX4_posts 12 = .ok (.iconst (-1), 1) := by decide +kernel
theorem dX4_posts_13 : decode cX4_posts 13 = .ok (.invokevirtual 48, 3) := by decide +kernel
theorem dX4_posts_16 : decode cX4_posts 16 = .ok (.ireturn, 1) := by decide +kernel
theorem dX4_posts_17 : decode cX4_posts 17 = .ok (.iload_n 2, 1) := by decide +kernel
theorem dX4_posts_18 : decode cX4_posts 18 = .ok (.ifCond .ge 10, 3) := by decide +kernel
theorem dX4_posts_21 : decode cX4_posts 21 = .ok (.aload_n 0, 1) := by decide +kernel
theorem dX4_posts_22 : decode cX4_posts 22 = .ok (.bipush (-4), 2) := by decide +kernel
theorem dX4_posts_24 : decode cX4_posts 24 = .ok (.invokevirtual 48, 3) := by decide +kernel
theorem dX4_posts_27 : decode cX4_posts 27 = .ok (.ireturn, 1) := by decide +kernel
theorem dX4_posts_28 : decode cX4_posts 28 = .ok (.iload_n 2, 1) := by decide +kernel
theorem dX4_posts_29 : decode cX4_posts 29 = .ok (.bipush 9, 2) := by decide +kernel
theorem dX4_posts_31 : decode cX4_posts 31 = .ok (.if_icmp .gt 15, 3) := by decide +kernel
theorem dX4_posts_34 : decode cX4_posts 34 = .ok (.aload_n 0, 1) := by decide +kernel
theorem dX4_posts_35 : decode cX4_posts 35 = .ok (.getfield 10, 3) := by decide +kernel
theorem dX4_posts_38 : decode cX4_posts 38 = .ok (.getfield 105, 3) := by decide +kernel
theorem dX4_posts_41 : decode cX4_posts 41 = .ok (.bipush 8, 2) := by decide +kernel
theorem dX4_posts_43 : decode cX4_posts 43 = .ok (.if_icmp .lt 10, 3) := by decide +kernel
theorem dX4_posts_46 : decode cX4_posts 46 = .ok (.aload_n 0, 1) := by decide +kernel
theorem dX4_posts_47 : decode cX4_posts 47 = .ok (.bipush (-6), 2) := by decide +kernel
theorem dX4_posts_49 : decode cX4_posts 49 = .ok (.invokevirtual 48, 3) := by decide +kernel
theorem dX4_posts_52 : decode cX4_posts 52 = .ok (.ireturn, 1) := by decide +kernel
theorem dX4_posts_53 : decode cX4_posts 53 = .ok (.aload_n 0, 1) := by decide +kernel
theorem dX4_posts_54 : decode cX4_posts 54 = .ok (.getfield 10, 3) := by decide +kernel
theorem dX4_posts_57 : decode cX4_posts 57 = .ok (.iload_n 1, 1) := by decide +kernel
theorem dX4_posts_58 : decode cX4_posts 58 = .ok (.iload_n 2, 1) := by decide +kernel
theorem dX4_posts_59 : decode cX4_posts 59 = .ok (.invokevirtual 108, 3) := by decide +kernel
theorem dX4_posts_62 : decode cX4_posts 62 = .ok (.pop, 1) := by decide +kernel
theorem dX4_posts_63 : decode cX4_posts 63 = .ok (.aload_n 0, 1) := by decide +kernel
theorem dX4_posts_64 : decode cX4_posts 64 = .ok (.getfield 10, 3) := by decide +kernel
theorem dX4_posts_67 : decode cX4_posts 67 = .ok (.getfield 105, 3) := by decide +kernel
theorem dX4_posts_70 : decode cX4_posts 70 = .ok (.iconst 1, 1) := by decide +kernel
theorem dX4_posts_71 : decode cX4_posts 71 = .ok (.isub, 1) := by decide +kernel
theorem dX4_posts_72 : decode cX4_posts 72 = .ok (.ireturn, 1) := by decide +kernel
theorem dX4_hates_0 : decode cX4_hates 0 = .ok (.aload_n 0, 1) := by decide +kernel
theorem dX4_hates_1 : decode cX4_hates 1 = .ok (.getfield 10, 3) := by decide +kernel
theorem dX4_hates_4 : decode cX4_hates 4 = .ok (.iload_n 1, 1) := by decide +kernel
theorem dX4_hates_5 : decode cX4_hates 5 = .ok (.iload_n 2, 1) := by decide +kernel
theorem dX4_hates_6 : decode cX4_hates 6 = .ok (.invokevirtual 98, 3) := by decide +kernel
theorem dX4_hates_9 : decode cX4_hates 9 = .ok (.ifCond .ne 9, 3) := by decide +kernel
theorem dX4_hates_12 : decode cX4_hates 12 = .ok (.aload_n 0, 1) := by decide +kernel
theorem dX4_hates_13 : decode cX4_hates 13 = .ok (.iconst (-1), 1) := by decide +kernel
theorem dX4_hates_14 : decode cX4_hates 14 = .ok (.invokevirtual 48, 3) := by decide +kernel
theorem dX4_hates_17 : decode cX4_hates 17 = .ok (.ireturn, 1) := by decide +kernel
theorem dX4_hates_18 : decode cX4_hates 18 = .ok (.iload_n 3, 1) := by decide +kernel
theorem dX4_hates_19 : decode cX4_hates 19 = .ok (.ifCond .ge 10, 3) := by decide +kernel
theorem dX4_hates_22 : decode cX4_hates 22 = .ok (.aload_n 0, 1) := by decide +kernel
theorem dX4_hates_23 : decode cX4_hates 23 = .ok (.bipush (-4), 2) := by decide +kernel
theorem dX4_hates_25 : decode cX4_hates 25 = .ok (.invokevirtual 48, 3) := by decide +kernel
theorem dX4_hates_28 : decode cX4_hates 28 = .ok (.ireturn, 1) := by decide +kernel
theorem dX4_hates_29 : decode cX4_hates 29 = .ok (.iload_n 3, 1) := by decide +kernel
theorem dX4_hates_30 : decode cX4_hates 30 = .ok (.bipush 99, 2) := by decide +kernel
theorem dX4_hates_32 : decode cX4_hates 32 = .ok (.if_icmp .le 10, 3) := by decide +kernel
theorem dX4_hates_35 : decode cX4_hates 35 = .ok (.aload_n 0, 1) := by decide +kernel
theorem dX4_hates_36 : decode cX4_hates 36 = .ok (.bipush (-6), 2) := by decide +kernel
theorem dX4_hates_38 : decode cX4_hates 38 = .ok (.invokevirtual 48, 3) := by decide +kernel
theorem dX4_hates_41 : decode cX4_hates 41 = .ok (.ireturn, 1) := by decide +kernel
theorem dX4_hates_42 : decode cX4_hates 42 = .ok (.aload_n 0, 1) := by decide +kernel
theorem dX4_hates_43 : decode cX4_hates 43 = .ok (.getfield 10, 3) := by decide +kernel
theorem dX4_hates_46 : decode cX4_hates 46 = .ok (.iload_n 1, 1) := by decide +kernel
theorem dX4_hates_47 : decode cX4_hates 47 = .ok (.iload_n 2, 1) := by decide +kernel
theorem dX4_hates_48 : decode cX4_hates 48 = .ok (.invokevirtual 102, 3) := by decide +kernel
theorem dX4_hates_51 : decode cX4_hates 51 = .ok (.istore 4, 2) := by decide +kernel
theorem dX4_hates_53 : decode cX4_hates 53 = .ok (.aload_n 0, 1) := by decide +kernel
theorem dX4_hates_54 : decode cX4_hates 54 = .ok (.getfield 10, 3) := by decide +kernel
theorem dX4_hates_57 : decode cX4_hates 57 = .ok (.iload_n 1, 1) := by decide +kernel
theorem dX4_hates_58 : decode cX4_hates 58 = .ok (.iload_n 2, 1) := by decide +kernel
theorem dX4_hates_59 : decode cX4_hates 59 = .ok (.iload_n 3, 1) := by decide +kernel
theorem dX4_hates_60 : decode cX4_hates 60 = .ok (.invokevirtual 111, 3) := by decide +kernel
theorem dX4_hates_63 : decode cX4_hates 63 = .ok (.pop, 1) := by decide +kernel
theorem dX4_hates_64 : decode cX4_hates 64 = .ok (.iload 4, 2) := by decide +kernel
theorem dX4_hates_66 : decode cX4_hates 66 = .ok (.ireturn, 1) := by decide +kernel
theorem dX4_slights_0 : decode cX4_slights 0 = .ok (.aload_n 0, 1) := by decide +kernel
theorem dX4_slights_1 : decode cX4_slights 1 = .ok (.getfield 10, 3) := by decide +kernel
theorem dX4_slights_4 : decode cX4_slights 4 = .ok (.iload_n 1, 1) := by decide +kernel
theorem dX4_slights_5 : decode cX4_slights 5 = .ok (.iload_n 2, 1) := by decide +kernel
theorem dX4_slights_6 : decode cX4_slights 6 = .ok (.invokevirtual 98, 3) := by decide +kernel
theorem dX4_slights_9 : decode cX4_slights 9 = .ok (.ifCond .ne 9, 3) := by decide +kernel
theorem dX4_slights_12 : decode cX4_slights 12 = .ok (.aload_n 0, 1) := by decide +kernel
theorem dX4_slights_13 : decode cX4_slights 13 = .ok (.iconst (-1), 1) := by decide +kernel
theorem dX4_slights_14 : decode cX4_slights 14 = .ok (.invokevirtual 48, 3) := by decide +kernel
theorem dX4_slights_17 : decode cX4_slights 17 = .ok (.ireturn, 1) := by decide +kernel
theorem dX4_slights_18 : decode cX4_slights 18 = .ok (.aload_n 0, 1) := by decide +kernel
theorem dX4_slights_19 : decode cX4_slights 19 = .ok (.getfield 10, 3) := by decide +kernel
theorem dX4_slights_22 : decode cX4_slights 22 = .ok (.iload_n 1, 1) := by decide +kernel
theorem dX4_slights_23 : decode cX4_slights 23 = .ok (.iload_n 2, 1) := by decide +kernel
theorem dX4_slights_24 : decode cX4_slights 24 = .ok (.bipush 10, 2) := by decide +kernel
theorem dX4_slights_26 : decode cX4_slights 26 = .ok (.invokevirtual 115, 3) := by decide +kernel
theorem dX4_slights_29 : decode cX4_slights 29 = .ok (.pop, 1) := by decide +kernel
theorem dX4_slights_30 : decode cX4_slights 30 = .ok (.aload_n 0, 1) := by decide +kernel
theorem dX4_slights_31 : decode cX4_slights 31 = .ok (.getfield 10, 3) := by decide +kernel
theorem dX4_slights_34 : decode cX4_slights 34 = .ok (.iload_n 1, 1) := by decide +kernel
theorem dX4_slights_35 : decode cX4_slights 35 = .ok (.iload_n 2, 1) := by decide +kernel
theorem dX4_slights_36 : decode cX4_slights 36 = .ok (.invokevirtual 102, 3) := by decide +kernel
theorem dX4_slights_39 : decode cX4_slights 39 = .ok (.ireturn, 1) := by decide +kernel
theorem dX4_peace_0 : decode cX4_peace 0 = .ok (.aload_n 0, 1) := by decide +kernel
theorem dX4_peace_1 : decode cX4_peace 1 = .ok (.getfield 10, 3) := by decide +kernel
theorem dX4_peace_4 : decode cX4_peace 4 = .ok (.iload_n 1, 1) := by decide +kernel
theorem dX4_peace_5 : decode cX4_peace 5 = .ok (.iload_n 2, 1) := by decide +kernel
theorem dX4_peace_6 : decode cX4_peace 6 = .ok (.invokevirtual 98, 3) := by decide +kernel
theorem dX4_peace_9 : decode cX4_peace 9 = .ok (.ifCond .ne 9, 3) := by decide +kernel
theorem dX4_peace_12 : decode cX4_peace 12 = .ok (.aload_n 0, 1) := by decide +kernel
theorem dX4_peace_13 : decode cX4_peace 13 = .ok (.iconst (-1), 1) := by decide +kernel
theorem dX4_peace_14 : decode cX4_peace 14 = .ok (.invokevirtual 48, 3) := by decide +kernel
theorem dX4_peace_17 : decode cX4_peace 17 = .ok (.ireturn, 1) := by decide +kernel
theorem dX4_peace_18 : decode cX4_peace 18 = .ok (.aload_n 0, 1) := by decide +kernel
theorem dX4_peace_19 : decode cX4_peace 19 = .ok (.getfield 10, 3) := by decide +kernel
theorem dX4_peace_22 : decode cX4_peace 22 = .ok (.iload_n 1, 1) := by decide +kernel
theorem dX4_peace_23 : decode cX4_peace 23 = .ok (.iload_n 2, 1) := by decide +kernel
theorem dX4_peace_24 : decode cX4_peace 24 = .ok (.invokevirtual 118, 3) := by decide +kernel
theorem dX4_peace_27 : decode cX4_peace 27 = .ok (.pop, 1) := by decide +kernel
theorem dX4_peace_28 : decode cX4_peace 28 = .ok (.aload_n 0, 1) := by decide +kernel
theorem dX4_peace_29 : decode cX4_peace 29 = .ok (.getfield 10, 3) := by decide +kernel
theorem dX4_peace_32 : decode cX4_peace 32 = .ok (.iload_n 1, 1) := by decide +kernel
theorem dX4_peace_33 : decode cX4_peace 33 = .ok (.iload_n 2, 1) := by decide +kernel
theorem dX4_peace_34 : decode cX4_peace 34 = .ok (.invokevirtual 102, 3) := by decide +kernel
theorem dX4_peace_37 : decode cX4_peace 37 = .ok (.aload_n 0, 1) := by decide +kernel
theorem dX4_peace_38 : decode cX4_peace 38 = .ok (.getfield 10, 3) := by decide +kernel
theorem dX4_peace_41 : decode cX4_peace 41 = .ok (.iload_n 2, 1) := by decide +kernel
theorem dX4_peace_42 : decode cX4_peace 42 = .ok (.iload_n 1, 1) := by decide +kernel
theorem dX4_peace_43 : decode cX4_peace 43 = .ok (.invokevirtual 102, 3) := by decide +kernel
theorem dX4_peace_46 : decode cX4_peace 46 = .ok (.iadd, 1) := by decide +kernel
theorem dX4_peace_47 : decode cX4_peace 47 = .ok (.ireturn, 1) := by decide +kernel
theorem dX4_moves_0 : decode cX4_moves 0 = .ok (.aload_n 0, 1) := by decide +kernel
theorem dX4_moves_1 : decode cX4_moves 1 = .ok (.getfield 10, 3) := by decide +kernel
theorem dX4_moves_4 : decode cX4_moves 4 = .ok (.iload_n 1, 1) := by decide +kernel
theorem dX4_moves_5 : decode cX4_moves 5 = .ok (.invokevirtual 85, 3) := by decide +kernel
theorem dX4_moves_8 : decode cX4_moves 8 = .ok (.ifCond .ne 9, 3) := by decide +kernel
theorem dX4_moves_11 : decode cX4_moves 11 = .ok (.aload_n 0, 1) := by decide +kernel
theorem dX4_moves_12 : decode cX4_moves 12 = .ok (.iconst (-1), 1) := by decide +kernel
theorem dX4_moves_13 : decode cX4_moves 13 = .ok (.invokevirtual 48, 3) := by decide +kernel
theorem dX4_moves_16 : decode cX4_moves 16 = .ok (.ireturn, 1) := by decide +kernel
theorem dX4_moves_17 : decode cX4_moves 17 = .ok (.iload_n 2, 1) := by decide +kernel
theorem dX4_moves_18 : decode cX4_moves 18 = .ok (.ifCond .ge 10, 3) := by decide +kernel
theorem dX4_moves_21 : decode cX4_moves 21 = .ok (.aload_n 0, 1) := by decide +kernel
theorem dX4_moves_22 : decode cX4_moves 22 = .ok (.bipush (-4), 2) := by decide +kernel
theorem dX4_moves_24 : decode cX4_moves 24 = .ok (.invokevirtual 48, 3) := by decide +kernel
theorem dX4_moves_27 : decode cX4_moves 27 = .ok (.ireturn, 1) := by decide +kernel
theorem dX4_moves_28 : decode cX4_moves 28 = .ok (.iload_n 2, 1) := by decide +kernel
theorem dX4_moves_29 : decode cX4_moves 29 = .ok (.bipush 30, 2) := by decide +kernel
theorem dX4_moves_31 : decode cX4_moves 31 = .ok (.if_icmp .le 10, 3) := by decide +kernel
theorem dX4_moves_34 : decode cX4_moves 34 = .ok (.aload_n 0, 1) := by decide +kernel
theorem dX4_moves_35 : decode cX4_moves 35 = .ok (.bipush (-6), 2) := by decide +kernel
theorem dX4_moves_37 : decode cX4_moves 37 = .ok (.invokevirtual 48, 3) := by decide +kernel
theorem dX4_moves_40 : decode cX4_moves 40 = .ok (.ireturn, 1) := by decide +kernel
theorem dX4_moves_41 : decode cX4_moves 41 = .ok (.aload_n 0, 1) := by decide +kernel
theorem dX4_moves_42 : decode cX4_moves 42 = .ok (.getfield 10, 3) := by decide +kernel
theorem dX4_moves_45 : decode cX4_moves 45 = .ok (.getfield 121, 3) := by decide +kernel
theorem dX4_moves_48 : decode cX4_moves 48 = .ok (.iload_n 1, 1) := by decide +kernel
theorem dX4_moves_49 : decode cX4_moves 49 = .ok (.iaload, 1) := by decide +kernel
theorem dX4_moves_50 : decode cX4_moves 50 = .ok (.istore_n 3, 1) := by decide +kernel
theorem dX4_moves_51 : decode cX4_moves 51 = .ok (.aload_n 0, 1) := by decide +kernel
theorem dX4_moves_52 : decode cX4_moves 52 = .ok (.getfield 10, 3) := by decide +kernel
theorem dX4_moves_55 : decode cX4_moves 55 = .ok (.getfield 121, 3) := by decide +kernel
theorem dX4_moves_58 : decode cX4_moves 58 = .ok (.iload_n 1, 1) := by decide +kernel
theorem dX4_moves_59 : decode cX4_moves 59 = .ok (.iload_n 2, 1) := by decide +kernel
theorem dX4_moves_60 : decode cX4_moves 60 = .ok (.iastore, 1) := by decide +kernel
theorem dX4_moves_61 : decode cX4_moves 61 = .ok (.iload_n 3, 1) := by decide +kernel
theorem dX4_moves_62 : decode cX4_moves 62 = .ok (.ireturn, 1) := by decide +kernel
theorem dX4_turn_0 : decode cX4_turn 0 = .ok (.aload_n 0, 1) := by decide +kernel
theorem dX4_turn_1 : decode cX4_turn 1 = .ok (.getfield 10, 3) := by decide +kernel
theorem dX4_turn_4 : decode cX4_turn 4 = .ok (.iload_n 1, 1) := by decide +kernel
theorem dX4_turn_5 : decode cX4_turn 5 = .ok (.invokevirtual 85, 3) := by decide +kernel
theorem dX4_turn_8 : decode cX4_turn 8 = .ok (.ifCond .ne 9, 3) := by decide +kernel
theorem dX4_turn_11 : decode cX4_turn 11 = .ok (.aload_n 0, 1) := by decide +kernel
theorem dX4_turn_12 : decode cX4_turn 12 = .ok (.iconst (-1), 1) := by decide +kernel
theorem dX4_turn_13 : decode cX4_turn 13 = .ok (.invokevirtual 48, 3) := by decide +kernel
theorem dX4_turn_16 : decode cX4_turn 16 = .ok (.ireturn, 1) := by decide +kernel
theorem dX4_turn_17 : decode cX4_turn 17 = .ok (.iload_n 2, 1) := by decide +kernel
theorem dX4_turn_18 : decode cX4_turn 18 = .ok (.ifCond .lt 9, 3) := by decide +kernel
theorem dX4_turn_21 : decode cX4_turn 21 = .ok (.iload_n 2, 1) := by decide +kernel
theorem dX4_turn_22 : decode cX4_turn 22 = .ok (.bipush 6, 2) := by decide +kernel
theorem dX4_turn_24 : decode cX4_turn 24 = .ok (.if_icmp .lt 10, 3) := by decide +kernel
theorem dX4_turn_27 : decode cX4_turn 27 = .ok (.aload_n 0, 1) := by decide +kernel
theorem dX4_turn_28 : decode cX4_turn 28 = .ok (.bipush (-2), 2) := by decide +kernel
theorem dX4_turn_30 : decode cX4_turn 30 = .ok (.invokevirtual 48, 3) := by decide +kernel
theorem dX4_turn_33 : decode cX4_turn 33 = .ok (.ireturn, 1) := by decide +kernel
theorem dX4_turn_34 : decode cX4_turn 34 = .ok (.iload_n 3, 1) := by decide +kernel
theorem dX4_turn_35 : decode cX4_turn 35 = .ok (.ifCond .ge 10, 3) := by decide +kernel
theorem dX4_turn_38 : decode cX4_turn 38 = .ok (.aload_n 0, 1) := by decide +kernel
theorem dX4_turn_39 : decode cX4_turn 39 = .ok (.bipush (-4), 2) := by decide +kernel
theorem dX4_turn_41 : decode cX4_turn 41 = .ok (.invokevirtual 48, 3) := by decide +kernel
theorem dX4_turn_44 : decode cX4_turn 44 = .ok (.ireturn, 1) := by decide +kernel
theorem dX4_turn_45 : decode cX4_turn 45 = .ok (.iload_n 3, 1) := by decide +kernel
theorem dX4_turn_46 : decode cX4_turn 46 = .ok (.bipush 9, 2) := by decide +kernel
theorem dX4_turn_48 : decode cX4_turn 48 = .ok (.if_icmp .le 10, 3) := by decide +kernel
theorem dX4_turn_51 : decode cX4_turn 51 = .ok (.aload_n 0, 1) := by decide +kernel
theorem dX4_turn_52 : decode cX4_turn 52 = .ok (.bipush (-6), 2) := by decide +kernel
theorem dX4_turn_54 : decode cX4_turn 54 = .ok (.invokevirtual 48, 3) := by decide +kernel
theorem dX4_turn_57 : decode cX4_turn 57 = .ok (.ireturn, 1) := by decide +kernel
theorem dX4_turn_58 : decode cX4_turn 58 = .ok (.bipush 10, 2) := by decide +kernel
theorem dX4_turn_60 : decode cX4_turn 60 = .ok (.aload_n 0, 1) := by decide +kernel
theorem dX4_turn_61 : decode cX4_turn 61 = .ok (.getfield 10, 3) := by decide +kernel
theorem dX4_turn_64 : decode cX4_turn 64 = .ok (.getfield 124, 3) := by decide +kernel
theorem dX4_turn_67 : decode cX4_turn 67 = .ok (.iload_n 1, 1) := by decide +kernel
theorem dX4_turn_68 : decode cX4_turn 68 = .ok (.iaload, 1) := by decide +kernel
theorem dX4_turn_69 : decode cX4_turn 69 = .ok (.imul, 1) := by decide +kernel
theorem dX4_turn_70 : decode cX4_turn 70 = .ok (.aload_n 0, 1) := by decide +kernel
theorem dX4_turn_71 : decode cX4_turn 71 = .ok (.getfield 10, 3) := by decide +kernel
theorem dX4_turn_74 : decode cX4_turn 74 = .ok (.getfield 127, 3) := by decide +kernel
theorem dX4_turn_77 : decode cX4_turn 77 = .ok (.iload_n 1, 1) := by decide +kernel
theorem dX4_turn_78 : decode cX4_turn 78 = .ok (.iaload, 1) := by decide +kernel
theorem dX4_turn_79 : decode cX4_turn 79 = .ok (.iadd, 1) := by decide +kernel
theorem dX4_turn_80 : decode cX4_turn 80 = .ok (.istore 4, 2) := by decide +kernel
theorem dX4_turn_82 : decode cX4_turn 82 = .ok (.aload_n 0, 1) := by decide +kernel
theorem dX4_turn_83 : decode cX4_turn 83 = .ok (.getfield 10, 3) := by decide +kernel
theorem dX4_turn_86 : decode cX4_turn 86 = .ok (.getfield 124, 3) := by decide +kernel
theorem dX4_turn_89 : decode cX4_turn 89 = .ok (.iload_n 1, 1) := by decide +kernel
theorem dX4_turn_90 : decode cX4_turn 90 = .ok (.iload_n 2, 1) := by decide +kernel
theorem dX4_turn_91 : decode cX4_turn 91 = .ok (.iastore, 1) := by decide +kernel
theorem dX4_turn_92 : decode cX4_turn 92 = .ok (.aload_n 0, 1) := by decide +kernel
theorem dX4_turn_93 : decode cX4_turn 93 = .ok (.getfield 10, 3) := by decide +kernel
theorem dX4_turn_96 : decode cX4_turn 96 = .ok (.getfield 127, 3) := by decide +kernel
theorem dX4_turn_99 : decode cX4_turn 99 = .ok (.iload_n 1, 1) := by decide +kernel
theorem dX4_turn_100 : decode cX4_turn 100 = .ok (.iload_n 3, 1) := by decide +kernel
theorem dX4_turn_101 : decode cX4_turn 101 = .ok (.iastore, 1) := by decide +kernel
theorem dX4_turn_102 : decode cX4_turn 102 = .ok (.iload 4, 2) := by decide +kernel
theorem dX4_turn_104 : decode cX4_turn 104 = .ok (.ireturn, 1) := by decide +kernel
theorem dX4_days_0 : decode cX4_days 0 = .ok (.iload_n 1, 1) := by decide +kernel
theorem dX4_days_1 : decode cX4_days 1 = .ok (.iconst 1, 1) := by decide +kernel
theorem dX4_days_2 : decode cX4_days 2 = .ok (.if_icmp .ge 10, 3) := by decide +kernel
theorem dX4_days_5 : decode cX4_days 5 = .ok (.aload_n 0, 1) := by decide +kernel
theorem dX4_days_6 : decode cX4_days 6 = .ok (.bipush (-4), 2) := by decide +kernel
theorem dX4_days_8 : decode cX4_days 8 = .ok (.invokevirtual 48, 3) := by decide +kernel
theorem dX4_days_11 : decode cX4_days 11 = .ok (.ireturn, 1) := by decide +kernel
theorem dX4_days_12 : decode cX4_days 12 = .ok (.iload_n 1, 1) := by decide +kernel
theorem dX4_days_13 : decode cX4_days 13 = .ok (.bipush 60, 2) := by decide +kernel
theorem dX4_days_15 : decode cX4_days 15 = .ok (.if_icmp .gt 18, 3) := by decide +kernel
theorem dX4_days_18 : decode cX4_days 18 = .ok (.aload_n 0, 1) := by decide +kernel
theorem dX4_days_19 : decode cX4_days 19 = .ok (.getfield 10, 3) := by decide +kernel
theorem dX4_days_22 : decode cX4_days 22 = .ok (.getfield 130, 3) := by decide +kernel
theorem dX4_days_25 : decode cX4_days 25 = .ok (.iload_n 1, 1) := by decide +kernel
theorem dX4_days_26 : decode cX4_days 26 = .ok (.iadd, 1) := by decide +kernel
theorem dX4_days_27 : decode cX4_days 27 = .ok (.sipush 999, 3) := by decide +kernel
theorem dX4_days_30 : decode cX4_days 30 = .ok (.if_icmp .le 10, 3) := by decide +kernel
theorem dX4_days_33 : decode cX4_days 33 = .ok (.aload_n 0, 1) := by decide +kernel
theorem dX4_days_34 : decode cX4_days 34 = .ok (.bipush (-6), 2) := by decide +kernel
theorem dX4_days_36 : decode cX4_days 36 = .ok (.invokevirtual 48, 3) := by decide +kernel
theorem dX4_days_39 : decode cX4_days 39 = .ok (.ireturn, 1) := by decide +kernel
theorem dX4_days_40 : decode cX4_days 40 = .ok (.aload_n 0, 1) := by decide +kernel
theorem dX4_days_41 : decode cX4_days 41 = .ok (.getfield 10, 3) := by decide +kernel
theorem dX4_days_44 : decode cX4_days 44 = .ok (.iload_n 1, 1) := by decide +kernel
theorem dX4_days_45 : decode cX4_days 45 = .ok (.invokevirtual 133, 3) := by decide +kernel
theorem dX4_days_48 : decode cX4_days 48 = .ok (.aload_n 0, 1) := by decide +kernel
theorem dX4_days_49 : decode cX4_days 49 = .ok (.getfield 10, 3) := by decide +kernel
theorem dX4_days_52 : decode cX4_days 52 = .ok (.invokevirtual 136, 3) := by decide +kernel
theorem dX4_days_55 : decode cX4_days 55 = .ok (.ireturn, 1) := by decide +kernel
theorem dX4_parcelThen_0 : decode cX4_parcelThen 0 = .ok (.aload_n 0, 1) := by decide +kernel
theorem dX4_parcelThen_1 : decode cX4_parcelThen 1 = .ok (.getfield 10, 3) := by decide +kernel
theorem dX4_parcelThen_4 : decode cX4_parcelThen 4 = .ok (.iload_n 1, 1) := by decide +kernel
theorem dX4_parcelThen_5 : decode cX4_parcelThen 5 = .ok (.invokevirtual 92, 3) := by decide +kernel
theorem dX4_parcelThen_8 : decode cX4_parcelThen 8 = .ok (.ifCond .ne 9, 3) := by decide +kernel
theorem dX4_parcelThen_11 : decode cX4_parcelThen 11 = .ok (.aload_n 0, 1) := by decide +kernel
theorem dX4_parcelThen_12 : decode cX4_parcelThen 12 = .ok (.iconst (-1), 1) := by decide +kernel
theorem dX4_parcelThen_13 : decode cX4_parcelThen 13 = .ok (.invokevirtual 48, 3) := by decide +kernel
theorem dX4_parcelThen_16 : decode cX4_parcelThen 16 = .ok (.ireturn, 1) := by decide +kernel
theorem dX4_parcelThen_17 : decode cX4_parcelThen 17 = .ok (.iload_n 2, 1) := by decide +kernel
theorem dX4_parcelThen_18 : decode cX4_parcelThen 18 = .ok (.ifCond .ge 10, 3) := by decide +kernel
theorem dX4_parcelThen_21 : decode cX4_parcelThen 21 = .ok (.aload_n 0, 1) := by decide +kernel
theorem dX4_parcelThen_22 : decode cX4_parcelThen 22 = .ok (.bipush (-4), 2) := by decide +kernel
theorem dX4_parcelThen_24 : decode cX4_parcelThen 24 = .ok (.invokevirtual 48, 3) := by decide +kernel
theorem dX4_parcelThen_27 : decode cX4_parcelThen 27 = .ok (.ireturn, 1) := by decide +kernel
theorem dX4_parcelThen_28 : decode cX4_parcelThen 28 = .ok (.iload_n 2, 1) := by decide +kernel
theorem dX4_parcelThen_29 : decode cX4_parcelThen 29 = .ok (.bipush 99, 2) := by decide +kernel
theorem dX4_parcelThen_31 : decode cX4_parcelThen 31 = .ok (.if_icmp .le 10, 3) := by decide +kernel
theorem dX4_parcelThen_34 : decode cX4_parcelThen 34 = .ok (.aload_n 0, 1) := by decide +kernel
theorem dX4_parcelThen_35 : decode cX4_parcelThen 35 = .ok (.bipush (-6), 2) := by decide +kernel
theorem dX4_parcelThen_37 : decode cX4_parcelThen 37 = .ok (.invokevirtual 48, 3) := by decide +kernel
theorem dX4_parcelThen_40 : decode cX4_parcelThen 40 = .ok (.ireturn, 1) := by decide +kernel
theorem dX4_parcelThen_41 : decode cX4_parcelThen 41 = .ok (.iload_n 3, 1) := by decide +kernel
theorem dX4_parcelThen_42 : decode cX4_parcelThen 42 = .ok (.ifCond .lt 8, 3) := by decide +kernel
theorem dX4_parcelThen_45 : decode cX4_parcelThen 45 = .ok (.iload_n 3, 1) := by decide +kernel
theorem dX4_parcelThen_46 : decode cX4_parcelThen 46 = .ok (.iconst 1, 1) := by decide +kernel
theorem dX4_parcelThen_47 : decode cX4_parcelThen 47 = .ok (.if_icmp .le 10, 3) := by decide +kernel
theorem dX4_parcelThen_50 : decode cX4_parcelThen 50 = .ok (.aload_n 0, 1) := by decide +kernel
theorem dX4_parcelThen_51 : decode cX4_parcelThen 51 = .ok (.bipush (-2), 2) := by decide +kernel
theorem dX4_parcelThen_53 : decode cX4_parcelThen 53 = .ok (.invokevirtual 48, 3) := by decide +kernel
theorem dX4_parcelThen_56 : decode cX4_parcelThen 56 = .ok (.ireturn, 1) := by decide +kernel
theorem dX4_parcelThen_57 : decode cX4_parcelThen 57 = .ok (.aload_n 0, 1) := by decide +kernel
theorem dX4_parcelThen_58 : decode cX4_parcelThen 58 = .ok (.getfield 26, 3) := by decide +kernel
theorem dX4_parcelThen_61 : decode cX4_parcelThen 61 = .ok (.aload_n 0, 1) := by decide +kernel
theorem dX4_parcelThen_62 : decode cX4_parcelThen 62 = .ok (.getfield 10, 3) := by decide +kernel
theorem dX4_parcelThen_65 : decode cX4_parcelThen 65 = .ok (.iload_n 2, 1) := by decide +kernel
theorem dX4_parcelThen_66 : decode cX4_parcelThen 66 = .ok (.invokevirtual 64, 3) := by decide +kernel
theorem dX4_parcelThen_69 : decode cX4_parcelThen 69 = .ok (.astore 4, 2) := by decide +kernel
theorem dX4_parcelThen_71 : decode cX4_parcelThen 71 = .ok (.iload_n 3, 1) := by decide +kernel
theorem dX4_parcelThen_72 : decode cX4_parcelThen 72 = .ok (.ifCond .ne 12, 3) := by decide +kernel
theorem dX4_parcelThen_75 : decode cX4_parcelThen 75 = .ok (.aload 4, 2) := by decide +kernel
theorem dX4_parcelThen_77 : decode cX4_parcelThen 77 = .ok (.iload_n 1, 1) := by decide +kernel
theorem dX4_parcelThen_78 : decode cX4_parcelThen 78 = .ok (.invokevirtual 139, 3) := by decide +kernel
theorem dX4_parcelThen_81 : decode cX4_parcelThen 81 = .ok (.goto 9, 3) := by decide +kernel
theorem dX4_parcelThen_84 : decode cX4_parcelThen 84 = .ok (.aload 4, 2) := by decide +kernel
theorem dX4_parcelThen_86 : decode cX4_parcelThen 86 = .ok (.iload_n 1, 1) := by decide +kernel
theorem dX4_parcelThen_87 : decode cX4_parcelThen 87 = .ok (.invokevirtual 142, 3) := by decide +kernel
theorem dX4_parcelThen_90 : decode cX4_parcelThen 90 = .ok (.ireturn, 1) := by decide +kernel
theorem dX4_hateThen_0 : decode cX4_hateThen 0 = .ok (.aload_n 0, 1) := by decide +kernel
theorem dX4_hateThen_1 : decode cX4_hateThen 1 = .ok (.getfield 10, 3) := by decide +kernel
theorem dX4_hateThen_4 : decode cX4_hateThen 4 = .ok (.iload_n 1, 1) := by decide +kernel
theorem dX4_hateThen_5 : decode cX4_hateThen 5 = .ok (.iload_n 2, 1) := by decide +kernel
theorem dX4_hateThen_6 : decode cX4_hateThen 6 = .ok (.invokevirtual 98, 3) := by decide +kernel
theorem dX4_hateThen_9 : decode cX4_hateThen 9 = .ok (.ifCond .ne 9, 3) := by decide +kernel
theorem dX4_hateThen_12 : decode cX4_hateThen 12 = .ok (.aload_n 0, 1) := by decide +kernel
theorem dX4_hateThen_13 : decode cX4_hateThen 13 = .ok (.iconst (-1), 1) := by decide +kernel
theorem dX4_hateThen_14 : decode cX4_hateThen 14 = .ok (.invokevirtual 48, 3) := by decide +kernel
theorem dX4_hateThen_17 : decode cX4_hateThen 17 = .ok (.ireturn, 1) := by decide +kernel
theorem dX4_hateThen_18 : decode cX4_hateThen 18 = .ok (.iload_n 3, 1) := by decide +kernel
theorem dX4_hateThen_19 : decode cX4_hateThen 19 = .ok (.ifCond .ge 10, 3) := by decide +kernel
theorem dX4_hateThen_22 : decode cX4_hateThen 22 = .ok (.aload_n 0, 1) := by decide +kernel
theorem dX4_hateThen_23 : decode cX4_hateThen 23 = .ok (.bipush (-4), 2) := by decide +kernel
theorem dX4_hateThen_25 : decode cX4_hateThen 25 = .ok (.invokevirtual 48, 3) := by decide +kernel
theorem dX4_hateThen_28 : decode cX4_hateThen 28 = .ok (.ireturn, 1) := by decide +kernel
theorem dX4_hateThen_29 : decode cX4_hateThen 29 = .ok (.iload_n 3, 1) := by decide +kernel
theorem dX4_hateThen_30 : decode cX4_hateThen 30 = .ok (.bipush 99, 2) := by decide +kernel
theorem dX4_hateThen_32 : decode cX4_hateThen 32 = .ok (.if_icmp .le 10, 3) := by decide +kernel
theorem dX4_hateThen_35 : decode cX4_hateThen 35 = .ok (.aload_n 0, 1) := by decide +kernel
theorem dX4_hateThen_36 : decode cX4_hateThen 36 = .ok (.bipush (-6), 2) := by decide +kernel
theorem dX4_hateThen_38 : decode cX4_hateThen 38 = .ok (.invokevirtual 48, 3) := by decide +kernel
theorem dX4_hateThen_41 : decode cX4_hateThen 41 = .ok (.ireturn, 1) := by decide +kernel
theorem dX4_hateThen_42 : decode cX4_hateThen 42 = .ok (.aload_n 0, 1) := by decide +kernel
theorem dX4_hateThen_43 : decode cX4_hateThen 43 = .ok (.getfield 26, 3) := by decide +kernel
theorem dX4_hateThen_46 : decode cX4_hateThen 46 = .ok (.aload_n 0, 1) := by decide +kernel
theorem dX4_hateThen_47 : decode cX4_hateThen 47 = .ok (.getfield 10, 3) := by decide +kernel
theorem dX4_hateThen_50 : decode cX4_hateThen 50 = .ok (.iload_n 3, 1) := by decide +kernel
theorem dX4_hateThen_51 : decode cX4_hateThen 51 = .ok (.invokevirtual 64, 3) := by decide +kernel
theorem dX4_hateThen_54 : decode cX4_hateThen 54 = .ok (.iload_n 1, 1) := by decide +kernel
theorem dX4_hateThen_55 : decode cX4_hateThen 55 = .ok (.iload_n 2, 1) := by decide +kernel
theorem dX4_hateThen_56 : decode cX4_hateThen 56 = .ok (.invokevirtual 102, 3) := by decide +kernel
theorem dX4_hateThen_59 : decode cX4_hateThen 59 = .ok (.ireturn, 1) := by decide +kernel
theorem dX4_gotThen_0 : decode cX4_gotThen 0 = .ok (.iload_n 1, 1) := by decide +kernel
theorem dX4_gotThen_1 : decode cX4_gotThen 1 = .ok (.ifCond .ge 10, 3) := by decide +kernel
theorem dX4_gotThen_4 : decode cX4_gotThen 4 = .ok (.aload_n 0, 1) := by decide +kernel
theorem dX4_gotThen_5 : decode cX4_gotThen 5 = .ok (.bipush (-4), 2) := by decide +kernel
theorem dX4_gotThen_7 : decode cX4_gotThen 7 = .ok (.invokevirtual 48, 3) := by decide +kernel
theorem dX4_gotThen_10 : decode cX4_gotThen 10 = .ok (.ireturn, 1) := by decide +kernel
theorem dX4_gotThen_11 : decode cX4_gotThen 11 = .ok (.iload_n 1, 1) := by decide +kernel
theorem dX4_gotThen_12 : decode cX4_gotThen 12 = .ok (.bipush 99, 2) := by decide +kernel
theorem dX4_gotThen_14 : decode cX4_gotThen 14 = .ok (.if_icmp .le 10, 3) := by decide +kernel
theorem dX4_gotThen_17 : decode cX4_gotThen 17 = .ok (.aload_n 0, 1) := by decide +kernel
theorem dX4_gotThen_18 : decode cX4_gotThen 18 = .ok (.bipush (-6), 2) := by decide +kernel
theorem dX4_gotThen_20 : decode cX4_gotThen 20 = .ok (.invokevirtual 48, 3) := by decide +kernel
theorem dX4_gotThen_23 : decode cX4_gotThen 23 = .ok (.ireturn, 1) := by decide +kernel
theorem dX4_gotThen_24 : decode cX4_gotThen 24 = .ok (.iload_n 2, 1) := by decide +kernel
theorem dX4_gotThen_25 : decode cX4_gotThen 25 = .ok (.iconst (-1), 1) := by decide +kernel
theorem dX4_gotThen_26 : decode cX4_gotThen 26 = .ok (.if_icmp .eq 20, 3) := by decide +kernel
theorem dX4_gotThen_29 : decode cX4_gotThen 29 = .ok (.aload_n 0, 1) := by decide +kernel
theorem dX4_gotThen_30 : decode cX4_gotThen 30 = .ok (.getfield 10, 3) := by decide +kernel
theorem dX4_gotThen_33 : decode cX4_gotThen 33 = .ok (.iload_n 2, 1) := by decide +kernel
theorem dX4_gotThen_34 : decode cX4_gotThen 34 = .ok (.invokevirtual 85, 3) := by decide +kernel
theorem dX4_gotThen_37 : decode cX4_gotThen 37 = .ok (.ifCond .ne 9, 3) := by decide +kernel
theorem dX4_gotThen_40 : decode cX4_gotThen 40 = .ok (.aload_n 0, 1) := by decide +kernel
theorem dX4_gotThen_41 : decode cX4_gotThen 41 = .ok (.iconst (-1), 1) := by decide +kernel
theorem dX4_gotThen_42 : decode cX4_gotThen 42 = .ok (.invokevirtual 48, 3) := by decide +kernel
theorem dX4_gotThen_45 : decode cX4_gotThen 45 = .ok (.ireturn, 1) := by decide +kernel
theorem dX4_gotThen_46 : decode cX4_gotThen 46 = .ok (.aload_n 0, 1) := by decide +kernel
theorem dX4_gotThen_47 : decode cX4_gotThen 47 = .ok (.getfield 26, 3) := by decide +kernel
theorem dX4_gotThen_50 : decode cX4_gotThen 50 = .ok (.aload_n 0, 1) := by decide +kernel
theorem dX4_gotThen_51 : decode cX4_gotThen 51 = .ok (.getfield 10, 3) := by decide +kernel
theorem dX4_gotThen_54 : decode cX4_gotThen 54 = .ok (.iload_n 1, 1) := by decide +kernel
theorem dX4_gotThen_55 : decode cX4_gotThen 55 = .ok (.invokevirtual 64, 3) := by decide +kernel
theorem dX4_gotThen_58 : decode cX4_gotThen 58 = .ok (.astore_n 3, 1) := by decide +kernel
theorem dX4_gotThen_59 : decode cX4_gotThen 59 = .ok (.iload_n 2, 1) := by decide +kernel
theorem dX4_gotThen_60 : decode cX4_gotThen 60 = .ok (.iconst (-1), 1) := by decide +kernel
theorem dX4_gotThen_61 : decode cX4_gotThen 61 = .ok (.if_icmp .ne 10, 3) := by decide +kernel
theorem dX4_gotThen_64 : decode cX4_gotThen 64 = .ok (.aload_n 3, 1) := by decide +kernel
theorem dX4_gotThen_65 : decode cX4_gotThen 65 = .ok (.invokevirtual 136, 3) := by decide +kernel
theorem dX4_gotThen_68 : decode cX4_gotThen 68 = .ok (.goto 9, 3) := by decide +kernel
theorem dX4_gotThen_71 : decode cX4_gotThen 71 = .ok (.aload_n 3, 1) := by decide +kernel
theorem dX4_gotThen_72 : decode cX4_gotThen 72 = .ok (.getfield 145, 3) := by decide +kernel
theorem dX4_gotThen_75 : decode cX4_gotThen 75 = .ok (.iload_n 2, 1) := by decide +kernel
theorem dX4_gotThen_76 : decode cX4_gotThen 76 = .ok (.iaload, 1) := by decide +kernel
theorem dX4_gotThen_77 : decode cX4_gotThen 77 = .ok (.ireturn, 1) := by decide +kernel
theorem dX4_when_0 : decode cX4_when 0 = .ok (.aload_n 0, 1) := by decide +kernel
theorem dX4_when_1 : decode cX4_when 1 = .ok (.getfield 10, 3) := by decide +kernel
theorem dX4_when_4 : decode cX4_when 4 = .ok (.iload_n 1, 1) := by decide +kernel
theorem dX4_when_5 : decode cX4_when 5 = .ok (.invokevirtual 92, 3) := by decide +kernel
theorem dX4_when_8 : decode cX4_when 8 = .ok (.ifCond .ne 9, 3) := by decide +kernel
theorem dX4_when_11 : decode cX4_when 11 = .ok (.aload_n 0, 1) := by decide +kernel
theorem dX4_when_12 : decode cX4_when 12 = .ok (.iconst (-1), 1) := by decide +kernel
theorem dX4_when_13 : decode cX4_when 13 = .ok (.invokevirtual 48, 3) := by decide +kernel
theorem dX4_when_16 : decode cX4_when 16 = .ok (.ireturn, 1) := by decide +kernel
theorem dX4_when_17 : decode cX4_when 17 = .ok (.aload_n 0, 1) := by decide +kernel
theorem dX4_when_18 : decode cX4_when 18 = .ok (.getfield 26, 3) := by decide +kernel
theorem dX4_when_21 : decode cX4_when 21 = .ok (.aload_n 0, 1) := by decide +kernel
theorem dX4_when_22 : decode cX4_when 22 = .ok (.getfield 10, 3) := by decide +kernel
theorem dX4_when_25 : decode cX4_when 25 = .ok (.iconst 0, 1) := by decide +kernel
theorem dX4_when_26 : decode cX4_when 26 = .ok (.invokevirtual 64, 3) := by decide +kernel
theorem dX4_when_29 : decode cX4_when 29 = .ok (.iload_n 1, 1) := by decide +kernel
theorem dX4_when_30 : decode cX4_when 30 = .ok (.bipush 99, 2) := by decide +kernel
theorem dX4_when_32 : decode cX4_when 32 = .ok (.invokestatic 148, 3) := by decide +kernel
theorem dX4_when_35 : decode cX4_when 35 = .ok (.invokestatic 152, 3) := by decide +kernel
theorem dX4_when_38 : decode cX4_when 38 = .ok (.ireturn, 1) := by decide +kernel
theorem dX4_first_0 : decode cX4_first 0 = .ok (.iload_n 1, 1) := by decide +kernel
theorem dX4_first_1 : decode cX4_first 1 = .ok (.ifCond .lt 8, 3) := by decide +kernel
theorem dX4_first_4 : decode cX4_first 4 = .ok (.iload_n 1, 1) := by decide +kernel
theorem dX4_first_5 : decode cX4_first 5 = .ok (.iconst 2, 1) := by decide +kernel
theorem dX4_first_6 : decode cX4_first 6 = .ok (.if_icmp .le 10, 3) := by decide +kernel
theorem dX4_first_9 : decode cX4_first 9 = .ok (.aload_n 0, 1) := by decide +kernel
theorem dX4_first_10 : decode cX4_first 10 = .ok (.bipush (-2), 2) := by decide +kernel
theorem dX4_first_12 : decode cX4_first 12 = .ok (.invokevirtual 48, 3) := by decide +kernel
theorem dX4_first_15 : decode cX4_first 15 = .ok (.ireturn, 1) := by decide +kernel
theorem dX4_first_16 : decode cX4_first 16 = .ok (.iload_n 1, 1) := by decide +kernel
theorem dX4_first_17 : decode cX4_first 17 = .ok (.iconst 2, 1) := by decide +kernel
theorem dX4_first_18 : decode cX4_first 18 = .ok (.if_icmp .ne 18, 3) := by decide +kernel
theorem dX4_first_21 : decode cX4_first 21 = .ok (.aload_n 0, 1) := by decide +kernel
theorem dX4_first_22 : decode cX4_first 22 = .ok (.getfield 26, 3) := by decide +kernel
theorem dX4_first_25 : decode cX4_first 25 = .ok (.aload_n 0, 1) := by decide +kernel
theorem dX4_first_26 : decode cX4_first 26 = .ok (.getfield 10, 3) := by decide +kernel
theorem dX4_first_29 : decode cX4_first 29 = .ok (.invokevirtual 155, 3) := by decide +kernel
theorem dX4_first_32 : decode cX4_first 32 = .ok (.invokestatic 152, 3) := by decide +kernel
theorem dX4_first_35 : decode cX4_first 35 = .ok (.ireturn, 1) := by decide +kernel
theorem dX4_first_36 : decode cX4_first 36 = .ok (.aload_n 0, 1) := by decide +kernel
theorem dX4_first_37 : decode cX4_first 37 = .ok (.getfield 26, 3) := by decide +kernel
theorem dX4_first_40 : decode cX4_first 40 = .ok (.aload_n 0, 1) := by decide +kernel
theorem dX4_first_41 : decode cX4_first 41 = .ok (.getfield 10, 3) := by decide +kernel
theorem dX4_first_44 : decode cX4_first 44 = .ok (.invokevirtual 159, 3) := by decide +kernel
theorem dX4_first_47 : decode cX4_first 47 = .ok (.istore_n 2, 1) := by decide +kernel
theorem dX4_first_48 : decode cX4_first 48 = .ok (.iload_n 1, 1) := by decide +kernel
theorem dX4_first_49 : decode cX4_first 49 = .ok (.ifCond .eq 9, 3) := by decide +kernel
theorem dX4_first_52 : decode cX4_first 52 = .ok (.iload_n 2, 1) := by decide +kernel
theorem dX4_first_53 : decode cX4_first 53 = .ok (.bipush (-9), 2) := by decide +kernel
theorem dX4_first_55 : decode cX4_first 55 = .ok (.if_icmp .ne 5, 3) := by decide +kernel
theorem dX4_first_58 : decode cX4_first 58 = .ok (.iload_n 2, 1) := by decide +kernel
theorem dX4_first_59 : decode cX4_first 59 = .ok (.ireturn, 1) := by decide +kernel
theorem dX4_first_60 : decode cX4_first 60 = .ok (.aload_n 0, 1) := by decide +kernel
theorem dX4_first_61 : decode cX4_first 61 = .ok (.getfield 26, 3) := by decide +kernel
theorem dX4_first_64 : decode cX4_first 64 = .ok (.aload_n 0, 1) := by decide +kernel
theorem dX4_first_65 : decode cX4_first 65 = .ok (.getfield 10, 3) := by decide +kernel
theorem dX4_first_68 : decode cX4_first 68 = .ok (.iconst 0, 1) := by decide +kernel
theorem dX4_first_69 : decode cX4_first 69 = .ok (.invokevirtual 64, 3) := by decide +kernel
theorem dX4_first_72 : decode cX4_first 72 = .ok (.iload_n 2, 1) := by decide +kernel
theorem dX4_first_73 : decode cX4_first 73 = .ok (.bipush 99, 2) := by decide +kernel
theorem dX4_first_75 : decode cX4_first 75 = .ok (.invokestatic 148, 3) := by decide +kernel
theorem dX4_first_78 : decode cX4_first 78 = .ok (.invokestatic 152, 3) := by decide +kernel
theorem dX4_first_81 : decode cX4_first 81 = .ok (.ireturn, 1) := by decide +kernel
theorem dX4_enemy_0 : decode cX4_enemy 0 = .ok (.aload_n 0, 1) := by decide +kernel
theorem dX4_enemy_1 : decode cX4_enemy 1 = .ok (.getfield 10, 3) := by decide +kernel
theorem dX4_enemy_4 : decode cX4_enemy 4 = .ok (.iload_n 1, 1) := by decide +kernel
theorem dX4_enemy_5 : decode cX4_enemy 5 = .ok (.invokevirtual 85, 3) := by decide +kernel
theorem dX4_enemy_8 : decode cX4_enemy 8 = .ok (.ifCond .ne 9, 3) := by decide +kernel
theorem dX4_enemy_11 : decode cX4_enemy 11 = .ok (.aload_n 0, 1) := by decide +kernel
theorem dX4_enemy_12 : decode cX4_enemy 12 = .ok (.iconst (-1), 1) := by decide +kernel
theorem dX4_enemy_13 : decode cX4_enemy 13 = .ok (.invokevirtual 48, 3) := by decide +kernel
theorem dX4_enemy_16 : decode cX4_enemy 16 = .ok (.ireturn, 1) := by decide +kernel
theorem dX4_enemy_17 : decode cX4_enemy 17 = .ok (.iload_n 2, 1) := by decide +kernel
theorem dX4_enemy_18 : decode cX4_enemy 18 = .ok (.ifCond .lt 8, 3) := by decide +kernel
theorem dX4_enemy_21 : decode cX4_enemy 21 = .ok (.iload_n 2, 1) := by decide +kernel
theorem dX4_enemy_22 : decode cX4_enemy 22 = .ok (.iconst 1, 1) := by decide +kernel
theorem dX4_enemy_23 : decode cX4_enemy 23 = .ok (.if_icmp .le 10, 3) := by decide +kernel
theorem dX4_enemy_26 : decode cX4_enemy 26 = .ok (.aload_n 0, 1) := by decide +kernel
theorem dX4_enemy_27 : decode cX4_enemy 27 = .ok (.bipush (-2), 2) := by decide +kernel
theorem dX4_enemy_29 : decode cX4_enemy 29 = .ok (.invokevirtual 48, 3) := by decide +kernel
theorem dX4_enemy_32 : decode cX4_enemy 32 = .ok (.ireturn, 1) := by decide +kernel
theorem dX4_enemy_33 : decode cX4_enemy 33 = .ok (.aload_n 0, 1) := by decide +kernel
theorem dX4_enemy_34 : decode cX4_enemy 34 = .ok (.getfield 10, 3) := by decide +kernel
theorem dX4_enemy_37 : decode cX4_enemy 37 = .ok (.iload_n 1, 1) := by decide +kernel
theorem dX4_enemy_38 : decode cX4_enemy 38 = .ok (.bipush (-9), 2) := by decide +kernel
theorem dX4_enemy_40 : decode cX4_enemy 40 = .ok (.invokevirtual 162, 3) := by decide +kernel
theorem dX4_enemy_43 : decode cX4_enemy 43 = .ok (.istore_n 3, 1) := by decide +kernel
theorem dX4_enemy_44 : decode cX4_enemy 44 = .ok (.iload_n 2, 1) := by decide +kernel
theorem dX4_enemy_45 : decode cX4_enemy 45 = .ok (.ifCond .ne 7, 3) := by decide +kernel
theorem dX4_enemy_48 : decode cX4_enemy 48 = .ok (.iload_n 3, 1) := by decide +kernel
theorem dX4_enemy_49 : decode cX4_enemy 49 = .ok (.goto 12, 3) := by decide +kernel
theorem dX4_enemy_52 : decode cX4_enemy 52 = .ok (.aload_n 0, 1) := by decide +kernel
theorem dX4_enemy_53 : decode cX4_enemy 53 = .ok (.getfield 10, 3) := by decide +kernel
theorem dX4_enemy_56 : decode cX4_enemy 56 = .ok (.iload_n 1, 1) := by decide +kernel
theorem dX4_enemy_57 : decode cX4_enemy 57 = .ok (.iload_n 3, 1) := by decide +kernel
theorem dX4_enemy_58 : decode cX4_enemy 58 = .ok (.invokevirtual 162, 3) := by decide +kernel
theorem dX4_enemy_61 : decode cX4_enemy 61 = .ok (.ireturn, 1) := by decide +kernel
theorem dX4_malice_0 : decode cX4_malice 0 = .ok (.aload_n 0, 1) := by decide +kernel
theorem dX4_malice_1 : decode cX4_malice 1 = .ok (.getfield 10, 3) := by decide +kernel
theorem dX4_malice_4 : decode cX4_malice 4 = .ok (.iload_n 1, 1) := by decide +kernel
theorem dX4_malice_5 : decode cX4_malice 5 = .ok (.iload_n 2, 1) := by decide +kernel
theorem dX4_malice_6 : decode cX4_malice 6 = .ok (.invokevirtual 98, 3) := by decide +kernel
theorem dX4_malice_9 : decode cX4_malice 9 = .ok (.ifCond .ne 9, 3) := by decide +kernel
theorem dX4_malice_12 : decode cX4_malice 12 = .ok (.aload_n 0, 1) := by decide +kernel
theorem dX4_malice_13 : decode cX4_malice 13 = .ok (.iconst (-1), 1) := by decide +kernel
theorem dX4_malice_14 : decode cX4_malice 14 = .ok (.invokevirtual 48, 3) := by decide +kernel
theorem dX4_malice_17 : decode cX4_malice 17 = .ok (.ireturn, 1) := by decide +kernel
theorem dX4_malice_18 : decode cX4_malice 18 = .ok (.aload_n 0, 1) := by decide +kernel
theorem dX4_malice_19 : decode cX4_malice 19 = .ok (.getfield 10, 3) := by decide +kernel
theorem dX4_malice_22 : decode cX4_malice 22 = .ok (.iload_n 1, 1) := by decide +kernel
theorem dX4_malice_23 : decode cX4_malice 23 = .ok (.iload_n 2, 1) := by decide +kernel
theorem dX4_malice_24 : decode cX4_malice 24 = .ok (.invokevirtual 165, 3) := by decide +kernel
theorem dX4_malice_27 : decode cX4_malice 27 = .ok (.ireturn, 1) := by decide +kernel
theorem dX4_loved_0 : decode cX4_loved 0 = .ok (.iconst 0, 1) := by decide +kernel
theorem dX4_loved_1 : decode cX4_loved 1 = .ok (.istore_n 1, 1) := by decide +kernel
theorem dX4_loved_2 : decode cX4_loved 2 = .ok (.iconst 0, 1) := by decide +kernel
theorem dX4_loved_3 : decode cX4_loved 3 = .ok (.istore_n 2, 1) := by decide +kernel
theorem dX4_loved_4 : decode cX4_loved 4 = .ok (.iload_n 2, 1) := by decide +kernel
theorem dX4_loved_5 : decode cX4_loved 5 = .ok (.aload_n 0, 1) := by decide +kernel
theorem dX4_loved_6 : decode cX4_loved 6 = .ok (.getfield 10, 3) := by decide +kernel
theorem dX4_loved_9 : decode cX4_loved 9 = .ok (.getfield 168, 3) := by decide +kernel
theorem dX4_loved_12 : decode cX4_loved 12 = .ok (.if_icmp .ge 30, 3) := by decide +kernel
theorem dX4_loved_15 : decode cX4_loved 15 = .ok (.aload_n 0, 1) := by decide +kernel
theorem dX4_loved_16 : decode cX4_loved 16 = .ok (.getfield 10, 3) := by decide +kernel
theorem dX4_loved_19 : decode cX4_loved 19 = .ok (.iload_n 2, 1) := by decide +kernel
theorem dX4_loved_20 : decode cX4_loved 20 = .ok (.bipush (-9), 2) := by decide +kernel
theorem dX4_loved_22 : decode cX4_loved 22 = .ok (.invokevirtual 162, 3) := by decide +kernel
theorem dX4_loved_25 : decode cX4_loved 25 = .ok (.bipush (-9), 2) := by decide +kernel
theorem dX4_loved_27 : decode cX4_loved 27 = .ok (.if_icmp .ne 9, 3) := by decide +kernel
theorem dX4_loved_30 : decode cX4_loved 30 = .ok (.iload_n 1, 1) := by decide +kernel
theorem dX4_loved_31 : decode cX4_loved 31 = .ok (.iconst 1, 1) := by decide +kernel
theorem dX4_loved_32 : decode cX4_loved 32 = .ok (.iload_n 2, 1) := by decide +kernel
theorem dX4_loved_33 : decode cX4_loved 33 = .ok (.ishl, 1) := by decide +kernel
theorem dX4_loved_34 : decode cX4_loved 34 = .ok (.ior, 1) := by decide +kernel
theorem dX4_loved_35 : decode cX4_loved 35 = .ok (.istore_n 1, 1) := by decide +kernel
theorem dX4_loved_36 : decode cX4_loved 36 = .ok (.iinc 2 1, 3) := by decide +kernel
theorem dX4_loved_39 : decode cX4_loved 39 = .ok (.goto (-35), 3) := by decide +kernel
theorem dX4_loved_42 : decode cX4_loved 42 = .ok (.iload_n 1, 1) := by decide +kernel
theorem dX4_loved_43 : decode cX4_loved 43 = .ok (.ireturn, 1) := by decide +kernel
theorem dX4_busiest_0 : decode cX4_busiest 0 = .ok (.iload_n 1, 1) := by decide +kernel
theorem dX4_busiest_1 : decode cX4_busiest 1 = .ok (.ifCond .lt 8, 3) := by decide +kernel
theorem dX4_busiest_4 : decode cX4_busiest 4 = .ok (.iload_n 1, 1) := by decide +kernel
theorem dX4_busiest_5 : decode cX4_busiest 5 = .ok (.iconst 1, 1) := by decide +kernel
theorem dX4_busiest_6 : decode cX4_busiest 6 = .ok (.if_icmp .le 10, 3) := by decide +kernel
theorem dX4_busiest_9 : decode cX4_busiest 9 = .ok (.aload_n 0, 1) := by decide +kernel
theorem dX4_busiest_10 : decode cX4_busiest 10 = .ok (.bipush (-2), 2) := by decide +kernel
theorem dX4_busiest_12 : decode cX4_busiest 12 = .ok (.invokevirtual 48, 3) := by decide +kernel
theorem dX4_busiest_15 : decode cX4_busiest 15 = .ok (.ireturn, 1) := by decide +kernel
theorem dX4_busiest_16 : decode cX4_busiest 16 = .ok (.bipush (-9), 2) := by decide +kernel
theorem dX4_busiest_18 : decode cX4_busiest 18 = .ok (.istore_n 2, 1) := by decide +kernel
theorem dX4_busiest_19 : decode cX4_busiest 19 = .ok (.iconst 0, 1) := by decide +kernel
theorem dX4_busiest_20 : decode cX4_busiest 20 = .ok (.istore_n 3, 1) := by decide +kernel
theorem dX4_busiest_21 : decode cX4_busiest 21 = .ok (.iconst 0, 1) := by decide +kernel
theorem dX4_busiest_22 : decode cX4_busiest 22 = .ok (.istore 4, 2) := by decide +kernel
theorem dX4_busiest_24 : decode cX4_busiest 24 = .ok (.iload 4, 2) := by decide +kernel
theorem dX4_busiest_26 : decode cX4_busiest 26 = .ok (.aload_n 0, 1) := by decide +kernel
theorem dX4_busiest_27 : decode cX4_busiest 27 = .ok (.getfield 10, 3) := by decide +kernel
theorem dX4_busiest_30 : decode cX4_busiest 30 = .ok (.getfield 168, 3) := by decide +kernel
theorem dX4_busiest_33 : decode cX4_busiest 33 = .ok (.if_icmp .ge 32, 3) := by decide +kernel
theorem dX4_busiest_36 : decode cX4_busiest 36 = .ok (.aload_n 0, 1) := by decide +kernel
theorem dX4_busiest_37 : decode cX4_busiest 37 = .ok (.getfield 10, 3) := by decide +kernel
theorem dX4_busiest_40 : decode cX4_busiest 40 = .ok (.iload 4, 2) := by decide +kernel
theorem dX4_busiest_42 : decode cX4_busiest 42 = .ok (.invokevirtual 171, 3) := by decide +kernel
theorem dX4_busiest_45 : decode cX4_busiest 45 = .ok (.istore 5, 2) := by decide +kernel
theorem dX4_busiest_47 : decode cX4_busiest 47 = .ok (.iload 5, 2) := by decide +kernel
theorem dX4_busiest_49 : decode cX4_busiest 49 = .ok (.iload_n 3, 1) := by decide +kernel
theorem dX4_busiest_50 : decode cX4_busiest 50 = .ok (.if_icmp .le 9, 3) := by decide +kernel
theorem dX4_busiest_53 : decode cX4_busiest 53 = .ok (.iload 5, 2) := by decide +kernel
theorem dX4_busiest_55 : decode cX4_busiest 55 = .ok (.istore_n 3, 1) := by decide +kernel
theorem dX4_busiest_56 : decode cX4_busiest 56 = .ok (.iload 4, 2) := by decide +kernel
theorem dX4_busiest_58 : decode cX4_busiest 58 = .ok (.istore_n 2, 1) := by decide +kernel
theorem dX4_busiest_59 : decode cX4_busiest 59 = .ok (.iinc 4 1, 3) := by decide +kernel
theorem dX4_busiest_62 : decode cX4_busiest 62 = .ok (.goto (-38), 3) := by decide +kernel
theorem dX4_busiest_65 : decode cX4_busiest 65 = .ok (.iload_n 1, 1) := by decide +kernel
theorem dX4_busiest_66 : decode cX4_busiest 66 = .ok (.ifCond .ne 7, 3) := by decide +kernel
theorem dX4_busiest_69 : decode cX4_busiest 69 = .ok (.iload_n 2, 1) := by decide +kernel
theorem dX4_busiest_70 : decode cX4_busiest 70 = .ok (.goto 4, 3) := by decide +kernel
theorem dX4_busiest_73 : decode cX4_busiest 73 = .ok (.iload_n 3, 1) := by decide +kernel
theorem dX4_busiest_74 : decode cX4_busiest 74 = .ok (.ireturn, 1) := by decide +kernel
theorem dX4_ring_0 : decode cX4_ring 0 = .ok (.aload_n 0, 1) := by decide +kernel
theorem dX4_ring_1 : decode cX4_ring 1 = .ok (.getfield 10, 3) := by decide +kernel
theorem dX4_ring_4 : decode cX4_ring 4 = .ok (.iload_n 1, 1) := by decide +kernel
theorem dX4_ring_5 : decode cX4_ring 5 = .ok (.invokevirtual 85, 3) := by decide +kernel
theorem dX4_ring_8 : decode cX4_ring 8 = .ok (.ifCond .ne 9, 3) := by decide +kernel
theorem dX4_ring_11 : decode cX4_ring 11 = .ok (.aload_n 0, 1) := by decide +kernel
theorem dX4_ring_12 : decode cX4_ring 12 = .ok (.iconst (-1), 1) := by decide +kernel
theorem dX4_ring_13 : decode cX4_ring 13 = .ok (.invokevirtual 48, 3) := by decide +kernel
theorem dX4_ring_16 : decode cX4_ring 16 = .ok (.ireturn, 1) := by decide +kernel
theorem dX4_ring_17 : decode cX4_ring 17 = .ok (.iload_n 2, 1) := by decide +kernel
theorem dX4_ring_18 : decode cX4_ring 18 = .ok (.ifCond .lt 8, 3) := by decide +kernel
theorem dX4_ring_21 : decode cX4_ring 21 = .ok (.iload_n 2, 1) := by decide +kernel
theorem dX4_ring_22 : decode cX4_ring 22 = .ok (.iconst 1, 1) := by decide +kernel
theorem dX4_ring_23 : decode cX4_ring 23 = .ok (.if_icmp .le 10, 3) := by decide +kernel
theorem dX4_ring_26 : decode cX4_ring 26 = .ok (.aload_n 0, 1) := by decide +kernel
theorem dX4_ring_27 : decode cX4_ring 27 = .ok (.bipush (-2), 2) := by decide +kernel
theorem dX4_ring_29 : decode cX4_ring 29 = .ok (.invokevirtual 48, 3) := by decide +kernel
theorem dX4_ring_32 : decode cX4_ring 32 = .ok (.ireturn, 1) := by decide +kernel
theorem dX4_ring_33 : decode cX4_ring 33 = .ok (.iconst 0, 1) := by decide +kernel
theorem dX4_ring_34 : decode cX4_ring 34 = .ok (.istore_n 3, 1) := by decide +kernel
theorem dX4_ring_35 : decode cX4_ring 35 = .ok (.iconst 0, 1) := by decide +kernel
theorem dX4_ring_36 : decode cX4_ring 36 = .ok (.istore 4, 2) := by decide +kernel
theorem dX4_ring_38 : decode cX4_ring 38 = .ok (.iload_n 1, 1) := by decide +kernel
theorem dX4_ring_39 : decode cX4_ring 39 = .ok (.istore 5, 2) := by decide +kernel
theorem dX4_ring_41 : decode cX4_ring 41 = .ok (.iconst 0, 1) := by decide +kernel
theorem dX4_ring_42 : decode cX4_ring 42 = .ok (.istore 6, 2) := by decide +kernel
theorem dX4_ring_44 : decode cX4_ring 44 = .ok (.iload 6, 2) := by decide +kernel
theorem dX4_ring_46 : decode cX4_ring 46 = .ok (.bipush 6, 2) := by decide +kernel
theorem dX4_ring_48 : decode cX4_ring 48 = .ok (.if_icmp .ge 46, 3) := by decide +kernel
theorem dX4_ring_51 : decode cX4_ring 51 = .ok (.iload 5, 2) := by decide +kernel
theorem dX4_ring_53 : decode cX4_ring 53 = .ok (.ifCond .lt 41, 3) := by decide +kernel
theorem dX4_ring_56 : decode cX4_ring 56 = .ok (.iload_n 3, 1) := by decide +kernel
theorem dX4_ring_57 : decode cX4_ring 57 = .ok (.iload 5, 2) := by decide +kernel
theorem dX4_ring_59 : decode cX4_ring 59 = .ok (.ishr, 1) := by decide +kernel
theorem dX4_ring_60 : decode cX4_ring 60 = .ok (.iconst 1, 1) := by decide +kernel
theorem dX4_ring_61 : decode cX4_ring 61 = .ok (.iand, 1) := by decide +kernel
theorem dX4_ring_62 : decode cX4_ring 62 = .ok (.ifCond .ne 32, 3) := by decide +kernel
theorem dX4_ring_65 : decode cX4_ring 65 = .ok (.iload_n 3, 1) := by decide +kernel
theorem dX4_ring_66 : decode cX4_ring 66 = .ok (.iconst 1, 1) := by decide +kernel
theorem dX4_ring_67 : decode cX4_ring 67 = .ok (.iload 5, 2) := by decide +kernel
theorem dX4_ring_69 : decode cX4_ring 69 = .ok (.ishl, 1) := by decide +kernel
theorem dX4_ring_70 : decode cX4_ring 70 = .ok (.ior, 1) := by decide +kernel
theorem dX4_ring_71 : decode cX4_ring 71 = .ok (.istore_n 3, 1) := by decide +kernel
theorem dX4_ring_72 : decode cX4_ring 72 = .ok (.iinc 4 1, 3) := by decide +kernel
theorem dX4_ring_75 : decode cX4_ring 75 = .ok (.aload_n 0, 1) := by decide +kernel
theorem dX4_ring_76 : decode cX4_ring 76 = .ok (.getfield 10, 3) := by decide +kernel
theorem dX4_ring_79 : decode cX4_ring 79 = .ok (.iload 5, 2) := by decide +kernel
theorem dX4_ring_81 : decode cX4_ring 81 = .ok (.bipush (-9), 2) := by decide +kernel
theorem dX4_ring_83 : decode cX4_ring 83 = .ok (.invokevirtual 162, 3) := by decide +kernel
theorem dX4_ring_86 : decode cX4_ring 86 = .ok (.istore 5, 2) := by decide +kernel
theorem dX4_ring_88 : decode cX4_ring 88 = .ok (.iinc 6 1, 3) := by decide +kernel
theorem dX4_ring_91 : decode cX4_ring 91 = .ok (.goto (-47), 3) := by decide +kernel
theorem dX4_ring_94 : decode cX4_ring 94 = .ok (.iload_n 2, 1) := by decide +kernel
theorem dX4_ring_95 : decode cX4_ring 95 = .ok (.ifCond .ne 8, 3) := by decide +kernel
theorem dX4_ring_98 : decode cX4_ring 98 = .ok (.iload 4, 2) := by decide +kernel
theorem dX4_ring_100 : decode cX4_ring 100 = .ok (.goto 13, 3) := by decide +kernel
theorem dX4_ring_103 : decode cX4_ring 103 = .ok (.iload 5, 2) := by decide +kernel
theorem dX4_ring_105 : decode cX4_ring 105 = .ok (.ifCond .lt 7, 3) := by decide +kernel
theorem dX4_ring_108 : decode cX4_ring 108 = .ok (.iconst 1, 1) := by decide +kernel
theorem dX4_ring_109 : decode cX4_ring 109 = .ok (.goto 4, 3) := by decide +kernel
theorem dX4_ring_112 : decode cX4_ring 112 = .ok (.iconst 0, 1) := by decide +kernel
theorem dX4_ring_113 : decode cX4_ring 113 = .ok (.ireturn, 1) := by decide +kernel
theorem dX4_slight_0 : decode cX4_slight 0 = .ok (.aload_n 0, 1) := by decide +kernel
theorem dX4_slight_1 : decode cX4_slight 1 = .ok (.iload_n 1, 1) := by decide +kernel
theorem dX4_slight_2 : decode cX4_slight 2 = .ok (.invokevirtual 174, 3) := by decide +kernel
theorem dX4_slight_5 : decode cX4_slight 5 = .ok (.istore_n 2, 1) := by decide +kernel
theorem dX4_slight_6 : decode cX4_slight 6 = .ok (.iload_n 2, 1) := by decide +kernel
theorem dX4_slight_7 : decode cX4_slight 7 = .ok (.ifCond .eq 11, 3) := by decide +kernel
theorem dX4_slight_10 : decode cX4_slight 10 = .ok (.aload_n 0, 1) := by decide +kernel
theorem dX4_slight_11 : decode cX4_slight 11 = .ok (.iload_n 2, 1) := by decide +kernel
theorem dX4_slight_12 : decode cX4_slight 12 = .ok (.invokevirtual 48, 3) := by decide +kernel
theorem dX4_slight_15 : decode cX4_slight 15 = .ok (.goto 15, 3) := by decide +kernel
theorem dX4_slight_18 : decode cX4_slight 18 = .ok (.aload_n 0, 1) := by decide +kernel
theorem dX4_slight_19 : decode cX4_slight 19 = .ok (.getfield 26, 3) := by decide +kernel
theorem dX4_slight_22 : decode cX4_slight 22 = .ok (.aload_n 0, 1) := by decide +kernel
theorem dX4_slight_23 : decode cX4_slight 23 = .ok (.getfield 10, 3) := by decide +kernel
theorem dX4_slight_26 : decode cX4_slight 26 = .ok (.iload_n 1, 1) := by decide +kernel
theorem dX4_slight_27 : decode cX4_slight 27 = .ok (.invokevirtual 177, 3) := by decide +kernel
theorem dX4_slight_30 : decode cX4_slight 30 = .ok (.ireturn, 1) := by decide +kernel
theorem dX4_cost_0 : decode cX4_cost 0 = .ok (.aload_n 0, 1) := by decide +kernel
theorem dX4_cost_1 : decode cX4_cost 1 = .ok (.getfield 10, 3) := by decide +kernel
theorem dX4_cost_4 : decode cX4_cost 4 = .ok (.iload_n 1, 1) := by decide +kernel
theorem dX4_cost_5 : decode cX4_cost 5 = .ok (.invokevirtual 92, 3) := by decide +kernel
theorem dX4_cost_8 : decode cX4_cost 8 = .ok (.ifCond .ne 9, 3) := by decide +kernel
theorem dX4_cost_11 : decode cX4_cost 11 = .ok (.aload_n 0, 1) := by decide +kernel
theorem dX4_cost_12 : decode cX4_cost 12 = .ok (.iconst (-1), 1) := by decide +kernel
theorem dX4_cost_13 : decode cX4_cost 13 = .ok (.invokevirtual 48, 3) := by decide +kernel
theorem dX4_cost_16 : decode cX4_cost 16 = .ok (.ireturn, 1) := by decide +kernel
theorem dX4_cost_17 : decode cX4_cost 17 = .ok (.iload_n 2, 1) := by decide +kernel
theorem dX4_cost_18 : decode cX4_cost 18 = .ok (.iconst 1, 1) := by decide +kernel
theorem dX4_cost_19 : decode cX4_cost 19 = .ok (.if_icmp .ge 10, 3) := by decide +kernel
theorem dX4_cost_22 : decode cX4_cost 22 = .ok (.aload_n 0, 1) := by decide +kernel
theorem dX4_cost_23 : decode cX4_cost 23 = .ok (.bipush (-4), 2) := by decide +kernel
theorem dX4_cost_25 : decode cX4_cost 25 = .ok (.invokevirtual 48, 3) := by decide +kernel
theorem dX4_cost_28 : decode cX4_cost 28 = .ok (.ireturn, 1) := by decide +kernel
theorem dX4_cost_29 : decode cX4_cost 29 = .ok (.iload_n 2, 1) := by decide +kernel
theorem dX4_cost_30 : decode cX4_cost 30 = .ok (.bipush 60, 2) := by decide +kernel
theorem dX4_cost_32 : decode cX4_cost 32 = .ok (.if_icmp .le 10, 3) := by decide +kernel
theorem dX4_cost_35 : decode cX4_cost 35 = .ok (.aload_n 0, 1) := by decide +kernel
theorem dX4_cost_36 : decode cX4_cost 36 = .ok (.bipush (-6), 2) := by decide +kernel
theorem dX4_cost_38 : decode cX4_cost 38 = .ok (.invokevirtual 48, 3) := by decide +kernel
theorem dX4_cost_41 : decode cX4_cost 41 = .ok (.ireturn, 1) := by decide +kernel
theorem dX4_cost_42 : decode cX4_cost 42 = .ok (.aload_n 0, 1) := by decide +kernel
theorem dX4_cost_43 : decode cX4_cost 43 = .ok (.getfield 10, 3) := by decide +kernel
theorem dX4_cost_46 : decode cX4_cost 46 = .ok (.iload_n 1, 1) := by decide +kernel
theorem dX4_cost_47 : decode cX4_cost 47 = .ok (.invokevirtual 139, 3) := by decide +kernel
theorem dX4_cost_50 : decode cX4_cost 50 = .ok (.ifCond .eq 10, 3) := by decide +kernel
theorem dX4_cost_53 : decode cX4_cost 53 = .ok (.aload_n 0, 1) := by decide +kernel
theorem dX4_cost_54 : decode cX4_cost 54 = .ok (.bipush (-3), 2) := by decide +kernel
theorem dX4_cost_56 : decode cX4_cost 56 = .ok (.invokevirtual 48, 3) := by decide +kernel
theorem dX4_cost_59 : decode cX4_cost 59 = .ok (.ireturn, 1) := by decide +kernel
theorem dX4_cost_60 : decode cX4_cost 60 = .ok (.iconst 0, 1) := by decide +kernel
theorem dX4_cost_61 : decode cX4_cost 61 = .ok (.istore_n 3, 1) := by decide +kernel
theorem dX4_cost_62 : decode cX4_cost 62 = .ok (.iload_n 3, 1) := by decide +kernel
theorem dX4_cost_63 : decode cX4_cost 63 = .ok (.iconst 3, 1) := by decide +kernel
theorem dX4_cost_64 : decode cX4_cost 64 = .ok (.if_icmp .gt 28, 3) := by decide +kernel
theorem dX4_cost_67 : decode cX4_cost 67 = .ok (.aload_n 0, 1) := by decide +kernel
theorem dX4_cost_68 : decode cX4_cost 68 = .ok (.getfield 26, 3) := by decide +kernel
theorem dX4_cost_71 : decode cX4_cost 71 = .ok (.aload_n 0, 1) := by decide +kernel
theorem dX4_cost_72 : decode cX4_cost 72 = .ok (.getfield 10, 3) := by decide +kernel
theorem dX4_cost_75 : decode cX4_cost 75 = .ok (.iload_n 1, 1) := by decide +kernel
theorem dX4_cost_76 : decode cX4_cost 76 = .ok (.iload_n 2, 1) := by decide +kernel
theorem dX4_cost_77 : decode cX4_cost 77 = .ok (.iload_n 3, 1) := by decide +kernel
theorem dX4_cost_78 : decode cX4_cost 78 = .ok (.invokevirtual 181, 3) := by decide +kernel
theorem dX4_cost_81 : decode cX4_cost 81 = .ok (.ifCond .eq 5, 3) := by decide +kernel
theorem dX4_cost_84 : decode cX4_cost 84 = .ok (.iload_n 3, 1) := by decide +kernel
theorem dX4_cost_85 : decode cX4_cost 85 = .ok (.ireturn, 1) := by decide +kernel
theorem dX4_cost_86 : decode cX4_cost 86 = .ok (.iinc 3 1, 3) := by decide +kernel
theorem dX4_cost_89 : decode cX4_cost 89 = .ok (.goto (-27), 3) := by decide +kernel
theorem dX4_cost_92 : decode cX4_cost 92 = .ok (.bipush (-9), 2) := by decide +kernel
theorem dX4_cost_94 : decode cX4_cost 94 = .ok (.ireturn, 1) := by decide +kernel
theorem dX4_makeUp_0 : decode cX4_makeUp 0 = .ok (.aload_n 0, 1) := by decide +kernel
theorem dX4_makeUp_1 : decode cX4_makeUp 1 = .ok (.iload_n 1, 1) := by decide +kernel
theorem dX4_makeUp_2 : decode cX4_makeUp 2 = .ok (.invokevirtual 174, 3) := by decide +kernel
theorem dX4_makeUp_5 : decode cX4_makeUp 5 = .ok (.istore_n 2, 1) := by decide +kernel
theorem dX4_makeUp_6 : decode cX4_makeUp 6 = .ok (.iload_n 2, 1) := by decide +kernel
theorem dX4_makeUp_7 : decode cX4_makeUp 7 = .ok (.ifCond .eq 11, 3) := by decide +kernel
theorem dX4_makeUp_10 : decode cX4_makeUp 10 = .ok (.aload_n 0, 1) := by decide +kernel
theorem dX4_makeUp_11 : decode cX4_makeUp 11 = .ok (.iload_n 2, 1) := by decide +kernel
theorem dX4_makeUp_12 : decode cX4_makeUp 12 = .ok (.invokevirtual 48, 3) := by decide +kernel
theorem dX4_makeUp_15 : decode cX4_makeUp 15 = .ok (.goto 15, 3) := by decide +kernel
theorem dX4_makeUp_18 : decode cX4_makeUp 18 = .ok (.aload_n 0, 1) := by decide +kernel
theorem dX4_makeUp_19 : decode cX4_makeUp 19 = .ok (.getfield 26, 3) := by decide +kernel
theorem dX4_makeUp_22 : decode cX4_makeUp 22 = .ok (.aload_n 0, 1) := by decide +kernel
theorem dX4_makeUp_23 : decode cX4_makeUp 23 = .ok (.getfield 10, 3) := by decide +kernel
theorem dX4_makeUp_26 : decode cX4_makeUp 26 = .ok (.iload_n 1, 1) := by decide +kernel
theorem dX4_makeUp_27 : decode cX4_makeUp 27 = .ok (.invokevirtual 185, 3) := by decide +kernel
theorem dX4_makeUp_30 : decode cX4_makeUp 30 = .ok (.ireturn, 1) := by decide +kernel
theorem dX4_post_0 : decode cX4_post 0 = .ok (.aload_n 0, 1) := by decide +kernel
theorem dX4_post_1 : decode cX4_post 1 = .ok (.getfield 10, 3) := by decide +kernel
theorem dX4_post_4 : decode cX4_post 4 = .ok (.iload_n 1, 1) := by decide +kernel
theorem dX4_post_5 : decode cX4_post 5 = .ok (.invokevirtual 85, 3) := by decide +kernel
theorem dX4_post_8 : decode cX4_post 8 = .ok (.ifCond .ne 9, 3) := by decide +kernel
theorem dX4_post_11 : decode cX4_post 11 = .ok (.aload_n 0, 1) := by decide +kernel
theorem dX4_post_12 : decode cX4_post 12 = .ok (.iconst (-1), 1) := by decide +kernel
theorem dX4_post_13 : decode cX4_post 13 = .ok (.invokevirtual 48, 3) := by decide +kernel
theorem dX4_post_16 : decode cX4_post 16 = .ok (.ireturn, 1) := by decide +kernel
theorem dX4_post_17 : decode cX4_post 17 = .ok (.iload_n 2, 1) := by decide +kernel
theorem dX4_post_18 : decode cX4_post 18 = .ok (.ifCond .lt 8, 3) := by decide +kernel
theorem dX4_post_21 : decode cX4_post 21 = .ok (.iload_n 2, 1) := by decide +kernel
theorem dX4_post_22 : decode cX4_post 22 = .ok (.iconst 1, 1) := by decide +kernel
theorem dX4_post_23 : decode cX4_post 23 = .ok (.if_icmp .le 10, 3) := by decide +kernel
theorem dX4_post_26 : decode cX4_post 26 = .ok (.aload_n 0, 1) := by decide +kernel
theorem dX4_post_27 : decode cX4_post 27 = .ok (.bipush (-2), 2) := by decide +kernel
theorem dX4_post_29 : decode cX4_post 29 = .ok (.invokevirtual 48, 3) := by decide +kernel
theorem dX4_post_32 : decode cX4_post 32 = .ok (.ireturn, 1) := by decide +kernel
theorem dX4_post_33 : decode cX4_post 33 = .ok (.aload_n 0, 1) := by decide +kernel
theorem dX4_post_34 : decode cX4_post 34 = .ok (.getfield 26, 3) := by decide +kernel
theorem dX4_post_37 : decode cX4_post 37 = .ok (.aload_n 0, 1) := by decide +kernel
theorem dX4_post_38 : decode cX4_post 38 = .ok (.getfield 10, 3) := by decide +kernel
theorem dX4_post_41 : decode cX4_post 41 = .ok (.iload_n 1, 1) := by decide +kernel
theorem dX4_post_42 : decode cX4_post 42 = .ok (.iload_n 2, 1) := by decide +kernel
theorem dX4_post_43 : decode cX4_post 43 = .ok (.iconst 1, 1) := by decide +kernel
theorem dX4_post_44 : decode cX4_post 44 = .ok (.if_icmp .ne 7, 3) := by decide +kernel
theorem dX4_post_47 : decode cX4_post 47 = .ok (.iconst 1, 1) := by decide +kernel
theorem dX4_post_48 : decode cX4_post 48 = .ok (.goto 4, 3) := by decide +kernel
theorem dX4_post_51 : decode cX4_post 51 = .ok (.iconst 0, 1) := by decide +kernel
theorem dX4_post_52 : decode cX4_post 52 = .ok (.invokevirtual 188, 3) := by decide +kernel
theorem dX4_post_55 : decode cX4_post 55 = .ok (.ireturn, 1) := by decide +kernel
theorem dX4_road_0 : decode cX4_road 0 = .ok (.aload_n 0, 1) := by decide +kernel
theorem dX4_road_1 : decode cX4_road 1 = .ok (.getfield 10, 3) := by decide +kernel
theorem dX4_road_4 : decode cX4_road 4 = .ok (.iload_n 1, 1) := by decide +kernel
theorem dX4_road_5 : decode cX4_road 5 = .ok (.iload_n 2, 1) := by decide +kernel
theorem dX4_road_6 : decode cX4_road 6 = .ok (.invokevirtual 98, 3) := by decide +kernel
theorem dX4_road_9 : decode cX4_road 9 = .ok (.ifCond .ne 9, 3) := by decide +kernel
theorem dX4_road_12 : decode cX4_road 12 = .ok (.aload_n 0, 1) := by decide +kernel
theorem dX4_road_13 : decode cX4_road 13 = .ok (.iconst (-1), 1) := by decide +kernel
theorem dX4_road_14 : decode cX4_road 14 = .ok (.invokevirtual 48, 3) := by decide +kernel
theorem dX4_road_17 : decode cX4_road 17 = .ok (.ireturn, 1) := by decide +kernel
theorem dX4_road_18 : decode cX4_road 18 = .ok (.aload_n 0, 1) := by decide +kernel
theorem dX4_road_19 : decode cX4_road 19 = .ok (.getfield 10, 3) := by decide +kernel
theorem dX4_road_22 : decode cX4_road 22 = .ok (.iload_n 1, 1) := by decide +kernel
theorem dX4_road_23 : decode cX4_road 23 = .ok (.iload_n 2, 1) := by decide +kernel
theorem dX4_road_24 : decode cX4_road 24 = .ok (.invokevirtual 192, 3) := by decide +kernel
theorem dX4_road_27 : decode cX4_road 27 = .ok (.ireturn, 1) := by decide +kernel
theorem dX4_farthest_0 : decode cX4_farthest 0 = .ok (.iconst (-1), 1) := by decide +kernel
theorem dX4_farthest_1 : decode cX4_farthest 1 = .ok (.istore_n 1, 1) := by decide +kernel
theorem dX4_farthest_2 : decode cX4_farthest 2 = .ok (.bipush (-9), 2) := by decide +kernel
theorem dX4_farthest_4 : decode cX4_farthest 4 = .ok (.istore_n 2, 1) := by decide +kernel
theorem dX4_farthest_5 : decode cX4_farthest 5 = .ok (.iconst 0, 1) := by decide +kernel
theorem dX4_farthest_6 : decode cX4_farthest 6 = .ok (.istore_n 3, 1) := by decide +kernel
theorem dX4_farthest_7 : decode cX4_farthest 7 = .ok (.iload_n 3, 1) := by decide +kernel
theorem dX4_farthest_8 : decode cX4_farthest 8 = .ok (.aload_n 0, 1) := by decide +kernel
theorem dX4_farthest_9 : decode cX4_farthest 9 = .ok (.getfield 10, 3) := by decide +kernel
theorem dX4_farthest_12 : decode cX4_farthest 12 = .ok (.getfield 168, 3) := by decide +kernel
theorem dX4_farthest_15 : decode cX4_farthest 15 = .ok (.if_icmp .ge 61, 3) := by decide +kernel
theorem dX4_farthest_18 : decode cX4_farthest 18 = .ok (.iload_n 3, 1) := by decide +kernel
theorem dX4_farthest_19 : decode cX4_farthest 19 = .ok (.iconst 1, 1) := by decide +kernel
theorem dX4_farthest_20 : decode cX4_farthest 20 = .ok (.iadd, 1) := by decide +kernel
theorem dX4_farthest_21 : decode cX4_farthest 21 = .ok (.istore 4, 2) := by decide +kernel
theorem dX4_farthest_23 : decode cX4_farthest 23 = .ok (.iload 4, 2) := by decide +kernel
theorem dX4_farthest_25 : decode cX4_farthest 25 = .ok (.aload_n 0, 1) := by decide +kernel
theorem dX4_farthest_26 : decode cX4_farthest 26 = .ok (.getfield 10, 3) := by decide +kernel
theorem dX4_farthest_29 : decode cX4_farthest 29 = .ok (.getfield 168, 3) := by decide +kernel
theorem dX4_farthest_32 : decode cX4_farthest 32 = .ok (.if_icmp .ge 38, 3) := by decide +kernel
theorem dX4_farthest_35 : decode cX4_farthest 35 = .ok (.aload_n 0, 1) := by decide +kernel
theorem dX4_farthest_36 : decode cX4_farthest 36 = .ok (.getfield 10, 3) := by decide +kernel
theorem dX4_farthest_39 : decode cX4_farthest 39 = .ok (.iload_n 3, 1) := by decide +kernel
theorem dX4_farthest_40 : decode cX4_farthest 40 = .ok (.iload 4, 2) := by decide +kernel
theorem dX4_farthest_42 : decode cX4_farthest 42 = .ok (.invokevirtual 192, 3) := by decide +kernel
theorem dX4_farthest_45 : decode cX4_farthest 45 = .ok (.istore 5, 2) := by decide +kernel
theorem dX4_farthest_47 : decode cX4_farthest 47 = .ok (.iload 5, 2) := by decide +kernel
theorem dX4_farthest_49 : decode cX4_farthest 49 = .ok (.iload_n 1, 1) := by decide +kernel
theorem dX4_farthest_50 : decode cX4_farthest 50 = .ok (.if_icmp .le 14, 3) := by decide +kernel
theorem dX4_farthest_53 : decode cX4_farthest 53 = .ok (.iload 5, 2) := by decide +kernel
theorem dX4_farthest_55 : decode cX4_farthest 55 = .ok (.istore_n 1, 1) := by decide +kernel
theorem dX4_farthest_56 : decode cX4_farthest 56 = .ok (.bipush 10, 2) := by decide +kernel
theorem dX4_farthest_58 : decode cX4_farthest 58 = .ok (.iload_n 3, 1) := by decide +kernel
theorem dX4_farthest_59 : decode cX4_farthest 59 = .ok (.imul, 1) := by decide +kernel
theorem dX4_farthest_60 : decode cX4_farthest 60 = .ok (.iload 4, 2) := by decide +kernel
theorem dX4_farthest_62 : decode cX4_farthest 62 = .ok (.iadd, 1) := by decide +kernel
theorem dX4_farthest_63 : decode cX4_farthest 63 = .ok (.istore_n 2, 1) := by decide +kernel
theorem dX4_farthest_64 : decode cX4_farthest 64 = .ok (.iinc 4 1, 3) := by decide +kernel
theorem dX4_farthest_67 : decode cX4_farthest 67 = .ok (.goto (-44), 3) := by decide +kernel
theorem dX4_farthest_70 : decode cX4_farthest 70 = .ok (.iinc 3 1, 3) := by decide +kernel
theorem dX4_farthest_73 : decode cX4_farthest 73 = .ok (.goto (-66), 3) := by decide +kernel
theorem dX4_farthest_76 : decode cX4_farthest 76 = .ok (.iload_n 2, 1) := by decide +kernel
theorem dX4_farthest_77 : decode cX4_farthest 77 = .ok (.ireturn, 1) := by decide +kernel
theorem dX4_fair_0 : decode cX4_fair 0 = .ok (.iload_n 1, 1) := by decide +kernel
theorem dX4_fair_1 : decode cX4_fair 1 = .ok (.ifCond .lt 8, 3) := by decide +kernel
theorem dX4_fair_4 : decode cX4_fair 4 = .ok (.iload_n 1, 1) := by decide +kernel
theorem dX4_fair_5 : decode cX4_fair 5 = .ok (.iconst 2, 1) := by decide +kernel
theorem dX4_fair_6 : decode cX4_fair 6 = .ok (.if_icmp .le 10, 3) := by decide +kernel
theorem dX4_fair_9 : decode cX4_fair 9 = .ok (.aload_n 0, 1) := by decide +kernel
theorem dX4_fair_10 : decode cX4_fair 10 = .ok (.bipush (-2), 2) := by decide +kernel
theorem dX4_fair_12 : decode cX4_fair 12 = .ok (.invokevirtual 48, 3) := by decide +kernel
theorem dX4_fair_15 : decode cX4_fair 15 = .ok (.ireturn, 1) := by decide +kernel
theorem dX4_fair_16 : decode cX4_fair 16 = .ok (.iload_n 1, 1) := by decide +kernel
theorem dX4_fair_17 : decode cX4_fair 17 = .ok (.iconst 2, 1) := by decide +kernel
theorem dX4_fair_18 : decode cX4_fair 18 = .ok (.if_icmp .ne 11, 3) := by decide +kernel
theorem dX4_fair_21 : decode cX4_fair 21 = .ok (.aload_n 0, 1) := by decide +kernel
theorem dX4_fair_22 : decode cX4_fair 22 = .ok (.getfield 10, 3) := by decide +kernel
theorem dX4_fair_25 : decode cX4_fair 25 = .ok (.invokevirtual 195, 3) := by decide +kernel
theorem dX4_fair_28 : decode cX4_fair 28 = .ok (.ireturn, 1) := by decide +kernel
theorem dX4_fair_29 : decode cX4_fair 29 = .ok (.bipush (-9), 2) := by decide +kernel
theorem dX4_fair_31 : decode cX4_fair 31 = .ok (.istore_n 2, 1) := by decide +kernel
theorem dX4_fair_32 : decode cX4_fair 32 = .ok (.bipush (-9), 2) := by decide +kernel
theorem dX4_fair_34 : decode cX4_fair 34 = .ok (.istore_n 3, 1) := by decide +kernel
theorem dX4_fair_35 : decode cX4_fair 35 = .ok (.iconst 0, 1) := by decide +kernel
theorem dX4_fair_36 : decode cX4_fair 36 = .ok (.istore 4, 2) := by decide +kernel
theorem dX4_fair_38 : decode cX4_fair 38 = .ok (.iload 4, 2) := by decide +kernel
theorem dX4_fair_40 : decode cX4_fair 40 = .ok (.aload_n 0, 1) := by decide +kernel
theorem dX4_fair_41 : decode cX4_fair 41 = .ok (.getfield 10, 3) := by decide +kernel
theorem dX4_fair_44 : decode cX4_fair 44 = .ok (.getfield 168, 3) := by decide +kernel
theorem dX4_fair_47 : decode cX4_fair 47 = .ok (.if_icmp .ge 32, 3) := by decide +kernel
theorem dX4_fair_50 : decode cX4_fair 50 = .ok (.aload_n 0, 1) := by decide +kernel
theorem dX4_fair_51 : decode cX4_fair 51 = .ok (.getfield 10, 3) := by decide +kernel
theorem dX4_fair_54 : decode cX4_fair 54 = .ok (.iload 4, 2) := by decide +kernel
theorem dX4_fair_56 : decode cX4_fair 56 = .ok (.invokevirtual 198, 3) := by decide +kernel
theorem dX4_fair_59 : decode cX4_fair 59 = .ok (.istore 5, 2) := by decide +kernel
theorem dX4_fair_61 : decode cX4_fair 61 = .ok (.iload 5, 2) := by decide +kernel
theorem dX4_fair_63 : decode cX4_fair 63 = .ok (.iload_n 3, 1) := by decide +kernel
theorem dX4_fair_64 : decode cX4_fair 64 = .ok (.if_icmp .le 9, 3) := by decide +kernel
theorem dX4_fair_67 : decode cX4_fair 67 = .ok (.iload 5, 2) := by decide +kernel
theorem dX4_fair_69 : decode cX4_fair 69 = .ok (.istore_n 3, 1) := by decide +kernel
theorem dX4_fair_70 : decode cX4_fair 70 = .ok (.iload 4, 2) := by decide +kernel
theorem dX4_fair_72 : decode cX4_fair 72 = .ok (.istore_n 2, 1) := by decide +kernel
theorem dX4_fair_73 : decode cX4_fair 73 = .ok (.iinc 4 1, 3) := by decide +kernel
theorem dX4_fair_76 : decode cX4_fair 76 = .ok (.goto (-38), 3) := by decide +kernel
theorem dX4_fair_79 : decode cX4_fair 79 = .ok (.iload_n 1, 1) := by decide +kernel
theorem dX4_fair_80 : decode cX4_fair 80 = .ok (.ifCond .ne 7, 3) := by decide +kernel
theorem dX4_fair_83 : decode cX4_fair 83 = .ok (.iload_n 2, 1) := by decide +kernel
theorem dX4_fair_84 : decode cX4_fair 84 = .ok (.goto 4, 3) := by decide +kernel
theorem dX4_fair_87 : decode cX4_fair 87 = .ok (.iload_n 3, 1) := by decide +kernel
theorem dX4_fair_88 : decode cX4_fair 88 = .ok (.ireturn, 1) := by decide +kernel
theorem dX4_two_0 : decode cX4_two 0 = .ok (.aload_n 0, 1) := by decide +kernel
theorem dX4_two_1 : decode cX4_two 1 = .ok (.getfield 10, 3) := by decide +kernel
theorem dX4_two_4 : decode cX4_two 4 = .ok (.iload_n 1, 1) := by decide +kernel
theorem dX4_two_5 : decode cX4_two 5 = .ok (.iload_n 2, 1) := by decide +kernel
theorem dX4_two_6 : decode cX4_two 6 = .ok (.invokevirtual 98, 3) := by decide +kernel
theorem dX4_two_9 : decode cX4_two 9 = .ok (.ifCond .ne 9, 3) := by decide +kernel
theorem dX4_two_12 : decode cX4_two 12 = .ok (.aload_n 0, 1) := by decide +kernel
theorem dX4_two_13 : decode cX4_two 13 = .ok (.iconst (-1), 1) := by decide +kernel
theorem dX4_two_14 : decode cX4_two 14 = .ok (.invokevirtual 48, 3) := by decide +kernel
theorem dX4_two_17 : decode cX4_two 17 = .ok (.ireturn, 1) := by decide +kernel
theorem dX4_two_18 : decode cX4_two 18 = .ok (.iload_n 3, 1) := by decide +kernel
theorem dX4_two_19 : decode cX4_two 19 = .ok (.iconst 1, 1) := by decide +kernel
theorem dX4_two_20 : decode cX4_two 20 = .ok (.if_icmp .ge 10, 3) := by decide +kernel
theorem dX4_two_23 : decode cX4_two 23 = .ok (.aload_n 0, 1) := by decide +kernel
theorem dX4_two_24 : decode cX4_two 24 = .ok (.bipush (-4), 2) := by decide +kernel
theorem dX4_two_26 : decode cX4_two 26 = .ok (.invokevirtual 48, 3) := by decide +kernel
theorem dX4_two_29 : decode cX4_two 29 = .ok (.ireturn, 1) := by decide +kernel
theorem dX4_two_30 : decode cX4_two 30 = .ok (.iload_n 3, 1) := by decide +kernel
theorem dX4_two_31 : decode cX4_two 31 = .ok (.bipush 60, 2) := by decide +kernel
theorem dX4_two_33 : decode cX4_two 33 = .ok (.if_icmp .le 10, 3) := by decide +kernel
theorem dX4_two_36 : decode cX4_two 36 = .ok (.aload_n 0, 1) := by decide +kernel
theorem dX4_two_37 : decode cX4_two 37 = .ok (.bipush (-6), 2) := by decide +kernel
theorem dX4_two_39 : decode cX4_two 39 = .ok (.invokevirtual 48, 3) := by decide +kernel
theorem dX4_two_42 : decode cX4_two 42 = .ok (.ireturn, 1) := by decide +kernel
theorem dX4_two_43 : decode cX4_two 43 = .ok (.aload_n 0, 1) := by decide +kernel
theorem dX4_two_44 : decode cX4_two 44 = .ok (.getfield 26, 3) := by decide +kernel
theorem dX4_two_47 : decode cX4_two 47 = .ok (.aload_n 0, 1) := by decide +kernel
theorem dX4_two_48 : decode cX4_two 48 = .ok (.getfield 10, 3) := by decide +kernel
theorem dX4_two_51 : decode cX4_two 51 = .ok (.iload_n 1, 1) := by decide +kernel
theorem dX4_two_52 : decode cX4_two 52 = .ok (.iload_n 2, 1) := by decide +kernel
theorem dX4_two_53 : decode cX4_two 53 = .ok (.iload_n 3, 1) := by decide +kernel
theorem dX4_two_54 : decode cX4_two 54 = .ok (.invokevirtual 201, 3) := by decide +kernel
theorem dX4_two_57 : decode cX4_two 57 = .ok (.ireturn, 1) := by decide +kernel
theorem dX4_snow_0 : decode cX4_snow 0 = .ok (.aload_n 0, 1) := by decide +kernel
theorem dX4_snow_1 : decode cX4_snow 1 = .ok (.getfield 10, 3) := by decide +kernel
theorem dX4_snow_4 : decode cX4_snow 4 = .ok (.iload_n 1, 1) := by decide +kernel
theorem dX4_snow_5 : decode cX4_snow 5 = .ok (.invokevirtual 92, 3) := by decide +kernel
theorem dX4_snow_8 : decode cX4_snow 8 = .ok (.ifCond .ne 9, 3) := by decide +kernel
theorem dX4_snow_11 : decode cX4_snow 11 = .ok (.aload_n 0, 1) := by decide +kernel
theorem dX4_snow_12 : decode cX4_snow 12 = .ok (.iconst (-1), 1) := by decide +kernel
theorem dX4_snow_13 : decode cX4_snow 13 = .ok (.invokevirtual 205, 3) := by decide +kernel
theorem dX4_snow_16 : decode cX4_snow 16 = .ok (.lreturn, 1) := by decide +kernel
theorem dX4_snow_17 : decode cX4_snow 17 = .ok (.iload_n 2, 1) := by decide +kernel
theorem dX4_snow_18 : decode cX4_snow 18 = .ok (.ifCond .lt 8, 3) := by decide +kernel
theorem dX4_snow_21 : decode cX4_snow 21 = .ok (.iload_n 3, 1) := by decide +kernel
theorem dX4_snow_22 : decode cX4_snow 22 = .ok (.iconst 2, 1) := by decide +kernel
theorem dX4_snow_23 : decode cX4_snow 23 = .ok (.if_icmp .ge 10, 3) := by decide +kernel
theorem dX4_snow_26 : decode cX4_snow 26 = .ok (.aload_n 0, 1) := by decide +kernel
theorem dX4_snow_27 : decode cX4_snow 27 = .ok (.bipush (-4), 2) := by decide +kernel
theorem dX4_snow_29 : decode cX4_snow 29 = .ok (.invokevirtual 205, 3) := by decide +kernel
theorem dX4_snow_32 : decode cX4_snow 32 = .ok (.lreturn, 1) := by decide +kernel
theorem dX4_snow_33 : decode cX4_snow 33 = .ok (.iload_n 2, 1) := by decide +kernel
theorem dX4_snow_34 : decode cX4_snow 34 = .ok (.bipush 7, 2) := by decide +kernel
theorem dX4_snow_36 : decode cX4_snow 36 = .ok (.if_icmp .gt 9, 3) := by decide +kernel
theorem dX4_snow_39 : decode cX4_snow 39 = .ok (.iload_n 3, 1) := by decide +kernel
theorem dX4_snow_40 : decode cX4_snow 40 = .ok (.bipush 20, 2) := by decide +kernel
theorem dX4_snow_42 : decode cX4_snow 42 = .ok (.if_icmp .le 10, 3) := by decide +kernel
theorem dX4_snow_45 : decode cX4_snow 45 = .ok (.aload_n 0, 1) := by decide +kernel
theorem dX4_snow_46 : decode cX4_snow 46 = .ok (.bipush (-6), 2) := by decide +kernel
theorem dX4_snow_48 : decode cX4_snow 48 = .ok (.invokevirtual 205, 3) := by decide +kernel
theorem dX4_snow_51 : decode cX4_snow 51 = .ok (.lreturn, 1) := by decide +kernel
theorem dX4_snow_52 : decode cX4_snow 52 = .ok (.iload 4, 2) := by decide +kernel
theorem dX4_snow_54 : decode cX4_snow 54 = .ok (.ifCond .lt 9, 3) := by decide +kernel
theorem dX4_snow_57 : decode cX4_snow 57 = .ok (.iload 4, 2) := by decide +kernel
theorem dX4_snow_59 : decode cX4_snow 59 = .ok (.iconst 1, 1) := by decide +kernel
theorem dX4_snow_60 : decode cX4_snow 60 = .ok (.if_icmp .le 10, 3) := by decide +kernel
theorem dX4_snow_63 : decode cX4_snow 63 = .ok (.aload_n 0, 1) := by decide +kernel
theorem dX4_snow_64 : decode cX4_snow 64 = .ok (.bipush (-2), 2) := by decide +kernel
theorem dX4_snow_66 : decode cX4_snow 66 = .ok (.invokevirtual 205, 3) := by decide +kernel
theorem dX4_snow_69 : decode cX4_snow 69 = .ok (.lreturn, 1) := by decide +kernel
theorem dX4_snow_70 : decode cX4_snow 70 = .ok (.lconst 1, 1) := by decide +kernel
theorem dX4_snow_71 : decode cX4_snow 71 = .ok (.lstore 5, 2) := by decide +kernel
theorem dX4_snow_73 : decode cX4_snow 73 = .ok (.iconst 0, 1) := by decide +kernel
theorem dX4_snow_74 : decode cX4_snow 74 = .ok (.istore 7, 2) := by decide +kernel
theorem dX4_snow_76 : decode cX4_snow 76 = .ok (.iload 7, 2) := by decide +kernel
theorem dX4_snow_78 : decode cX4_snow 78 = .ok (.iload_n 2, 1) := by decide +kernel
theorem dX4_snow_79 : decode cX4_snow 79 = .ok (.if_icmp .ge 16, 3) := by decide +kernel
theorem dX4_snow_82 : decode cX4_snow 82 = .ok (.lload 5, 2) := by decide +kernel
theorem dX4_snow_84 : decode cX4_snow 84 = .ok (.iload_n 3, 1) := by decide +kernel
theorem dX4_snow_85 : decode cX4_snow 85 = .ok (.i2l, 1) := by decide +kernel
theorem dX4_snow_86 : decode cX4_snow 86 = .ok (.lmul, 1) := by decide +kernel
theorem dX4_snow_87 : decode cX4_snow 87 = .ok (.lstore 5, 2) := by decide +kernel
theorem dX4_snow_89 : decode cX4_snow 89 = .ok (.iinc 7 1, 3) := by decide +kernel
theorem dX4_snow_92 : decode cX4_snow 92 = .ok (.goto (-16), 3) := by decide +kernel
theorem dX4_snow_95 : decode cX4_snow 95 = .ok (.aload_n 0, 1) := by decide +kernel
theorem dX4_snow_96 : decode cX4_snow 96 = .ok (.getfield 26, 3) := by decide +kernel
theorem dX4_snow_99 : decode cX4_snow 99 = .ok (.aload_n 0, 1) := by decide +kernel
theorem dX4_snow_100 : decode cX4_snow 100 = .ok (.getfield 10, 3) := by decide +kernel
theorem dX4_snow_103 : decode cX4_snow 103 = .ok (.iload_n 1, 1) := by decide +kernel
theorem dX4_snow_104 : decode cX4_snow 104 = .ok (.iload_n 2, 1) := by decide +kernel
theorem dX4_snow_105 : decode cX4_snow 105 = .ok (.iload_n 3, 1) := by decide +kernel
theorem dX4_snow_106 : decode cX4_snow 106 = .ok (.invokevirtual 209, 3) := by decide +kernel
theorem dX4_snow_109 : decode cX4_snow 109 = .ok (.lload 5, 2) := by decide +kernel
theorem dX4_snow_111 : decode cX4_snow 111 = .ok (.iload 4, 2) := by decide +kernel
theorem dX4_snow_113 : decode cX4_snow 113 = .ok (.invokestatic 213, 3) := by decide +kernel
theorem dX4_snow_116 : decode cX4_snow 116 = .ok (.lreturn, 1) := by decide +kernel
theorem dX4_mean_0 : decode cX4_mean 0 = .ok (.iload_n 1, 1) := by decide +kernel
theorem dX4_mean_1 : decode cX4_mean 1 = .ok (.ifCond .lt 8, 3) := by decide +kernel
theorem dX4_mean_4 : decode cX4_mean 4 = .ok (.iload_n 1, 1) := by decide +kernel
theorem dX4_mean_5 : decode cX4_mean 5 = .ok (.iconst 1, 1) := by decide +kernel
theorem dX4_mean_6 : decode cX4_mean 6 = .ok (.if_icmp .le 10, 3) := by decide +kernel
theorem dX4_mean_9 : decode cX4_mean 9 = .ok (.aload_n 0, 1) := by decide +kernel
theorem dX4_mean_10 : decode cX4_mean 10 = .ok (.bipush (-2), 2) := by decide +kernel
theorem dX4_mean_12 : decode cX4_mean 12 = .ok (.invokevirtual 205, 3) := by decide +kernel
theorem dX4_mean_15 : decode cX4_mean 15 = .ok (.lreturn, 1) := by decide +kernel
theorem dX4_mean_16 : decode cX4_mean 16 = .ok (.aload_n 0, 1) := by decide +kernel
theorem dX4_mean_17 : decode cX4_mean 17 = .ok (.getfield 10, 3) := by decide +kernel
theorem dX4_mean_20 : decode cX4_mean 20 = .ok (.invokevirtual 217, 3) := by decide +kernel
theorem dX4_mean_23 : decode cX4_mean 23 = .ok (.i2l, 1) := by decide +kernel
theorem dX4_mean_24 : decode cX4_mean 24 = .ok (.aload_n 0, 1) := by decide +kernel
theorem dX4_mean_25 : decode cX4_mean 25 = .ok (.getfield 10, 3) := by decide +kernel
theorem dX4_mean_28 : decode cX4_mean 28 = .ok (.getfield 168, 3) := by decide +kernel
theorem dX4_mean_31 : decode cX4_mean 31 = .ok (.aload_n 0, 1) := by decide +kernel
theorem dX4_mean_32 : decode cX4_mean 32 = .ok (.getfield 10, 3) := by decide +kernel
theorem dX4_mean_35 : decode cX4_mean 35 = .ok (.getfield 168, 3) := by decide +kernel
theorem dX4_mean_38 : decode cX4_mean 38 = .ok (.iconst 1, 1) := by decide +kernel
theorem dX4_mean_39 : decode cX4_mean 39 = .ok (.isub, 1) := by decide +kernel
theorem dX4_mean_40 : decode cX4_mean 40 = .ok (.imul, 1) := by decide +kernel
theorem dX4_mean_41 : decode cX4_mean 41 = .ok (.i2l, 1) := by decide +kernel
theorem dX4_mean_42 : decode cX4_mean 42 = .ok (.iload_n 1, 1) := by decide +kernel
theorem dX4_mean_43 : decode cX4_mean 43 = .ok (.invokestatic 213, 3) := by decide +kernel
theorem dX4_mean_46 : decode cX4_mean 46 = .ok (.lreturn, 1) := by decide +kernel
theorem dX4_who_0 : decode cX4_who 0 = .ok (.aload_n 0, 1) := by decide +kernel
theorem dX4_who_1 : decode cX4_who 1 = .ok (.getfield 10, 3) := by decide +kernel
theorem dX4_who_4 : decode cX4_who 4 = .ok (.iload_n 1, 1) := by decide +kernel
theorem dX4_who_5 : decode cX4_who 5 = .ok (.invokevirtual 92, 3) := by decide +kernel
theorem dX4_who_8 : decode cX4_who 8 = .ok (.ifCond .eq 14, 3) := by decide +kernel
theorem dX4_who_11 : decode cX4_who 11 = .ok (.aload_n 0, 1) := by decide +kernel
theorem dX4_who_12 : decode cX4_who 12 = .ok (.getfield 10, 3) := by decide +kernel
theorem dX4_who_15 : decode cX4_who 15 = .ok (.iload_n 2, 1) := by decide +kernel
theorem dX4_who_16 : decode cX4_who 16 = .ok (.invokevirtual 85, 3) := by decide +kernel
theorem dX4_who_19 : decode cX4_who 19 = .ok (.ifCond .ne 9, 3) := by decide +kernel
theorem dX4_who_22 : decode cX4_who 22 = .ok (.aload_n 0, 1) := by decide +kernel
theorem dX4_who_23 : decode cX4_who 23 = .ok (.iconst (-1), 1) := by decide +kernel
theorem dX4_who_24 : decode cX4_who 24 = .ok (.invokevirtual 48, 3) := by decide +kernel
theorem dX4_who_27 : decode cX4_who 27 = .ok (.ireturn, 1) := by decide +kernel
theorem dX4_who_28 : decode cX4_who 28 = .ok (.iload_n 3, 1) := by decide +kernel
theorem dX4_who_29 : decode cX4_who 29 = .ok (.ifCond .lt 8, 3) := by decide +kernel
theorem dX4_who_32 : decode cX4_who 32 = .ok (.iload_n 3, 1) := by decide +kernel
theorem dX4_who_33 : decode cX4_who 33 = .ok (.iconst 1, 1) := by decide +kernel
theorem dX4_who_34 : decode cX4_who 34 = .ok (.if_icmp .le 10, 3) := by decide +kernel
theorem dX4_who_37 : decode cX4_who 37 = .ok (.aload_n 0, 1) := by decide +kernel
theorem dX4_who_38 : decode cX4_who 38 = .ok (.bipush (-2), 2) := by decide +kernel
theorem dX4_who_40 : decode cX4_who 40 = .ok (.invokevirtual 48, 3) := by decide +kernel
theorem dX4_who_43 : decode cX4_who 43 = .ok (.ireturn, 1) := by decide +kernel
theorem dX4_who_44 : decode cX4_who 44 = .ok (.aload_n 0, 1) := by decide +kernel
theorem dX4_who_45 : decode cX4_who 45 = .ok (.getfield 26, 3) := by decide +kernel
theorem dX4_who_48 : decode cX4_who 48 = .ok (.aload_n 0, 1) := by decide +kernel
theorem dX4_who_49 : decode cX4_who 49 = .ok (.getfield 10, 3) := by decide +kernel
theorem dX4_who_52 : decode cX4_who 52 = .ok (.iload_n 1, 1) := by decide +kernel
theorem dX4_who_53 : decode cX4_who 53 = .ok (.iload_n 2, 1) := by decide +kernel
theorem dX4_who_54 : decode cX4_who 54 = .ok (.iload_n 3, 1) := by decide +kernel
theorem dX4_who_55 : decode cX4_who 55 = .ok (.iconst 1, 1) := by decide +kernel
theorem dX4_who_56 : decode cX4_who 56 = .ok (.if_icmp .ne 7, 3) := by decide +kernel
theorem dX4_who_59 : decode cX4_who 59 = .ok (.iconst 1, 1) := by decide +kernel
theorem dX4_who_60 : decode cX4_who 60 = .ok (.goto 4, 3) := by decide +kernel
theorem dX4_who_63 : decode cX4_who 63 = .ok (.iconst 0, 1) := by decide +kernel
theorem dX4_who_64 : decode cX4_who 64 = .ok (.aload_n 0, 1) := by decide +kernel
theorem dX4_who_65 : decode cX4_who 65 = .ok (.getfield 40, 3) := by decide +kernel
theorem dX4_who_68 : decode cX4_who 68 = .ok (.invokevirtual 220, 3) := by decide +kernel
theorem dX4_who_71 : decode cX4_who 71 = .ok (.ireturn, 1) := by decide +kernel
theorem dX4_row_0 : decode cX4_row 0 = .ok (.iload_n 1, 1) := by decide +kernel
theorem dX4_row_1 : decode cX4_row 1 = .ok (.ifCond .ge 10, 3) := by decide +kernel
theorem dX4_row_4 : decode cX4_row 4 = .ok (.aload_n 0, 1) := by decide +kernel
theorem dX4_row_5 : decode cX4_row 5 = .ok (.bipush (-4), 2) := by decide +kernel
theorem dX4_row_7 : decode cX4_row 7 = .ok (.invokevirtual 48, 3) := by decide +kernel
theorem dX4_row_10 : decode cX4_row 10 = .ok (.ireturn, 1) := by decide +kernel
theorem dX4_row_11 : decode cX4_row 11 = .ok (.iload_n 1, 1) := by decide +kernel
theorem dX4_row_12 : decode cX4_row 12 = .ok (.bipush 99, 2) := by decide +kernel
theorem dX4_row_14 : decode cX4_row 14 = .ok (.if_icmp .gt 15, 3) := by decide +kernel
theorem dX4_row_17 : decode cX4_row 17 = .ok (.aload_n 0, 1) := by decide +kernel
theorem dX4_row_18 : decode cX4_row 18 = .ok (.getfield 40, 3) := by decide +kernel
theorem dX4_row_21 : decode cX4_row 21 = .ok (.getfield 224, 3) := by decide +kernel
theorem dX4_row_24 : decode cX4_row 24 = .ok (.bipush 16, 2) := by decide +kernel
theorem dX4_row_26 : decode cX4_row 26 = .ok (.if_icmp .lt 10, 3) := by decide +kernel
theorem dX4_row_29 : decode cX4_row 29 = .ok (.aload_n 0, 1) := by decide +kernel
theorem dX4_row_30 : decode cX4_row 30 = .ok (.bipush (-6), 2) := by decide +kernel
theorem dX4_row_32 : decode cX4_row 32 = .ok (.invokevirtual 48, 3) := by decide +kernel
theorem dX4_row_35 : decode cX4_row 35 = .ok (.ireturn, 1) := by decide +kernel
theorem dX4_row_36 : decode cX4_row 36 = .ok (.aload_n 0, 1) := by decide +kernel
theorem dX4_row_37 : decode cX4_row 37 = .ok (.getfield 40, 3) := by decide +kernel
theorem dX4_row_40 : decode cX4_row 40 = .ok (.iload_n 1, 1) := by decide +kernel
theorem dX4_row_41 : decode cX4_row 41 = .ok (.invokevirtual 225, 3) := by decide +kernel
theorem dX4_row_44 : decode cX4_row 44 = .ok (.aload_n 0, 1) := by decide +kernel
theorem dX4_row_45 : decode cX4_row 45 = .ok (.getfield 40, 3) := by decide +kernel
theorem dX4_row_48 : decode cX4_row 48 = .ok (.getfield 224, 3) := by decide +kernel
theorem dX4_row_51 : decode cX4_row 51 = .ok (.ireturn, 1) := by decide +kernel
theorem dX4_judge_0 : decode cX4_judge 0 = .ok (.aload_n 0, 1) := by decide +kernel
theorem dX4_judge_1 : decode cX4_judge 1 = .ok (.getfield 40, 3) := by decide +kernel
theorem dX4_judge_4 : decode cX4_judge 4 = .ok (.getfield 224, 3) := by decide +kernel
theorem dX4_judge_7 : decode cX4_judge 7 = .ok (.istore_n 1, 1) := by decide +kernel
theorem dX4_judge_8 : decode cX4_judge 8 = .ok (.aload_n 0, 1) := by decide +kernel
theorem dX4_judge_9 : decode cX4_judge 9 = .ok (.getfield 40, 3) := by decide +kernel
theorem dX4_judge_12 : decode cX4_judge 12 = .ok (.iconst 0, 1) := by decide +kernel
theorem dX4_judge_13 : decode cX4_judge 13 = .ok (.putfield 224, 3) := by decide +kernel
theorem dX4_judge_16 : decode cX4_judge 16 = .ok (.iconst 0, 1) := by decide +kernel
theorem dX4_judge_17 : decode cX4_judge 17 = .ok (.istore_n 2, 1) := by decide +kernel
theorem dX4_judge_18 : decode cX4_judge 18 = .ok (.iload_n 2, 1) := by decide +kernel
theorem dX4_judge_19 : decode cX4_judge 19 = .ok (.iload_n 1, 1) := by decide +kernel
theorem dX4_judge_20 : decode cX4_judge 20 = .ok (.if_icmp .ge 46, 3) := by decide +kernel
theorem dX4_judge_23 : decode cX4_judge 23 = .ok (.aload_n 0, 1) := by decide +kernel
theorem dX4_judge_24 : decode cX4_judge 24 = .ok (.getfield 10, 3) := by decide +kernel
theorem dX4_judge_27 : decode cX4_judge 27 = .ok (.iload_n 2, 1) := by decide +kernel
theorem dX4_judge_28 : decode cX4_judge 28 = .ok (.invokevirtual 85, 3) := by decide +kernel
theorem dX4_judge_31 : decode cX4_judge 31 = .ok (.ifCond .eq 27, 3) := by decide +kernel
theorem dX4_judge_34 : decode cX4_judge 34 = .ok (.aload_n 0, 1) := by decide +kernel
theorem dX4_judge_35 : decode cX4_judge 35 = .ok (.getfield 40, 3) := by decide +kernel
theorem dX4_judge_38 : decode cX4_judge 38 = .ok (.iload_n 2, 1) := by decide +kernel
theorem dX4_judge_39 : decode cX4_judge 39 = .ok (.invokevirtual 226, 3) := by decide +kernel
theorem dX4_judge_42 : decode cX4_judge 42 = .ok (.aload_n 0, 1) := by decide +kernel
theorem dX4_judge_43 : decode cX4_judge 43 = .ok (.getfield 10, 3) := by decide +kernel
theorem dX4_judge_46 : decode cX4_judge 46 = .ok (.iload_n 2, 1) := by decide +kernel
theorem dX4_judge_47 : decode cX4_judge 47 = .ok (.bipush (-9), 2) := by decide +kernel
theorem dX4_judge_49 : decode cX4_judge 49 = .ok (.invokevirtual 162, 3) := by decide +kernel
theorem dX4_judge_52 : decode cX4_judge 52 = .ok (.invokestatic 229, 3) := by decide +kernel
theorem dX4_judge_55 : decode cX4_judge 55 = .ok (.if_icmp .eq 5, 3) := by decide +kernel
theorem dX4_judge_58 : decode cX4_judge 58 = .ok (.iload_n 2, 1) := by decide +kernel
theorem dX4_judge_59 : decode cX4_judge 59 = .ok (.ireturn, 1) := by decide +kernel
theorem dX4_judge_60 : decode cX4_judge 60 = .ok (.iinc 2 1, 3) := by decide +kernel
theorem dX4_judge_63 : decode cX4_judge 63 = .ok (.goto (-45), 3) := by decide +kernel
theorem dX4_judge_66 : decode cX4_judge 66 = .ok (.bipush (-9), 2) := by decide +kernel
theorem dX4_judge_68 : decode cX4_judge 68 = .ok (.ireturn, 1) := by decide +kernel
theorem dX4_clear_0 : decode cX4_clear 0 = .ok (.aload_n 0, 1) := by decide +kernel
theorem dX4_clear_1 : decode cX4_clear 1 = .ok (.getfield 40, 3) := by decide +kernel
theorem dX4_clear_4 : decode cX4_clear 4 = .ok (.getfield 224, 3) := by decide +kernel
theorem dX4_clear_7 : decode cX4_clear 7 = .ok (.istore_n 1, 1) := by decide +kernel
theorem dX4_clear_8 : decode cX4_clear 8 = .ok (.aload_n 0, 1) := by decide +kernel
theorem dX4_clear_9 : decode cX4_clear 9 = .ok (.getfield 40, 3) := by decide +kernel
theorem dX4_clear_12 : decode cX4_clear 12 = .ok (.iconst 0, 1) := by decide +kernel
theorem dX4_clear_13 : decode cX4_clear 13 = .ok (.putfield 224, 3) := by decide +kernel
theorem dX4_clear_16 : decode cX4_clear 16 = .ok (.iload_n 1, 1) := by decide +kernel
theorem dX4_clear_17 : decode cX4_clear 17 = .ok (.ireturn, 1) := by decide +kernel
theorem dX4_lots_0 : decode cX4_lots 0 = .ok (.iload_n 1, 1) := by decide +kernel
theorem dX4_lots_1 : decode cX4_lots 1 = .ok (.iconst 1, 1) := by decide +kernel
theorem dX4_lots_2 : decode cX4_lots 2 = .ok (.if_icmp .ge 10, 3) := by decide +kernel
theorem dX4_lots_5 : decode cX4_lots 5 = .ok (.aload_n 0, 1) := by decide +kernel
theorem dX4_lots_6 : decode cX4_lots 6 = .ok (.bipush (-4), 2) := by decide +kernel
theorem dX4_lots_8 : decode cX4_lots 8 = .ok (.invokevirtual 48, 3) := by decide +kernel
theorem dX4_lots_11 : decode cX4_lots 11 = .ok (.ireturn, 1) := by decide +kernel
theorem dX4_lots_12 : decode cX4_lots 12 = .ok (.iload_n 1, 1) := by decide +kernel
theorem dX4_lots_13 : decode cX4_lots 13 = .ok (.bipush 20, 2) := by decide +kernel
theorem dX4_lots_15 : decode cX4_lots 15 = .ok (.if_icmp .le 10, 3) := by decide +kernel
theorem dX4_lots_18 : decode cX4_lots 18 = .ok (.aload_n 0, 1) := by decide +kernel
theorem dX4_lots_19 : decode cX4_lots 19 = .ok (.bipush (-6), 2) := by decide +kernel
theorem dX4_lots_21 : decode cX4_lots 21 = .ok (.invokevirtual 48, 3) := by decide +kernel
theorem dX4_lots_24 : decode cX4_lots 24 = .ok (.ireturn, 1) := by decide +kernel
theorem dX4_lots_25 : decode cX4_lots 25 = .ok (.iload_n 3, 1) := by decide +kernel
theorem dX4_lots_26 : decode cX4_lots 26 = .ok (.ifCond .lt 8, 3) := by decide +kernel
theorem dX4_lots_29 : decode cX4_lots 29 = .ok (.iload_n 3, 1) := by decide +kernel
theorem dX4_lots_30 : decode cX4_lots 30 = .ok (.iconst 1, 1) := by decide +kernel
theorem dX4_lots_31 : decode cX4_lots 31 = .ok (.if_icmp .le 10, 3) := by decide +kernel
theorem dX4_lots_34 : decode cX4_lots 34 = .ok (.aload_n 0, 1) := by decide +kernel
theorem dX4_lots_35 : decode cX4_lots 35 = .ok (.bipush (-2), 2) := by decide +kernel
theorem dX4_lots_37 : decode cX4_lots 37 = .ok (.invokevirtual 48, 3) := by decide +kernel
theorem dX4_lots_40 : decode cX4_lots 40 = .ok (.ireturn, 1) := by decide +kernel
theorem dX4_lots_41 : decode cX4_lots 41 = .ok (.aload_n 0, 1) := by decide +kernel
theorem dX4_lots_42 : decode cX4_lots 42 = .ok (.getfield 26, 3) := by decide +kernel
theorem dX4_lots_45 : decode cX4_lots 45 = .ok (.aload_n 0, 1) := by decide +kernel
theorem dX4_lots_46 : decode cX4_lots 46 = .ok (.getfield 10, 3) := by decide +kernel
theorem dX4_lots_49 : decode cX4_lots 49 = .ok (.iload_n 1, 1) := by decide +kernel
theorem dX4_lots_50 : decode cX4_lots 50 = .ok (.iload_n 2, 1) := by decide +kernel
theorem dX4_lots_51 : decode cX4_lots 51 = .ok (.iload_n 3, 1) := by decide +kernel
theorem dX4_lots_52 : decode cX4_lots 52 = .ok (.iconst 1, 1) := by decide +kernel
theorem dX4_lots_53 : decode cX4_lots 53 = .ok (.if_icmp .ne 7, 3) := by decide +kernel
theorem dX4_lots_56 : decode cX4_lots 56 = .ok (.iconst 1, 1) := by decide +kernel
theorem dX4_lots_57 : decode cX4_lots 57 = .ok (.goto 4, 3) := by decide +kernel
theorem dX4_lots_60 : decode cX4_lots 60 = .ok (.iconst 0, 1) := by decide +kernel
theorem dX4_lots_61 : decode cX4_lots 61 = .ok (.invokevirtual 232, 3) := by decide +kernel
theorem dX4_lots_64 : decode cX4_lots 64 = .ok (.ireturn, 1) := by decide +kernel
theorem dX4_image_0 : decode cX4_image 0 = .ok (.aload_n 0, 1) := by decide +kernel
theorem dX4_image_1 : decode cX4_image 1 = .ok (.getfield 16, 3) := by decide +kernel
theorem dX4_image_4 : decode cX4_image 4 = .ok (.aload_n 0, 1) := by decide +kernel
theorem dX4_image_5 : decode cX4_image 5 = .ok (.getfield 10, 3) := by decide +kernel
theorem dX4_image_8 : decode cX4_image 8 = .ok (.invokevirtual 81, 3) := by decide +kernel
theorem dX4_image_11 : decode cX4_image 11 = .ok (.aload_n 0, 1) := by decide +kernel
theorem dX4_image_12 : decode cX4_image 12 = .ok (.iconst 1, 1) := by decide +kernel
theorem dX4_image_13 : decode cX4_image 13 = .ok (.putfield 19, 3) := by decide +kernel
theorem dX4_image_16 : decode cX4_image 16 = .ok (.aload_n 0, 1) := by decide +kernel
theorem dX4_image_17 : decode cX4_image 17 = .ok (.getfield 10, 3) := by decide +kernel
theorem dX4_image_20 : decode cX4_image 20 = .ok (.getfield 130, 3) := by decide +kernel
theorem dX4_image_23 : decode cX4_image 23 = .ok (.ireturn, 1) := by decide +kernel
theorem dX4_on_0 : decode cX4_on 0 = .ok (.aload_n 0, 1) := by decide +kernel
theorem dX4_on_1 : decode cX4_on 1 = .ok (.getfield 19, 3) := by decide +kernel
theorem dX4_on_4 : decode cX4_on 4 = .ok (.ifCond .ne 10, 3) := by decide +kernel
theorem dX4_on_7 : decode cX4_on 7 = .ok (.aload_n 0, 1) := by decide +kernel
theorem dX4_on_8 : decode cX4_on 8 = .ok (.bipush (-3), 2) := by decide +kernel
theorem dX4_on_10 : decode cX4_on 10 = .ok (.invokevirtual 48, 3) := by decide +kernel
theorem dX4_on_13 : decode cX4_on 13 = .ok (.ireturn, 1) := by decide +kernel
theorem dX4_on_14 : decode cX4_on 14 = .ok (.aload_n 0, 1) := by decide +kernel
theorem dX4_on_15 : decode cX4_on 15 = .ok (.getfield 10, 3) := by decide +kernel
theorem dX4_on_18 : decode cX4_on 18 = .ok (.aload_n 0, 1) := by decide +kernel
theorem dX4_on_19 : decode cX4_on 19 = .ok (.getfield 16, 3) := by decide +kernel
theorem dX4_on_22 : decode cX4_on 22 = .ok (.invokevirtual 81, 3) := by decide +kernel
theorem dX4_on_25 : decode cX4_on 25 = .ok (.aload_n 0, 1) := by decide +kernel
theorem dX4_on_26 : decode cX4_on 26 = .ok (.getfield 10, 3) := by decide +kernel
theorem dX4_on_29 : decode cX4_on 29 = .ok (.getfield 130, 3) := by decide +kernel
theorem dX4_on_32 : decode cX4_on 32 = .ok (.ireturn, 1) := by decide +kernel
theorem dX4_count_0 : decode cX4_count 0 = .ok (.iload_n 1, 1) := by decide +kernel
theorem dX4_count_1 : decode cX4_count 1 = .ok (.tableswitch 113 0 7 #[47, 55, 63, 71, 80, 89, 97, 105], 47) := by decide +kernel
theorem dX4_count_48 : decode cX4_count 48 = .ok (.aload_n 0, 1) := by decide +kernel
theorem dX4_count_49 : decode cX4_count 49 = .ok (.getfield 10, 3) := by decide +kernel
theorem dX4_count_52 : decode cX4_count 52 = .ok (.getfield 168, 3) := by decide +kernel
theorem dX4_count_55 : decode cX4_count 55 = .ok (.ireturn, 1) := by decide +kernel
theorem dX4_count_56 : decode cX4_count 56 = .ok (.aload_n 0, 1) := by decide +kernel
theorem dX4_count_57 : decode cX4_count 57 = .ok (.getfield 10, 3) := by decide +kernel
theorem dX4_count_60 : decode cX4_count 60 = .ok (.getfield 105, 3) := by decide +kernel
theorem dX4_count_63 : decode cX4_count 63 = .ok (.ireturn, 1) := by decide +kernel
theorem dX4_count_64 : decode cX4_count 64 = .ok (.aload_n 0, 1) := by decide +kernel
theorem dX4_count_65 : decode cX4_count 65 = .ok (.getfield 10, 3) := by decide +kernel
theorem dX4_count_68 : decode cX4_count 68 = .ok (.getfield 130, 3) := by decide +kernel
theorem dX4_count_71 : decode cX4_count 71 = .ok (.ireturn, 1) := by decide +kernel
theorem dX4_count_72 : decode cX4_count 72 = .ok (.aload_n 0, 1) := by decide +kernel
theorem dX4_count_73 : decode cX4_count 73 = .ok (.getfield 10, 3) := by decide +kernel
theorem dX4_count_76 : decode cX4_count 76 = .ok (.iconst 0, 1) := by decide +kernel
theorem dX4_count_77 : decode cX4_count 77 = .ok (.invokevirtual 236, 3) := by decide +kernel
theorem dX4_count_80 : decode cX4_count 80 = .ok (.ireturn, 1) := by decide +kernel
theorem dX4_count_81 : decode cX4_count 81 = .ok (.aload_n 0, 1) := by decide +kernel
theorem dX4_count_82 : decode cX4_count 82 = .ok (.getfield 10, 3) := by decide +kernel
theorem dX4_count_85 : decode cX4_count 85 = .ok (.iconst 2, 1) := by decide +kernel
theorem dX4_count_86 : decode cX4_count 86 = .ok (.invokevirtual 236, 3) := by decide +kernel
theorem dX4_count_89 : decode cX4_count 89 = .ok (.ireturn, 1) := by decide +kernel
theorem dX4_count_90 : decode cX4_count 90 = .ok (.aload_n 0, 1) := by decide +kernel
theorem dX4_count_91 : decode cX4_count 91 = .ok (.getfield 10, 3) := by decide +kernel
theorem dX4_count_94 : decode cX4_count 94 = .ok (.invokevirtual 217, 3) := by decide +kernel
theorem dX4_count_97 : decode cX4_count 97 = .ok (.ireturn, 1) := by decide +kernel
theorem dX4_count_98 : decode cX4_count 98 = .ok (.aload_n 0, 1) := by decide +kernel
theorem dX4_count_99 : decode cX4_count 99 = .ok (.getfield 40, 3) := by decide +kernel
theorem dX4_count_102 : decode cX4_count 102 = .ok (.getfield 224, 3) := by decide +kernel
theorem dX4_count_105 : decode cX4_count 105 = .ok (.ireturn, 1) := by decide +kernel
theorem dX4_count_106 : decode cX4_count 106 = .ok (.aload_n 0, 1) := by decide +kernel
theorem dX4_count_107 : decode cX4_count 107 = .ok (.getfield 33, 3) := by decide +kernel
theorem dX4_count_110 : decode cX4_count 110 = .ok (.getfield 52, 3) := by decide +kernel
theorem dX4_count_113 : decode cX4_count 113 = .ok (.ireturn, 1) := by decide +kernel
theorem dX4_count_114 : decode cX4_count 114 = .ok (.iload_n 1, 1) := by decide +kernel
theorem dX4_count_115 : decode cX4_count 115 = .ok (.bipush 10, 2) := by decide +kernel
theorem dX4_count_117 : decode cX4_count 117 = .ok (.if_icmp .le 19, 3) := by decide +kernel
theorem dX4_count_120 : decode cX4_count 120 = .ok (.iload_n 1, 1) := by decide +kernel
theorem dX4_count_121 : decode cX4_count 121 = .ok (.bipush 16, 2) := by decide +kernel
theorem dX4_count_123 : decode cX4_count 123 = .ok (.if_icmp .gt 13, 3) := by decide +kernel
theorem dX4_count_126 : decode cX4_count 126 = .ok (.aload_n 0, 1) := by decide +kernel
theorem dX4_count_127 : decode cX4_count 127 = .ok (.getfield 44, 3) := by decide +kernel
theorem dX4_count_130 : decode cX4_count 130 = .ok (.iload_n 1, 1) := by decide +kernel
theorem dX4_count_131 : decode cX4_count 131 = .ok (.bipush 10, 2) := by decide +kernel
theorem dX4_count_133 : decode cX4_count 133 = .ok (.isub, 1) := by decide +kernel
theorem dX4_count_134 : decode cX4_count 134 = .ok (.iaload, 1) := by decide +kernel
theorem dX4_count_135 : decode cX4_count 135 = .ok (.ireturn, 1) := by decide +kernel
theorem dX4_count_136 : decode cX4_count 136 = .ok (.bipush (-9), 2) := by decide +kernel
theorem dX4_count_138 : decode cX4_count 138 = .ok (.ireturn, 1) := by decide +kernel
theorem dX4_refuse_0 : decode cX4_refuse 0 = .ok (.iload_n 1, 1) := by decide +kernel
theorem dX4_refuse_1 : decode cX4_refuse 1 = .ok (.ifCond .ge 20, 3) := by decide +kernel
theorem dX4_refuse_4 : decode cX4_refuse 4 = .ok (.iload_n 1, 1) := by decide +kernel
theorem dX4_refuse_5 : decode cX4_refuse 5 = .ok (.bipush (-6), 2) := by decide +kernel
theorem dX4_refuse_7 : decode cX4_refuse 7 = .ok (.if_icmp .lt 14, 3) := by decide +kernel
theorem dX4_refuse_10 : decode cX4_refuse 10 = .ok (.aload_n 0, 1) := by decide +kernel
theorem dX4_refuse_11 : decode cX4_refuse 11 = .ok (.getfield 44, 3) := by decide +kernel
theorem dX4_refuse_14 : decode cX4_refuse 14 = .ok (.iload_n 1, 1) := by decide +kernel
theorem dX4_refuse_15 : decode cX4_refuse 15 = .ok (.ineg, 1) := by decide +kernel
theorem dX4_refuse_16 : decode cX4_refuse 16 = .ok (.dup2, 1) := by decide +kernel
theorem dX4_refuse_17 : decode cX4_refuse 17 = .ok (.iaload, 1) := by decide +kernel
theorem dX4_refuse_18 : decode cX4_refuse 18 = .ok (.iconst 1, 1) := by decide +kernel
theorem dX4_refuse_19 : decode cX4_refuse 19 = .ok (.iadd, 1) := by decide +kernel
theorem dX4_refuse_20 : decode cX4_refuse 20 = .ok (.iastore, 1) := by decide +kernel
theorem dX4_refuse_21 : decode cX4_refuse 21 = .ok (.iload_n 1, 1) := by decide +kernel
theorem dX4_refuse_22 : decode cX4_refuse 22 = .ok (.ireturn, 1) := by decide +kernel
theorem dX4_refuseLong_0 : decode cX4_refuseLong 0 = .ok (.ldc2_w 239, 3) := by decide +kernel
theorem dX4_refuseLong_3 : decode cX4_refuseLong 3 = .ok (.aload_n 0, 1) := by decide +kernel
theorem dX4_refuseLong_4 : decode cX4_refuseLong 4 = .ok (.iload_n 1, 1) := by decide +kernel
theorem dX4_refuseLong_5 : decode cX4_refuseLong 5 = .ok (.invokevirtual 48, 3) := by decide +kernel
theorem dX4_refuseLong_8 : decode cX4_refuseLong 8 = .ok (.i2l, 1) := by decide +kernel
theorem dX4_refuseLong_9 : decode cX4_refuseLong 9 = .ok (.lsub, 1) := by decide +kernel
theorem dX4_refuseLong_10 : decode cX4_refuseLong 10 = .ok (.lreturn, 1) := by decide +kernel
theorem dX4_notWaiting_0 : decode cX4_notWaiting 0 = .ok (.aload_n 0, 1) := by decide +kernel
theorem dX4_notWaiting_1 : decode cX4_notWaiting 1 = .ok (.getfield 10, 3) := by decide +kernel
theorem dX4_notWaiting_4 : decode cX4_notWaiting 4 = .ok (.iload_n 1, 1) := by decide +kernel
theorem dX4_notWaiting_5 : decode cX4_notWaiting 5 = .ok (.invokevirtual 92, 3) := by decide +kernel
theorem dX4_notWaiting_8 : decode cX4_notWaiting 8 = .ok (.ifCond .ne 5, 3) := by decide +kernel
theorem dX4_notWaiting_11 : decode cX4_notWaiting 11 = .ok (.iconst (-1), 1) := by decide +kernel
theorem dX4_notWaiting_12 : decode cX4_notWaiting 12 = .ok (.ireturn, 1) := by decide +kernel
theorem dX4_notWaiting_13 : decode cX4_notWaiting 13 = .ok (.aload_n 0, 1) := by decide +kernel
theorem dX4_notWaiting_14 : decode cX4_notWaiting 14 = .ok (.getfield 10, 3) := by decide +kernel
theorem dX4_notWaiting_17 : decode cX4_notWaiting 17 = .ok (.iload_n 1, 1) := by decide +kernel
theorem dX4_notWaiting_18 : decode cX4_notWaiting 18 = .ok (.invokevirtual 139, 3) := by decide +kernel
theorem dX4_notWaiting_21 : decode cX4_notWaiting 21 = .ok (.ifCond .ne 7, 3) := by decide +kernel
theorem dX4_notWaiting_24 : decode cX4_notWaiting 24 = .ok (.iconst 0, 1) := by decide +kernel
theorem dX4_notWaiting_25 : decode cX4_notWaiting 25 = .ok (.goto 5, 3) := by decide +kernel
theorem dX4_notWaiting_28 : decode cX4_notWaiting 28 = .ok (.bipush (-3), 2) := by decide +kernel
theorem dX4_notWaiting_30 : decode cX4_notWaiting 30 = .ok (.ireturn, 1) := by decide +kernel
theorem dX4_asTold_0 : decode cX4_asTold 0 = .ok (.iload_n 0, 1) := by decide +kernel
theorem dX4_asTold_1 : decode cX4_asTold 1 = .ok (.ifCond .ge 8, 3) := by decide +kernel
theorem dX4_asTold_4 : decode cX4_asTold 4 = .ok (.bipush 9, 2) := by decide +kernel
theorem dX4_asTold_6 : decode cX4_asTold 6 = .ok (.goto 4, 3) := by decide +kernel
theorem dX4_asTold_9 : decode cX4_asTold 9 = .ok (.iload_n 0, 1) := by decide +kernel
theorem dX4_asTold_10 : decode cX4_asTold 10 = .ok (.ireturn, 1) := by decide +kernel
theorem dX4_dayOrNone_0 : decode cX4_dayOrNone 0 = .ok (.iload_n 0, 1) := by decide +kernel
theorem dX4_dayOrNone_1 : decode cX4_dayOrNone 1 = .ok (.bipush 100, 2) := by decide +kernel
theorem dX4_dayOrNone_3 : decode cX4_dayOrNone 3 = .ok (.if_icmp .ge 7, 3) := by decide +kernel
theorem dX4_dayOrNone_6 : decode cX4_dayOrNone 6 = .ok (.iload_n 0, 1) := by decide +kernel
theorem dX4_dayOrNone_7 : decode cX4_dayOrNone 7 = .ok (.goto 5, 3) := by decide +kernel
theorem dX4_dayOrNone_10 : decode cX4_dayOrNone 10 = .ok (.bipush (-9), 2) := by decide +kernel
theorem dX4_dayOrNone_12 : decode cX4_dayOrNone 12 = .ok (.ireturn, 1) := by decide +kernel
theorem dX4_daysTillBrought_0 : decode cX4_daysTillBrought 0 = .ok (.iconst 0, 1) := by decide +kernel
theorem dX4_daysTillBrought_1 : decode cX4_daysTillBrought 1 = .ok (.istore_n 3, 1) := by decide +kernel
theorem dX4_daysTillBrought_2 : decode cX4_daysTillBrought 2 = .ok (.iload_n 3, 1) := by decide +kernel
theorem dX4_daysTillBrought_3 : decode cX4_daysTillBrought 3 = .ok (.iload_n 2, 1) := by decide +kernel
theorem dX4_daysTillBrought_4 : decode cX4_daysTillBrought 4 = .ok (.if_icmp .gt 25, 3) := by decide +kernel
theorem dX4_daysTillBrought_7 : decode cX4_daysTillBrought 7 = .ok (.aload_n 0, 1) := by decide +kernel
theorem dX4_daysTillBrought_8 : decode cX4_daysTillBrought 8 = .ok (.iload_n 1, 1) := by decide +kernel
theorem dX4_daysTillBrought_9 : decode cX4_daysTillBrought 9 = .ok (.invokevirtual 139, 3) := by decide +kernel
theorem dX4_daysTillBrought_12 : decode cX4_daysTillBrought 12 = .ok (.iconst 2, 1) := by decide +kernel
theorem dX4_daysTillBrought_13 : decode cX4_daysTillBrought 13 = .ok (.if_icmp .ne 5, 3) := by decide +kernel
theorem dX4_daysTillBrought_16 : decode cX4_daysTillBrought 16 = .ok (.iload_n 3, 1) := by decide +kernel
theorem dX4_daysTillBrought_17 : decode cX4_daysTillBrought 17 = .ok (.ireturn, 1) := by decide +kernel
theorem dX4_daysTillBrought_18 : decode cX4_daysTillBrought 18 = .ok (.aload_n 0, 1) := by decide +kernel
theorem dX4_daysTillBrought_19 : decode cX4_daysTillBrought 19 = .ok (.iconst 0, 1) := by decide +kernel
theorem dX4_daysTillBrought_20 : decode cX4_daysTillBrought 20 = .ok (.invokevirtual 241, 3) := by decide +kernel
theorem dX4_daysTillBrought_23 : decode cX4_daysTillBrought 23 = .ok (.iinc 3 1, 3) := by decide +kernel
theorem dX4_daysTillBrought_26 : decode cX4_daysTillBrought 26 = .ok (.goto (-24), 3) := by decide +kernel
theorem dX4_daysTillBrought_29 : decode cX4_daysTillBrought 29 = .ok (.bipush 100, 2) := by decide +kernel
theorem dX4_daysTillBrought_31 : decode cX4_daysTillBrought 31 = .ok (.ireturn, 1) := by decide +kernel
theorem dX4_partOf_0 : decode cX4_partOf 0 = .ok (.lload_n 0, 1) := by decide +kernel
theorem dX4_partOf_1 : decode cX4_partOf 1 = .ok (.lload_n 2, 1) := by decide +kernel
theorem dX4_partOf_2 : decode cX4_partOf 2 = .ok (.invokestatic 245, 3) := by decide +kernel
theorem dX4_partOf_5 : decode cX4_partOf 5 = .ok (.lstore 5, 2) := by decide +kernel
theorem dX4_partOf_7 : decode cX4_partOf 7 = .ok (.lload_n 2, 1) := by decide +kernel
theorem dX4_partOf_8 : decode cX4_partOf 8 = .ok (.lconst 1, 1) := by decide +kernel
theorem dX4_partOf_9 : decode cX4_partOf 9 = .ok (.lcmp, 1) := by decide +kernel
theorem dX4_partOf_10 : decode cX4_partOf 10 = .ok (.ifCond .lt 10, 3) := by decide +kernel
theorem dX4_partOf_13 : decode cX4_partOf 13 = .ok (.lload 5, 2) := by decide +kernel
theorem dX4_partOf_15 : decode cX4_partOf 15 = .ok (.lconst 1, 1) := by decide +kernel
theorem dX4_partOf_16 : decode cX4_partOf 16 = .ok (.lcmp, 1) := by decide +kernel
theorem dX4_partOf_17 : decode cX4_partOf 17 = .ok (.ifCond .ge 14, 3) := by decide +kernel
theorem dX4_partOf_20 : decode cX4_partOf 20 = .ok (.iload 4, 2) := by decide +kernel
theorem dX4_partOf_22 : decode cX4_partOf 22 = .ok (.ifCond .ne 7, 3) := by decide +kernel
theorem dX4_partOf_25 : decode cX4_partOf 25 = .ok (.lconst 0, 1) := by decide +kernel
theorem dX4_partOf_26 : decode cX4_partOf 26 = .ok (.goto 4, 3) := by decide +kernel
theorem dX4_partOf_29 : decode cX4_partOf 29 = .ok (.lconst 1, 1) := by decide +kernel
theorem dX4_partOf_30 : decode cX4_partOf 30 = .ok (.lreturn, 1) := by decide +kernel
theorem dX4_partOf_31 : decode cX4_partOf 31 = .ok (.iload 4, 2) := by decide +kernel
theorem dX4_partOf_33 : decode cX4_partOf 33 = .ok (.ifCond .ne 7, 3) := by decide +kernel
theorem dX4_partOf_36 : decode cX4_partOf 36 = .ok (.lload_n 0, 1) := by decide +kernel
theorem dX4_partOf_37 : decode cX4_partOf 37 = .ok (.goto 4, 3) := by decide +kernel
theorem dX4_partOf_40 : decode cX4_partOf 40 = .ok (.lload_n 2, 1) := by decide +kernel
theorem dX4_partOf_41 : decode cX4_partOf 41 = .ok (.lload 5, 2) := by decide +kernel
theorem dX4_partOf_43 : decode cX4_partOf 43 = .ok (.ldiv, 1) := by decide +kernel
theorem dX4_partOf_44 : decode cX4_partOf 44 = .ok (.lreturn, 1) := by decide +kernel
theorem dX4_greatestDivisor_0 : decode cX4_greatestDivisor 0 = .ok (.lload_n 0, 1) := by decide +kernel
theorem dX4_greatestDivisor_1 : decode cX4_greatestDivisor 1 = .ok (.lstore 4, 2) := by decide +kernel
theorem dX4_greatestDivisor_3 : decode cX4_greatestDivisor 3 = .ok (.lload_n 2, 1) := by decide +kernel
theorem dX4_greatestDivisor_4 : decode cX4_greatestDivisor 4 = .ok (.lstore 6, 2) := by decide +kernel
theorem dX4_greatestDivisor_6 : decode cX4_greatestDivisor 6 = .ok (.iconst 0, 1) := by decide +kernel
theorem dX4_greatestDivisor_7 : decode cX4_greatestDivisor 7 = .ok (.istore 8, 2) := by decide +kernel
theorem dX4_greatestDivisor_9 : decode cX4_greatestDivisor 9 = .ok (.iload 8, 2) := by decide +kernel
theorem dX4_greatestDivisor_11 : decode cX4_greatestDivisor 11 = .ok (.bipush 100, 2) := by decide +kernel
theorem dX4_greatestDivisor_13 : decode cX4_greatestDivisor 13 = .ok (.if_icmp .ge 31, 3) := by decide +kernel
theorem dX4_greatestDivisor_16 : decode cX4_greatestDivisor 16 = .ok (.lload 6, 2) := by decide +kernel
theorem dX4_greatestDivisor_18 : decode cX4_greatestDivisor 18 = .ok (.lconst 0, 1) := by decide +kernel
theorem dX4_greatestDivisor_19 : decode cX4_greatestDivisor 19 = .ok (.lcmp, 1) := by decide +kernel
theorem dX4_greatestDivisor_20 : decode cX4_greatestDivisor 20 = .ok (.ifCond .le 24, 3) := by decide +kernel
theorem dX4_greatestDivisor_23 : decode cX4_greatestDivisor 23 = .ok (.lload 4, 2) := by decide +kernel
theorem dX4_greatestDivisor_25 : decode cX4_greatestDivisor 25 = .ok (.lload 6, 2) := by decide +kernel
theorem dX4_greatestDivisor_27 : decode cX4_greatestDivisor 27 = .ok (.lrem, 1) := by decide +kernel
theorem dX4_greatestDivisor_28 : decode cX4_greatestDivisor 28 = .ok (.lstore 9, 2) := by decide +kernel
theorem dX4_greatestDivisor_30 : decode cX4_greatestDivisor 30 = .ok (.lload 6, 2) := by decide +kernel
theorem dX4_greatestDivisor_32 : decode cX4_greatestDivisor 32 = .ok (.lstore 4, 2) := by decide +kernel
theorem dX4_greatestDivisor_34 : decode cX4_greatestDivisor 34 = .ok (.lload 9, 2) := by decide +kernel
theorem dX4_greatestDivisor_36 : decode cX4_greatestDivisor 36 = .ok (.lstore 6, 2) := by decide +kernel
theorem dX4_greatestDivisor_38 : decode cX4_greatestDivisor 38 = .ok (.iinc 8 1, 3) := by decide +kernel
theorem dX4_greatestDivisor_41 : decode cX4_greatestDivisor 41 = .ok (.goto (-32), 3) := by decide +kernel
theorem dX4_greatestDivisor_44 : decode cX4_greatestDivisor 44 = .ok (.lload 4, 2) := by decide +kernel
theorem dX4_greatestDivisor_46 : decode cX4_greatestDivisor 46 = .ok (.lreturn, 1) := by decide +kernel
theorem dX5_init_0 : decode cX5_init 0 = .ok (.aload_n 0, 1) := by decide +kernel
theorem dX5_init_1 : decode cX5_init 1 = .ok (.invokespecial 1, 3) := by decide +kernel
theorem dX5_init_4 : decode cX5_init 4 = .ok (.aload_n 0, 1) := by decide +kernel
theorem dX5_init_5 : decode cX5_init 5 = .ok (.bipush 7, 2) := by decide +kernel
theorem dX5_init_7 : decode cX5_init 7 = .ok (.newarray .int, 2) := by decide +kernel
theorem dX5_init_9 : decode cX5_init 9 = .ok (.putfield 7, 3) := by decide +kernel
theorem dX5_init_12 : decode cX5_init 12 = .ok (.aload_n 0, 1) := by decide +kernel
theorem dX5_init_13 : decode cX5_init 13 = .ok (.bipush 6, 2) := by decide +kernel
theorem dX5_init_15 : decode cX5_init 15 = .ok (.newarray .int, 2) := by decide +kernel
theorem dX5_init_17 : decode cX5_init 17 = .ok (.putfield 13, 3) := by decide +kernel
theorem dX5_init_20 : decode cX5_init 20 = .ok (.aload_n 0, 1) := by decide +kernel
theorem dX5_init_21 : decode cX5_init 21 = .ok (.bipush 6, 2) := by decide +kernel
theorem dX5_init_23 : decode cX5_init 23 = .ok (.newarray .int, 2) := by decide +kernel
theorem dX5_init_25 : decode cX5_init 25 = .ok (.putfield 16, 3) := by decide +kernel
theorem dX5_init_28 : decode cX5_init 28 = .ok (.aload_n 0, 1) := by decide +kernel
theorem dX5_init_29 : decode cX5_init 29 = .ok (.bipush 6, 2) := by decide +kernel
theorem dX5_init_31 : decode cX5_init 31 = .ok (.newarray .int, 2) := by decide +kernel
theorem dX5_init_33 : decode cX5_init 33 = .ok (.putfield 19, 3) := by decide +kernel
theorem dX5_init_36 : decode cX5_init 36 = .ok (.aload_n 0, 1) := by decide +kernel
theorem dX5_init_37 : decode cX5_init 37 = .ok (.bipush 6, 2) := by decide +kernel
theorem dX5_init_39 : decode cX5_init 39 = .ok (.newarray .int, 2) := by decide +kernel
theorem dX5_init_41 : decode cX5_init 41 = .ok (.putfield 22, 3) := by decide +kernel
theorem dX5_init_44 : decode cX5_init 44 = .ok (.aload_n 0, 1) := by decide +kernel
theorem dX5_init_45 : decode cX5_init 45 = .ok (.bipush 36, 2) := by decide +kernel
theorem dX5_init_47 : decode cX5_init 47 = .ok (.newarray .int, 2) := by decide +kernel
theorem dX5_init_49 : decode cX5_init 49 = .ok (.putfield 25, 3) := by decide +kernel
theorem dX5_init_52 : decode cX5_init 52 = .ok (.aload_n 0, 1) := by decide +kernel
theorem dX5_init_53 : decode cX5_init 53 = .ok (.bipush 8, 2) := by decide +kernel
theorem dX5_init_55 : decode cX5_init 55 = .ok (.newarray .int, 2) := by decide +kernel
theorem dX5_init_57 : decode cX5_init 57 = .ok (.putfield 28, 3) := by decide +kernel
theorem dX5_init_60 : decode cX5_init 60 = .ok (.aload_n 0, 1) := by decide +kernel
theorem dX5_init_61 : decode cX5_init 61 = .ok (.bipush 8, 2) := by decide +kernel
theorem dX5_init_63 : decode cX5_init 63 = .ok (.newarray .int, 2) := by decide +kernel
theorem dX5_init_65 : decode cX5_init 65 = .ok (.putfield 31, 3) := by decide +kernel
theorem dX5_init_68 : decode cX5_init 68 = .ok (.aload_n 0, 1) := by decide +kernel
theorem dX5_init_69 : decode cX5_init 69 = .ok (.bipush 8, 2) := by decide +kernel
theorem dX5_init_71 : decode cX5_init 71 = .ok (.newarray .int, 2) := by decide +kernel
theorem dX5_init_73 : decode cX5_init 73 = .ok (.putfield 34, 3) := by decide +kernel
theorem dX5_init_76 : decode cX5_init 76 = .ok (.aload_n 0, 1) := by decide +kernel
theorem dX5_init_77 : decode cX5_init 77 = .ok (.bipush 8, 2) := by decide +kernel
theorem dX5_init_79 : decode cX5_init 79 = .ok (.newarray .int, 2) := by decide +kernel
theorem dX5_init_81 : decode cX5_init 81 = .ok (.putfield 37, 3) := by decide +kernel
theorem dX5_init_84 : decode cX5_init 84 = .ok (.aload_n 0, 1) := by decide +kernel
theorem dX5_init_85 : decode cX5_init 85 = .ok (.bipush 8, 2) := by decide +kernel
theorem dX5_init_87 : decode cX5_init 87 = .ok (.newarray .int, 2) := by decide +kernel
theorem dX5_init_89 : decode cX5_init 89 = .ok (.putfield 40, 3) := by decide +kernel
theorem dX5_init_92 : decode cX5_init 92 = .ok (.aload_n 0, 1) := by decide +kernel
theorem dX5_init_93 : decode cX5_init 93 = .ok (.bipush 96, 2) := by decide +kernel
theorem dX5_init_95 : decode cX5_init 95 = .ok (.newarray .int, 2) := by decide +kernel
theorem dX5_init_97 : decode cX5_init 97 = .ok (.putfield 43, 3) := by decide +kernel
theorem dX5_init_100 : decode cX5_init 100 = .ok (.aload_n 0, 1) := by decide +kernel
theorem dX5_init_101 : decode cX5_init 101 = .ok (.bipush 48, 2) := by decide +kernel
theorem dX5_init_103 : decode cX5_init 103 = .ok (.newarray .int, 2) := by decide +kernel
theorem dX5_init_105 : decode cX5_init 105 = .ok (.putfield 46, 3) := by decide +kernel
theorem dX5_init_108 : decode cX5_init 108 = .ok (.aload_n 0, 1) := by decide +kernel
theorem dX5_init_109 : decode cX5_init 109 = .ok (.bipush 48, 2) := by decide +kernel
theorem dX5_init_111 : decode cX5_init 111 = .ok (.newarray .int, 2) := by decide +kernel
theorem dX5_init_113 : decode cX5_init 113 = .ok (.putfield 49, 3) := by decide +kernel
theorem dX5_init_116 : decode cX5_init 116 = .ok (.aload_n 0, 1) := by decide +kernel
theorem dX5_init_117 : decode cX5_init 117 = .ok (.sipush 144, 3) := by decide +kernel
theorem dX5_init_120 : decode cX5_init 120 = .ok (.newarray .int, 2) := by decide +kernel
theorem dX5_init_122 : decode cX5_init 122 = .ok (.putfield 52, 3) := by decide +kernel
theorem dX5_init_125 : decode cX5_init 125 = .ok (.aload_n 0, 1) := by decide +kernel
theorem dX5_init_126 : decode cX5_init 126 = .ok (.sipush 309, 3) := by decide +kernel
theorem dX5_init_129 : decode cX5_init 129 = .ok (.newarray .int, 2) := by decide +kernel
theorem dX5_init_131 : decode cX5_init 131 = .ok (.putfield 55, 3) := by decide +kernel
theorem dX5_init_134 : decode cX5_init 134 = .ok (.aload_n 0, 1) := by decide +kernel
theorem dX5_init_135 : decode cX5_init 135 = .ok (.bipush 8, 2) := by decide +kernel
theorem dX5_init_137 : decode cX5_init 137 = .ok (.newarray .int, 2) := by decide +kernel
theorem dX5_init_139 : decode cX5_init 139 = .ok (.putfield 58, 3) := by decide +kernel
theorem dX5_init_142 : decode cX5_init 142 = .ok (.aload_n 0, 1) := by decide +kernel
theorem dX5_init_143 : decode cX5_init 143 = .ok (.bipush 16, 2) := by decide +kernel
theorem dX5_init_145 : decode cX5_init 145 = .ok (.newarray .int, 2) := by decide +kernel
theorem dX5_init_147 : decode cX5_init 147 = .ok (.putfield 61, 3) := by decide +kernel
theorem dX5_init_150 : decode cX5_init 150 = .ok (.aload_n 0, 1) := by decide +kernel
theorem dX5_init_151 : decode cX5_init 151 = .ok (.iconst 0, 1) := by decide +kernel
theorem dX5_init_152 : decode cX5_init 152 = .ok (.putfield 64, 3) := by decide +kernel
theorem dX5_init_155 : decode cX5_init 155 = .ok (.return_, 1) := by decide +kernel
theorem dX5_no_0 : decode cX5_no 0 = .ok (.aload_n 0, 1) := by decide +kernel
theorem dX5_no_1 : decode cX5_no 1 = .ok (.getfield 7, 3) := by decide +kernel
theorem dX5_no_4 : decode cX5_no 4 = .ok (.iload_n 1, 1) := by decide +kernel
theorem dX5_no_5 : decode cX5_no 5 = .ok (.ineg, 1) := by decide +kernel
theorem dX5_no_6 : decode cX5_no 6 = .ok (.dup2, 1) := by decide +kernel
theorem dX5_no_7 : decode cX5_no 7 = .ok (.iaload, 1) := by decide +kernel
theorem dX5_no_8 : decode cX5_no 8 = .ok (.iconst 1, 1) := by decide +kernel
theorem dX5_no_9 : decode cX5_no 9 = .ok (.iadd, 1) := by decide +kernel
theorem dX5_no_10 : decode cX5_no 10 = .ok (.iastore, 1) := by decide +kernel
theorem dX5_no_11 : decode cX5_no 11 = .ok (.iload_n 1, 1) := by decide +kernel
theorem dX5_no_12 : decode cX5_no 12 = .ok (.ireturn, 1) := by decide +kernel
theorem dX5_lowestOf_0 : decode cX5_lowestOf 0 = .ok (.aload_n 0, 1) := by decide +kernel
theorem dX5_lowestOf_1 : decode cX5_lowestOf 1 = .ok (.getfield 7, 3) := by decide +kernel
theorem dX5_lowestOf_4 : decode cX5_lowestOf 4 = .ok (.iload_n 1, 1) := by decide +kernel
theorem dX5_lowestOf_5 : decode cX5_lowestOf 5 = .ok (.ineg, 1) := by decide +kernel
theorem dX5_lowestOf_6 : decode cX5_lowestOf 6 = .ok (.dup2, 1) := by decide +kernel
theorem dX5_lowestOf_7 : decode cX5_lowestOf 7 = .ok (.iaload, 1) := by decide +kernel
theorem dX5_lowestOf_8 : decode cX5_lowestOf 8 = .ok (.iconst 1, 1) := by decide +kernel
theorem dX5_lowestOf_9 : decode cX5_lowestOf 9 = .ok (.iadd, 1) := by decide +kernel
theorem dX5_lowestOf_10 : decode cX5_lowestOf 10 = .ok (.iastore, 1) := by decide +kernel
theorem dX5_lowestOf_11 : decode cX5_lowestOf 11 = .ok (.ldc2_w 68, 3) := by decide +kernel
theorem dX5_lowestOf_14 : decode cX5_lowestOf 14 = .ok (.iload_n 1, 1) := by decide +kernel
theorem dX5_lowestOf_15 : decode cX5_lowestOf 15 = .ok (.i2l, 1) := by decide +kernel
theorem dX5_lowestOf_16 : decode cX5_lowestOf 16 = .ok (.lsub, 1) := by decide +kernel
theorem dX5_lowestOf_17 : decode cX5_lowestOf 17 = .ok (.lreturn, 1) := by decide +kernel
theorem dX5_isIn_0 : decode cX5_isIn 0 = .ok (.iload_n 0, 1) := by decide +kernel
theorem dX5_isIn_1 : decode cX5_isIn 1 = .ok (.iload_n 1, 1) := by decide +kernel
theorem dX5_isIn_2 : decode cX5_isIn 2 = .ok (.if_icmp .lt 12, 3) := by decide +kernel
theorem dX5_isIn_5 : decode cX5_isIn 5 = .ok (.iload_n 0, 1) := by decide +kernel
theorem dX5_isIn_6 : decode cX5_isIn 6 = .ok (.iload_n 2, 1) := by decide +kernel
theorem dX5_isIn_7 : decode cX5_isIn 7 = .ok (.if_icmp .gt 7, 3) := by decide +kernel
theorem dX5_isIn_10 : decode cX5_isIn 10 = .ok (.iconst 1, 1) := by decide +kernel
theorem dX5_isIn_11 : decode cX5_isIn 11 = .ok (.goto 4, 3) := by decide +kernel
theorem dX5_isIn_14 : decode cX5_isIn 14 = .ok (.iconst 0, 1) := by decide +kernel
theorem dX5_isIn_15 : decode cX5_isIn 15 = .ok (.ireturn, 1) := by decide +kernel
theorem dX5_bound_0 : decode cX5_bound 0 = .ok (.iload_n 0, 1) := by decide +kernel
theorem dX5_bound_1 : decode cX5_bound 1 = .ok (.iload_n 1, 1) := by decide +kernel
theorem dX5_bound_2 : decode cX5_bound 2 = .ok (.if_icmp .ge 8, 3) := by decide +kernel
theorem dX5_bound_5 : decode cX5_bound 5 = .ok (.bipush (-4), 2) := by decide +kernel
theorem dX5_bound_7 : decode cX5_bound 7 = .ok (.goto 14, 3) := by decide +kernel
theorem dX5_bound_10 : decode cX5_bound 10 = .ok (.iload_n 0, 1) := by decide +kernel
theorem dX5_bound_11 : decode cX5_bound 11 = .ok (.iload_n 2, 1) := by decide +kernel
theorem dX5_bound_12 : decode cX5_bound 12 = .ok (.if_icmp .le 8, 3) := by decide +kernel
theorem dX5_bound_15 : decode cX5_bound 15 = .ok (.bipush (-6), 2) := by decide +kernel
theorem dX5_bound_17 : decode cX5_bound 17 = .ok (.goto 4, 3) := by decide +kernel
theorem dX5_bound_20 : decode cX5_bound 20 = .ok (.iconst 0, 1) := by decide +kernel
theorem dX5_bound_21 : decode cX5_bound 21 = .ok (.ireturn, 1) := by decide +kernel
theorem dX5_held_0 : decode cX5_held 0 = .ok (.iload_n 0, 1) := by decide +kernel
theorem dX5_held_1 : decode cX5_held 1 = .ok (.iload_n 1, 1) := by decide +kernel
theorem dX5_held_2 : decode cX5_held 2 = .ok (.if_icmp .ge 7, 3) := by decide +kernel
theorem dX5_held_5 : decode cX5_held 5 = .ok (.iload_n 1, 1) := by decide +kernel
theorem dX5_held_6 : decode cX5_held 6 = .ok (.goto 13, 3) := by decide +kernel
theorem dX5_held_9 : decode cX5_held 9 = .ok (.iload_n 0, 1) := by decide +kernel
theorem dX5_held_10 : decode cX5_held 10 = .ok (.iload_n 2, 1) := by decide +kernel
theorem dX5_held_11 : decode cX5_held 11 = .ok (.if_icmp .le 7, 3) := by decide +kernel
theorem dX5_held_14 : decode cX5_held 14 = .ok (.iload_n 2, 1) := by decide +kernel
theorem dX5_held_15 : decode cX5_held 15 = .ok (.goto 4, 3) := by decide +kernel
theorem dX5_held_18 : decode cX5_held 18 = .ok (.iload_n 0, 1) := by decide +kernel
theorem dX5_held_19 : decode cX5_held 19 = .ok (.ireturn, 1) := by decide +kernel
theorem dX5_has_0 : decode cX5_has 0 = .ok (.iload_n 0, 1) := by decide +kernel
theorem dX5_has_1 : decode cX5_has 1 = .ok (.iload_n 1, 1) := by decide +kernel
theorem dX5_has_2 : decode cX5_has 2 = .ok (.ishr, 1) := by decide +kernel
theorem dX5_has_3 : decode cX5_has 3 = .ok (.iconst 1, 1) := by decide +kernel
theorem dX5_has_4 : decode cX5_has 4 = .ok (.iand, 1) := by decide +kernel
theorem dX5_has_5 : decode cX5_has 5 = .ok (.iconst 1, 1) := by decide +kernel
theorem dX5_has_6 : decode cX5_has 6 = .ok (.if_icmp .ne 7, 3) := by decide +kernel
theorem dX5_has_9 : decode cX5_has 9 = .ok (.iconst 1, 1) := by decide +kernel
theorem dX5_has_10 : decode cX5_has 10 = .ok (.goto 4, 3) := by decide +kernel
theorem dX5_has_13 : decode cX5_has 13 = .ok (.iconst 0, 1) := by decide +kernel
theorem dX5_has_14 : decode cX5_has 14 = .ok (.ireturn, 1) := by decide +kernel
theorem dX5_bits_0 : decode cX5_bits 0 = .ok (.iconst 0, 1) := by decide +kernel
theorem dX5_bits_1 : decode cX5_bits 1 = .ok (.istore_n 1, 1) := by decide +kernel
theorem dX5_bits_2 : decode cX5_bits 2 = .ok (.iconst 0, 1) := by decide +kernel
theorem dX5_bits_3 : decode cX5_bits 3 = .ok (.istore_n 2, 1) := by decide +kernel
theorem dX5_bits_4 : decode cX5_bits 4 = .ok (.iload_n 2, 1) := by decide +kernel
theorem dX5_bits_5 : decode cX5_bits 5 = .ok (.bipush 31, 2) := by decide +kernel
theorem dX5_bits_7 : decode cX5_bits 7 = .ok (.if_icmp .ge 17, 3) := by decide +kernel
theorem dX5_bits_10 : decode cX5_bits 10 = .ok (.iload_n 1, 1) := by decide +kernel
theorem dX5_bits_11 : decode cX5_bits 11 = .ok (.iload_n 0, 1) := by decide +kernel
theorem dX5_bits_12 : decode cX5_bits 12 = .ok (.iload_n 2, 1) := by decide +kernel
theorem dX5_bits_13 : decode cX5_bits 13 = .ok (.ishr, 1) := by decide +kernel
theorem dX5_bits_14 : decode cX5_bits 14 = .ok (.iconst 1, 1) := by decide +kernel
theorem dX5_bits_15 : decode cX5_bits 15 = .ok (.iand, 1) := by decide +kernel
theorem dX5_bits_16 : decode cX5_bits 16 = .ok (.iadd, 1) := by decide +kernel
theorem dX5_bits_17 : decode cX5_bits 17 = .ok (.istore_n 1, 1) := by decide +kernel
theorem dX5_bits_18 : decode cX5_bits 18 = .ok (.iinc 2 1, 3) := by decide +kernel
theorem dX5_bits_21 : decode cX5_bits 21 = .ok (.goto (-17), 3) := by decide +kernel
theorem dX5_bits_24 : decode cX5_bits 24 = .ok (.iload_n 1, 1) := by decide +kernel
theorem dX5_bits_25 : decode cX5_bits 25 = .ok (.ireturn, 1) := by decide +kernel
theorem dX5_apart_0 : decode cX5_apart 0 = .ok (.iload_n 0, 1) := by decide +kernel
theorem dX5_apart_1 : decode cX5_apart 1 = .ok (.iload_n 1, 1) := by decide +kernel
theorem dX5_apart_2 : decode cX5_apart 2 = .ok (.if_icmp .le 9, 3) := by decide +kernel
theorem dX5_apart_5 : decode cX5_apart 5 = .ok (.iload_n 0, 1) := by decide +kernel
theorem dX5_apart_6 : decode cX5_apart 6 = .ok (.iload_n 1, 1) := by decide +kernel
theorem dX5_apart_7 : decode cX5_apart 7 = .ok (.isub, 1) := by decide +kernel
theorem dX5_apart_8 : decode cX5_apart 8 = .ok (.goto 6, 3) := by decide +kernel
theorem dX5_apart_11 : decode cX5_apart 11 = .ok (.iload_n 1, 1) := by decide +kernel
theorem dX5_apart_12 : decode cX5_apart 12 = .ok (.iload_n 0, 1) := by decide +kernel
theorem dX5_apart_13 : decode cX5_apart 13 = .ok (.isub, 1) := by decide +kernel
theorem dX5_apart_14 : decode cX5_apart 14 = .ok (.ireturn, 1) := by decide +kernel
theorem dX5_isOne_0 : decode cX5_isOne 0 = .ok (.iload_n 1, 1) := by decide +kernel
theorem dX5_isOne_1 : decode cX5_isOne 1 = .ok (.ifCond .lt 15, 3) := by decide +kernel
theorem dX5_isOne_4 : decode cX5_isOne 4 = .ok (.iload_n 1, 1) := by decide +kernel
theorem dX5_isOne_5 : decode cX5_isOne 5 = .ok (.aload_n 0, 1) := by decide +kernel
theorem dX5_isOne_6 : decode cX5_isOne 6 = .ok (.getfield 64, 3) := by decide +kernel
theorem dX5_isOne_9 : decode cX5_isOne 9 = .ok (.if_icmp .ge 7, 3) := by decide +kernel
theorem dX5_isOne_12 : decode cX5_isOne 12 = .ok (.iconst 1, 1) := by decide +kernel
theorem dX5_isOne_13 : decode cX5_isOne 13 = .ok (.goto 4, 3) := by decide +kernel
theorem dX5_isOne_16 : decode cX5_isOne 16 = .ok (.iconst 0, 1) := by decide +kernel
theorem dX5_isOne_17 : decode cX5_isOne 17 = .ok (.ireturn, 1) := by decide +kernel
theorem dX5_areTwo_0 : decode cX5_areTwo 0 = .ok (.aload_n 0, 1) := by decide +kernel
theorem dX5_areTwo_1 : decode cX5_areTwo 1 = .ok (.iload_n 1, 1) := by decide +kernel
theorem dX5_areTwo_2 : decode cX5_areTwo 2 = .ok (.invokevirtual 70, 3) := by decide +kernel
theorem dX5_areTwo_5 : decode cX5_areTwo 5 = .ok (.ifCond .eq 20, 3) := by decide +kernel
theorem dX5_areTwo_8 : decode cX5_areTwo 8 = .ok (.aload_n 0, 1) := by decide +kernel
theorem dX5_areTwo_9 : decode cX5_areTwo 9 = .ok (.iload_n 2, 1) := by decide +kernel
theorem dX5_areTwo_10 : decode cX5_areTwo 10 = .ok (.invokevirtual 70, 3) := by decide +kernel
theorem dX5_areTwo_13 : decode cX5_areTwo 13 = .ok (.ifCond .eq 12, 3) := by decide +kernel
theorem dX5_areTwo_16 : decode cX5_areTwo 16 = .ok (.iload_n 1, 1) := by decide +kernel
theorem dX5_areTwo_17 : decode cX5_areTwo 17 = .ok (.iload_n 2, 1) := by decide +kernel
theorem dX5_areTwo_18 : decode cX5_areTwo 18 = .ok (.if_icmp .eq 7, 3) := by decide +kernel
theorem dX5_areTwo_21 : decode cX5_areTwo 21 = .ok (.iconst 1, 1) := by decide +kernel
theorem dX5_areTwo_22 : decode cX5_areTwo 22 = .ok (.goto 4, 3) := by decide +kernel
theorem dX5_areTwo_25 : decode cX5_areTwo 25 = .ok (.iconst 0, 1) := by decide +kernel
theorem dX5_areTwo_26 : decode cX5_areTwo 26 = .ok (.ireturn, 1) := by decide +kernel
theorem dX5_isParcel_0 : decode cX5_isParcel 0 = .ok (.iload_n 1, 1) := by decide +kernel
theorem dX5_isParcel_1 : decode cX5_isParcel 1 = .ok (.ifCond .lt 15, 3) := by decide +kernel
theorem dX5_isParcel_4 : decode cX5_isParcel 4 = .ok (.iload_n 1, 1) := by decide +kernel
theorem dX5_isParcel_5 : decode cX5_isParcel 5 = .ok (.aload_n 0, 1) := by decide +kernel
theorem dX5_isParcel_6 : decode cX5_isParcel 6 = .ok (.getfield 74, 3) := by decide +kernel
theorem dX5_isParcel_9 : decode cX5_isParcel 9 = .ok (.if_icmp .ge 7, 3) := by decide +kernel
theorem dX5_isParcel_12 : decode cX5_isParcel 12 = .ok (.iconst 1, 1) := by decide +kernel
theorem dX5_isParcel_13 : decode cX5_isParcel 13 = .ok (.goto 4, 3) := by decide +kernel
theorem dX5_isParcel_16 : decode cX5_isParcel 16 = .ok (.iconst 0, 1) := by decide +kernel
theorem dX5_isParcel_17 : decode cX5_isParcel 17 = .ok (.ireturn, 1) := by decide +kernel
theorem dX5_spot_0 : decode cX5_spot 0 = .ok (.bipush 6, 2) := by decide +kernel
theorem dX5_spot_2 : decode cX5_spot 2 = .ok (.iload_n 0, 1) := by decide +kernel
theorem dX5_spot_3 : decode cX5_spot 3 = .ok (.imul, 1) := by decide +kernel
theorem dX5_spot_4 : decode cX5_spot 4 = .ok (.iload_n 1, 1) := by decide +kernel
theorem dX5_spot_5 : decode cX5_spot 5 = .ok (.iadd, 1) := by decide +kernel
theorem dX5_spot_6 : decode cX5_spot 6 = .ok (.ireturn, 1) := by decide +kernel
theorem dX5_letter_0 : decode cX5_letter 0 = .ok (.iload_n 1, 1) := by decide +kernel
theorem dX5_letter_1 : decode cX5_letter 1 = .ok (.iconst 0, 1) := by decide +kernel
theorem dX5_letter_2 : decode cX5_letter 2 = .ok (.sipush 255, 3) := by decide +kernel
theorem dX5_letter_5 : decode cX5_letter 5 = .ok (.invokestatic 77, 3) := by decide +kernel
theorem dX5_letter_8 : decode cX5_letter 8 = .ok (.istore_n 2, 1) := by decide +kernel
theorem dX5_letter_9 : decode cX5_letter 9 = .ok (.iload_n 2, 1) := by decide +kernel
theorem dX5_letter_10 : decode cX5_letter 10 = .ok (.ifCond .ne 15, 3) := by decide +kernel
theorem dX5_letter_13 : decode cX5_letter 13 = .ok (.aload_n 0, 1) := by decide +kernel
theorem dX5_letter_14 : decode cX5_letter 14 = .ok (.getfield 81, 3) := by decide +kernel
theorem dX5_letter_17 : decode cX5_letter 17 = .ok (.bipush 96, 2) := by decide +kernel
theorem dX5_letter_19 : decode cX5_letter 19 = .ok (.if_icmp .ne 6, 3) := by decide +kernel
theorem dX5_letter_22 : decode cX5_letter 22 = .ok (.bipush (-6), 2) := by decide +kernel
theorem dX5_letter_24 : decode cX5_letter 24 = .ok (.istore_n 2, 1) := by decide +kernel
theorem dX5_letter_25 : decode cX5_letter 25 = .ok (.iload_n 2, 1) := by decide +kernel
theorem dX5_letter_26 : decode cX5_letter 26 = .ok (.ifCond .eq 9, 3) := by decide +kernel
theorem dX5_letter_29 : decode cX5_letter 29 = .ok (.aload_n 0, 1) := by decide +kernel
theorem dX5_letter_30 : decode cX5_letter 30 = .ok (.iload_n 2, 1) := by decide +kernel
theorem dX5_letter_31 : decode cX5_letter 31 = .ok (.invokevirtual 84, 3) := by decide +kernel
theorem dX5_letter_34 : decode cX5_letter 34 = .ok (.ireturn, 1) := by decide +kernel
theorem dX5_letter_35 : decode cX5_letter 35 = .ok (.aload_n 0, 1) := by decide +kernel
theorem dX5_letter_36 : decode cX5_letter 36 = .ok (.getfield 43, 3) := by decide +kernel
theorem dX5_letter_39 : decode cX5_letter 39 = .ok (.aload_n 0, 1) := by decide +kernel
theorem dX5_letter_40 : decode cX5_letter 40 = .ok (.getfield 81, 3) := by decide +kernel
theorem dX5_letter_43 : decode cX5_letter 43 = .ok (.iload_n 1, 1) := by decide +kernel
theorem dX5_letter_44 : decode cX5_letter 44 = .ok (.iastore, 1) := by decide +kernel
theorem dX5_letter_45 : decode cX5_letter 45 = .ok (.aload_n 0, 1) := by decide +kernel
theorem dX5_letter_46 : decode cX5_letter 46 = .ok (.dup, 1) := by decide +kernel
theorem dX5_letter_47 : decode cX5_letter 47 = .ok (.getfield 81, 3) := by decide +kernel
theorem dX5_letter_50 : decode cX5_letter 50 = .ok (.iconst 1, 1) := by decide +kernel
theorem dX5_letter_51 : decode cX5_letter 51 = .ok (.iadd, 1) := by decide +kernel
theorem dX5_letter_52 : decode cX5_letter 52 = .ok (.putfield 81, 3) := by decide +kernel
theorem dX5_letter_55 : decode cX5_letter 55 = .ok (.aload_n 0, 1) := by decide +kernel
theorem dX5_letter_56 : decode cX5_letter 56 = .ok (.getfield 81, 3) := by decide +kernel
theorem dX5_letter_59 : decode cX5_letter 59 = .ok (.ireturn, 1) := by decide +kernel
theorem dX5_next_0 : decode cX5_next 0 = .ok (.aload_n 0, 1) := by decide +kernel
theorem dX5_next_1 : decode cX5_next 1 = .ok (.getfield 88, 3) := by decide +kernel
theorem dX5_next_4 : decode cX5_next 4 = .ok (.aload_n 0, 1) := by decide +kernel
theorem dX5_next_5 : decode cX5_next 5 = .ok (.getfield 81, 3) := by decide +kernel
theorem dX5_next_8 : decode cX5_next 8 = .ok (.if_icmp .ge 15, 3) := by decide +kernel
theorem dX5_next_11 : decode cX5_next 11 = .ok (.aload_n 0, 1) := by decide +kernel
theorem dX5_next_12 : decode cX5_next 12 = .ok (.getfield 43, 3) := by decide +kernel
theorem dX5_next_15 : decode cX5_next 15 = .ok (.aload_n 0, 1) := by decide +kernel
theorem dX5_next_16 : decode cX5_next 16 = .ok (.getfield 88, 3) := by decide +kernel
theorem dX5_next_19 : decode cX5_next 19 = .ok (.iaload, 1) := by decide +kernel
theorem dX5_next_20 : decode cX5_next 20 = .ok (.goto 4, 3) := by decide +kernel
theorem dX5_next_23 : decode cX5_next 23 = .ok (.iconst (-1), 1) := by decide +kernel
theorem dX5_next_24 : decode cX5_next 24 = .ok (.ireturn, 1) := by decide +kernel
theorem dX5_readsDigits_0 : decode cX5_readsDigits 0 = .ok (.iconst 0, 1) := by decide +kernel
theorem dX5_readsDigits_1 : decode cX5_readsDigits 1 = .ok (.istore_n 3, 1) := by decide +kernel
theorem dX5_readsDigits_2 : decode cX5_readsDigits 2 = .ok (.iconst 0, 1) := by decide +kernel
theorem dX5_readsDigits_3 : decode cX5_readsDigits 3 = .ok (.istore 4, 2) := by decide +kernel
theorem dX5_readsDigits_5 : decode cX5_readsDigits 5 = .ok (.iload 4, 2) := by decide +kernel
theorem dX5_readsDigits_7 : decode cX5_readsDigits 7 = .ok (.iload_n 2, 1) := by decide +kernel
theorem dX5_readsDigits_8 : decode cX5_readsDigits 8 = .ok (.if_icmp .ge 48, 3) := by decide +kernel
theorem dX5_readsDigits_11 : decode cX5_readsDigits 11 = .ok (.aload_n 0, 1) := by decide +kernel
theorem dX5_readsDigits_12 : decode cX5_readsDigits 12 = .ok (.invokevirtual 91, 3) := by decide +kernel
theorem dX5_readsDigits_15 : decode cX5_readsDigits 15 = .ok (.bipush 48, 2) := by decide +kernel
theorem dX5_readsDigits_17 : decode cX5_readsDigits 17 = .ok (.bipush 57, 2) := by decide +kernel
theorem dX5_readsDigits_19 : decode cX5_readsDigits 19 = .ok (.invokestatic 95, 3) := by decide +kernel
theorem dX5_readsDigits_22 : decode cX5_readsDigits 22 = .ok (.ifCond .ne 5, 3) := by decide +kernel
theorem dX5_readsDigits_25 : decode cX5_readsDigits 25 = .ok (.iconst 0, 1) := by decide +kernel
theorem dX5_readsDigits_26 : decode cX5_readsDigits 26 = .ok (.ireturn, 1) := by decide +kernel
theorem dX5_readsDigits_27 : decode cX5_readsDigits 27 = .ok (.bipush 10, 2) := by decide +kernel
theorem dX5_readsDigits_29 : decode cX5_readsDigits 29 = .ok (.iload_n 3, 1) := by decide +kernel
theorem dX5_readsDigits_30 : decode cX5_readsDigits 30 = .ok (.imul, 1) := by decide +kernel
theorem dX5_readsDigits_31 : decode cX5_readsDigits 31 = .ok (.aload_n 0, 1) := by decide +kernel
theorem dX5_readsDigits_32 : decode cX5_readsDigits 32 = .ok (.invokevirtual 91, 3) := by decide +kernel
theorem dX5_readsDigits_35 : decode cX5_readsDigits 35 = .ok (.iadd, 1) := by decide +kernel
theorem dX5_readsDigits_36 : decode cX5_readsDigits 36 = .ok (.bipush 48, 2) := by decide +kernel
theorem dX5_readsDigits_38 : decode cX5_readsDigits 38 = .ok (.isub, 1) := by decide +kernel
theorem dX5_readsDigits_39 : decode cX5_readsDigits 39 = .ok (.istore_n 3, 1) := by decide +kernel
theorem dX5_readsDigits_40 : decode cX5_readsDigits 40 = .ok (.aload_n 0, 1) := by decide +kernel
theorem dX5_readsDigits_41 : decode cX5_readsDigits 41 = .ok (.dup, 1) := by decide +kernel
theorem dX5_readsDigits_42 : decode cX5_readsDigits 42 = .ok (.getfield 88, 3) := by decide +kernel
theorem dX5_readsDigits_45 : decode cX5_readsDigits 45 = .ok (.iconst 1, 1) := by decide +kernel
theorem dX5_readsDigits_46 : decode cX5_readsDigits 46 = .ok (.iadd, 1) := by decide +kernel
theorem dX5_readsDigits_47 : decode cX5_readsDigits 47 = .ok (.putfield 88, 3) := by decide +kernel
theorem dX5_readsDigits_50 : decode cX5_readsDigits 50 = .ok (.iinc 4 1, 3) := by decide +kernel
theorem dX5_readsDigits_53 : decode cX5_readsDigits 53 = .ok (.goto (-48), 3) := by decide +kernel
theorem dX5_readsDigits_56 : decode cX5_readsDigits 56 = .ok (.aload_n 0, 1) := by decide +kernel
theorem dX5_readsDigits_57 : decode cX5_readsDigits 57 = .ok (.getfield 52, 3) := by decide +kernel
theorem dX5_readsDigits_60 : decode cX5_readsDigits 60 = .ok (.iload_n 1, 1) := by decide +kernel
theorem dX5_readsDigits_61 : decode cX5_readsDigits 61 = .ok (.iload_n 3, 1) := by decide +kernel
theorem dX5_readsDigits_62 : decode cX5_readsDigits 62 = .ok (.iastore, 1) := by decide +kernel
theorem dX5_readsDigits_63 : decode cX5_readsDigits 63 = .ok (.iconst 1, 1) := by decide +kernel
theorem dX5_readsDigits_64 : decode cX5_readsDigits 64 = .ok (.ireturn, 1) := by decide +kernel
theorem dX5_kindOf_0 : decode cX5_kindOf 0 = .ok (.iload_n 0, 1) := by decide +kernel
theorem dX5_kindOf_1 : decode cX5_kindOf 1 = .ok (.bipush 112, 2) := by decide +kernel
theorem dX5_kindOf_3 : decode cX5_kindOf 3 = .ok (.if_icmp .ne 7, 3) := by decide +kernel
theorem dX5_kindOf_6 : decode cX5_kindOf 6 = .ok (.iconst 0, 1) := by decide +kernel
theorem dX5_kindOf_7 : decode cX5_kindOf 7 = .ok (.goto 54, 3) := by decide +kernel
theorem dX5_kindOf_10 : decode cX5_kindOf 10 = .ok (.iload_n 0, 1) := by decide +kernel
theorem dX5_kindOf_11 : decode cX5_kindOf 11 = .ok (.bipush 115, 2) := by decide +kernel
theorem dX5_kindOf_13 : decode cX5_kindOf 13 = .ok (.if_icmp .ne 7, 3) := by decide +kernel
theorem dX5_kindOf_16 : decode cX5_kindOf 16 = .ok (.iconst 1, 1) := by decide +kernel
theorem dX5_kindOf_17 : decode cX5_kindOf 17 = .ok (.goto 44, 3) := by decide +kernel
theorem dX5_kindOf_20 : decode cX5_kindOf 20 = .ok (.iload_n 0, 1) := by decide +kernel
theorem dX5_kindOf_21 : decode cX5_kindOf 21 = .ok (.bipush 114, 2) := by decide +kernel
theorem dX5_kindOf_23 : decode cX5_kindOf 23 = .ok (.if_icmp .ne 7, 3) := by decide +kernel
theorem dX5_kindOf_26 : decode cX5_kindOf 26 = .ok (.iconst 2, 1) := by decide +kernel
theorem dX5_kindOf_27 : decode cX5_kindOf 27 = .ok (.goto 34, 3) := by decide +kernel
theorem dX5_kindOf_30 : decode cX5_kindOf 30 = .ok (.iload_n 0, 1) := by decide +kernel
theorem dX5_kindOf_31 : decode cX5_kindOf 31 = .ok (.bipush 98, 2) := by decide +kernel
theorem dX5_kindOf_33 : decode cX5_kindOf 33 = .ok (.if_icmp .ne 7, 3) := by decide +kernel
theorem dX5_kindOf_36 : decode cX5_kindOf 36 = .ok (.iconst 3, 1) := by decide +kernel
theorem dX5_kindOf_37 : decode cX5_kindOf 37 = .ok (.goto 24, 3) := by decide +kernel
theorem dX5_kindOf_40 : decode cX5_kindOf 40 = .ok (.iload_n 0, 1) := by decide +kernel
theorem dX5_kindOf_41 : decode cX5_kindOf 41 = .ok (.bipush 108, 2) := by decide +kernel
theorem dX5_kindOf_43 : decode cX5_kindOf 43 = .ok (.if_icmp .ne 7, 3) := by decide +kernel
theorem dX5_kindOf_46 : decode cX5_kindOf 46 = .ok (.iconst 4, 1) := by decide +kernel
theorem dX5_kindOf_47 : decode cX5_kindOf 47 = .ok (.goto 14, 3) := by decide +kernel
theorem dX5_kindOf_50 : decode cX5_kindOf 50 = .ok (.iload_n 0, 1) := by decide +kernel
theorem dX5_kindOf_51 : decode cX5_kindOf 51 = .ok (.bipush 99, 2) := by decide +kernel
theorem dX5_kindOf_53 : decode cX5_kindOf 53 = .ok (.if_icmp .ne 7, 3) := by decide +kernel
theorem dX5_kindOf_56 : decode cX5_kindOf 56 = .ok (.iconst 5, 1) := by decide +kernel
theorem dX5_kindOf_57 : decode cX5_kindOf 57 = .ok (.goto 4, 3) := by decide +kernel
theorem dX5_kindOf_60 : decode cX5_kindOf 60 = .ok (.iconst (-1), 1) := by decide +kernel
theorem dX5_kindOf_61 : decode cX5_kindOf 61 = .ok (.ireturn, 1) := by decide +kernel
theorem dX5_readsOne_0 : decode cX5_readsOne 0 = .ok (.aload_n 0, 1) := by decide +kernel
theorem dX5_readsOne_1 : decode cX5_readsOne 1 = .ok (.getfield 52, 3) := by decide +kernel
theorem dX5_readsOne_4 : decode cX5_readsOne 4 = .ok (.iload_n 1, 1) := by decide +kernel
theorem dX5_readsOne_5 : decode cX5_readsOne 5 = .ok (.aload_n 0, 1) := by decide +kernel
theorem dX5_readsOne_6 : decode cX5_readsOne 6 = .ok (.invokevirtual 91, 3) := by decide +kernel
theorem dX5_readsOne_9 : decode cX5_readsOne 9 = .ok (.invokestatic 99, 3) := by decide +kernel
theorem dX5_readsOne_12 : decode cX5_readsOne 12 = .ok (.iastore, 1) := by decide +kernel
theorem dX5_readsOne_13 : decode cX5_readsOne 13 = .ok (.aload_n 0, 1) := by decide +kernel
theorem dX5_readsOne_14 : decode cX5_readsOne 14 = .ok (.getfield 52, 3) := by decide +kernel
theorem dX5_readsOne_17 : decode cX5_readsOne 17 = .ok (.iload_n 1, 1) := by decide +kernel
theorem dX5_readsOne_18 : decode cX5_readsOne 18 = .ok (.iaload, 1) := by decide +kernel
theorem dX5_readsOne_19 : decode cX5_readsOne 19 = .ok (.ifCond .ge 5, 3) := by decide +kernel
theorem dX5_readsOne_22 : decode cX5_readsOne 22 = .ok (.iconst 0, 1) := by decide +kernel
theorem dX5_readsOne_23 : decode cX5_readsOne 23 = .ok (.ireturn, 1) := by decide +kernel
theorem dX5_readsOne_24 : decode cX5_readsOne 24 = .ok (.aload_n 0, 1) := by decide +kernel
theorem dX5_readsOne_25 : decode cX5_readsOne 25 = .ok (.dup, 1) := by decide +kernel
theorem dX5_readsOne_26 : decode cX5_readsOne 26 = .ok (.getfield 88, 3) := by decide +kernel
theorem dX5_readsOne_29 : decode cX5_readsOne 29 = .ok (.iconst 1, 1) := by decide +kernel
theorem dX5_readsOne_30 : decode cX5_readsOne 30 = .ok (.iadd, 1) := by decide +kernel
theorem dX5_readsOne_31 : decode cX5_readsOne 31 = .ok (.putfield 88, 3) := by decide +kernel
theorem dX5_readsOne_34 : decode cX5_readsOne 34 = .ok (.aload_n 0, 1) := by decide +kernel
theorem dX5_readsOne_35 : decode cX5_readsOne 35 = .ok (.iload_n 1, 1) := by decide +kernel
theorem dX5_readsOne_36 : decode cX5_readsOne 36 = .ok (.iconst 1, 1) := by decide +kernel
theorem dX5_readsOne_37 : decode cX5_readsOne 37 = .ok (.iadd, 1) := by decide +kernel
theorem dX5_readsOne_38 : decode cX5_readsOne 38 = .ok (.iconst 1, 1) := by decide +kernel
theorem dX5_readsOne_39 : decode cX5_readsOne 39 = .ok (.invokevirtual 102, 3) := by decide +kernel
theorem dX5_readsOne_42 : decode cX5_readsOne 42 = .ok (.ifCond .eq 18, 3) := by decide +kernel
theorem dX5_readsOne_45 : decode cX5_readsOne 45 = .ok (.aload_n 0, 1) := by decide +kernel
theorem dX5_readsOne_46 : decode cX5_readsOne 46 = .ok (.iload_n 1, 1) := by decide +kernel
theorem dX5_readsOne_47 : decode cX5_readsOne 47 = .ok (.iconst 2, 1) := by decide +kernel
theorem dX5_readsOne_48 : decode cX5_readsOne 48 = .ok (.iadd, 1) := by decide +kernel
theorem dX5_readsOne_49 : decode cX5_readsOne 49 = .ok (.iconst 2, 1) := by decide +kernel
theorem dX5_readsOne_50 : decode cX5_readsOne 50 = .ok (.invokevirtual 102, 3) := by decide +kernel
theorem dX5_readsOne_53 : decode cX5_readsOne 53 = .ok (.ifCond .eq 7, 3) := by decide +kernel
theorem dX5_readsOne_56 : decode cX5_readsOne 56 = .ok (.iconst 1, 1) := by decide +kernel
theorem dX5_readsOne_57 : decode cX5_readsOne 57 = .ok (.goto 4, 3) := by decide +kernel
theorem dX5_readsOne_60 : decode cX5_readsOne 60 = .ok (.iconst 0, 1) := by decide +kernel
theorem dX5_readsOne_61 : decode cX5_readsOne 61 = .ok (.ireturn, 1) := by decide +kernel
theorem dX5_readsAll_0 : decode cX5_readsAll 0 = .ok (.iload_n 1, 1) := by decide +kernel
theorem dX5_readsAll_1 : decode cX5_readsAll 1 = .ok (.lookupswitch 85 #[(100, 78), (104, 41), (112, 35)], 35) := by decide +kernel
theorem dX5_readsAll_36 : decode cX5_readsAll 36 = .ok (.aload_n 0, 1) := by decide +kernel
theorem dX5_readsAll_37 : decode cX5_readsAll 37 = .ok (.iload_n 2, 1) := by decide +kernel
theorem dX5_readsAll_38 : decode cX5_readsAll 38 = .ok (.invokevirtual 106, 3) := by decide +kernel
theorem dX5_readsAll_41 : decode cX5_readsAll 41 = .ok (.ireturn, 1) := by decide +kernel
theorem dX5_readsAll_42 : decode cX5_readsAll 42 = .ok (.aload_n 0, 1) := by decide +kernel
theorem dX5_readsAll_43 : decode cX5_readsAll 43 = .ok (.iload_n 2, 1) := by decide +kernel
theorem dX5_readsAll_44 : decode cX5_readsAll 44 = .ok (.iconst 1, 1) := by decide +kernel
theorem dX5_readsAll_45 : decode cX5_readsAll 45 = .ok (.invokevirtual 102, 3) := by decide +kernel
theorem dX5_readsAll_48 : decode cX5_readsAll 48 = .ok (.ifCond .eq 29, 3) := by decide +kernel
theorem dX5_readsAll_51 : decode cX5_readsAll 51 = .ok (.aload_n 0, 1) := by decide +kernel
theorem dX5_readsAll_52 : decode cX5_readsAll 52 = .ok (.iload_n 2, 1) := by decide +kernel
theorem dX5_readsAll_53 : decode cX5_readsAll 53 = .ok (.iconst 1, 1) := by decide +kernel
theorem dX5_readsAll_54 : decode cX5_readsAll 54 = .ok (.iadd, 1) := by decide +kernel
theorem dX5_readsAll_55 : decode cX5_readsAll 55 = .ok (.iconst 1, 1) := by decide +kernel
theorem dX5_readsAll_56 : decode cX5_readsAll 56 = .ok (.invokevirtual 102, 3) := by decide +kernel
theorem dX5_readsAll_59 : decode cX5_readsAll 59 = .ok (.ifCond .eq 18, 3) := by decide +kernel
theorem dX5_readsAll_62 : decode cX5_readsAll 62 = .ok (.aload_n 0, 1) := by decide +kernel
theorem dX5_readsAll_63 : decode cX5_readsAll 63 = .ok (.iload_n 2, 1) := by decide +kernel
theorem dX5_readsAll_64 : decode cX5_readsAll 64 = .ok (.iconst 2, 1) := by decide +kernel
theorem dX5_readsAll_65 : decode cX5_readsAll 65 = .ok (.iadd, 1) := by decide +kernel
theorem dX5_readsAll_66 : decode cX5_readsAll 66 = .ok (.iconst 2, 1) := by decide +kernel
theorem dX5_readsAll_67 : decode cX5_readsAll 67 = .ok (.invokevirtual 102, 3) := by decide +kernel
theorem dX5_readsAll_70 : decode cX5_readsAll 70 = .ok (.ifCond .eq 7, 3) := by decide +kernel
theorem dX5_readsAll_73 : decode cX5_readsAll 73 = .ok (.iconst 1, 1) := by decide +kernel
theorem dX5_readsAll_74 : decode cX5_readsAll 74 = .ok (.goto 4, 3) := by decide +kernel
theorem dX5_readsAll_77 : decode cX5_readsAll 77 = .ok (.iconst 0, 1) := by decide +kernel
theorem dX5_readsAll_78 : decode cX5_readsAll 78 = .ok (.ireturn, 1) := by decide +kernel
theorem dX5_readsAll_79 : decode cX5_readsAll 79 = .ok (.aload_n 0, 1) := by decide +kernel
theorem dX5_readsAll_80 : decode cX5_readsAll 80 = .ok (.iload_n 2, 1) := by decide +kernel
theorem dX5_readsAll_81 : decode cX5_readsAll 81 = .ok (.iconst 2, 1) := by decide +kernel
theorem dX5_readsAll_82 : decode cX5_readsAll 82 = .ok (.invokevirtual 102, 3) := by decide +kernel
theorem dX5_readsAll_85 : decode cX5_readsAll 85 = .ok (.ireturn, 1) := by decide +kernel
theorem dX5_readsAll_86 : decode cX5_readsAll 86 = .ok (.aload_n 0, 1) := by decide +kernel
theorem dX5_readsAll_87 : decode cX5_readsAll 87 = .ok (.iload_n 2, 1) := by decide +kernel
theorem dX5_readsAll_88 : decode cX5_readsAll 88 = .ok (.iconst 1, 1) := by decide +kernel
theorem dX5_readsAll_89 : decode cX5_readsAll 89 = .ok (.invokevirtual 102, 3) := by decide +kernel
theorem dX5_readsAll_92 : decode cX5_readsAll 92 = .ok (.ifCond .eq 18, 3) := by decide +kernel
theorem dX5_readsAll_95 : decode cX5_readsAll 95 = .ok (.aload_n 0, 1) := by decide +kernel
theorem dX5_readsAll_96 : decode cX5_readsAll 96 = .ok (.iload_n 2, 1) := by decide +kernel
theorem dX5_readsAll_97 : decode cX5_readsAll 97 = .ok (.iconst 1, 1) := by decide +kernel
theorem dX5_readsAll_98 : decode cX5_readsAll 98 = .ok (.iadd, 1) := by decide +kernel
theorem dX5_readsAll_99 : decode cX5_readsAll 99 = .ok (.iconst 1, 1) := by decide +kernel
theorem dX5_readsAll_100 : decode cX5_readsAll 100 = .ok (.invokevirtual 102, 3) := by decide +kernel
theorem dX5_readsAll_103 : decode cX5_readsAll 103 = .ok (.ifCond .eq 7, 3) := by decide +kernel
theorem dX5_readsAll_106 : decode cX5_readsAll 106 = .ok (.iconst 1, 1) := by decide +kernel
theorem dX5_readsAll_107 : decode cX5_readsAll 107 = .ok (.goto 4, 3) := by decide +kernel
theorem dX5_readsAll_110 : decode cX5_readsAll 110 = .ok (.iconst 0, 1) := by decide +kernel
theorem dX5_readsAll_111 : decode cX5_readsAll 111 = .ok (.ireturn, 1) := by decide +kernel
theorem dX5_statement_0 : decode cX5_statement 0 = .ok (.aload_n 0, 1) := by decide +kernel
theorem dX5_statement_1 : decode cX5_statement 1 = .ok (.invokevirtual 91, 3) := by decide +kernel
theorem dX5_statement_4 : decode cX5_statement 4 = .ok (.istore_n 1, 1) := by decide +kernel
theorem dX5_statement_5 : decode cX5_statement 5 = .ok (.iload_n 1, 1) := by decide +kernel
theorem dX5_statement_6 : decode cX5_statement 6 = .ok (.bipush 112, 2) := by decide +kernel
theorem dX5_statement_8 : decode cX5_statement 8 = .ok (.if_icmp .eq 35, 3) := by decide +kernel
theorem dX5_statement_11 : decode cX5_statement 11 = .ok (.iload_n 1, 1) := by decide +kernel
theorem dX5_statement_12 : decode cX5_statement 12 = .ok (.bipush 104, 2) := by decide +kernel
theorem dX5_statement_14 : decode cX5_statement 14 = .ok (.if_icmp .eq 29, 3) := by decide +kernel
theorem dX5_statement_17 : decode cX5_statement 17 = .ok (.iload_n 1, 1) := by decide +kernel
theorem dX5_statement_18 : decode cX5_statement 18 = .ok (.bipush 99, 2) := by decide +kernel
theorem dX5_statement_20 : decode cX5_statement 20 = .ok (.if_icmp .eq 23, 3) := by decide +kernel
theorem dX5_statement_23 : decode cX5_statement 23 = .ok (.iload_n 1, 1) := by decide +kernel
theorem dX5_statement_24 : decode cX5_statement 24 = .ok (.bipush 115, 2) := by decide +kernel
theorem dX5_statement_26 : decode cX5_statement 26 = .ok (.if_icmp .eq 17, 3) := by decide +kernel
theorem dX5_statement_29 : decode cX5_statement 29 = .ok (.iload_n 1, 1) := by decide +kernel
theorem dX5_statement_30 : decode cX5_statement 30 = .ok (.bipush 109, 2) := by decide +kernel
theorem dX5_statement_32 : decode cX5_statement 32 = .ok (.if_icmp .eq 11, 3) := by decide +kernel
theorem dX5_statement_35 : decode cX5_statement 35 = .ok (.iload_n 1, 1) := by decide +kernel
theorem dX5_statement_36 : decode cX5_statement 36 = .ok (.bipush 100, 2) := by decide +kernel
theorem dX5_statement_38 : decode cX5_statement 38 = .ok (.if_icmp .eq 5, 3) := by decide +kernel
theorem dX5_statement_41 : decode cX5_statement 41 = .ok (.iconst 0, 1) := by decide +kernel
theorem dX5_statement_42 : decode cX5_statement 42 = .ok (.ireturn, 1) := by decide +kernel
theorem dX5_statement_43 : decode cX5_statement 43 = .ok (.aload_n 0, 1) := by decide +kernel
theorem dX5_statement_44 : decode cX5_statement 44 = .ok (.getfield 46, 3) := by decide +kernel
theorem dX5_statement_47 : decode cX5_statement 47 = .ok (.aload_n 0, 1) := by decide +kernel
theorem dX5_statement_48 : decode cX5_statement 48 = .ok (.getfield 109, 3) := by decide +kernel
theorem dX5_statement_51 : decode cX5_statement 51 = .ok (.iload_n 1, 1) := by decide +kernel
theorem dX5_statement_52 : decode cX5_statement 52 = .ok (.iastore, 1) := by decide +kernel
theorem dX5_statement_53 : decode cX5_statement 53 = .ok (.aload_n 0, 1) := by decide +kernel
theorem dX5_statement_54 : decode cX5_statement 54 = .ok (.getfield 49, 3) := by decide +kernel
theorem dX5_statement_57 : decode cX5_statement 57 = .ok (.aload_n 0, 1) := by decide +kernel
theorem dX5_statement_58 : decode cX5_statement 58 = .ok (.getfield 109, 3) := by decide +kernel
theorem dX5_statement_61 : decode cX5_statement 61 = .ok (.aload_n 0, 1) := by decide +kernel
theorem dX5_statement_62 : decode cX5_statement 62 = .ok (.getfield 88, 3) := by decide +kernel
theorem dX5_statement_65 : decode cX5_statement 65 = .ok (.iastore, 1) := by decide +kernel
theorem dX5_statement_66 : decode cX5_statement 66 = .ok (.aload_n 0, 1) := by decide +kernel
theorem dX5_statement_67 : decode cX5_statement 67 = .ok (.dup, 1) := by decide +kernel
theorem dX5_statement_68 : decode cX5_statement 68 = .ok (.getfield 88, 3) := by decide +kernel
theorem dX5_statement_71 : decode cX5_statement 71 = .ok (.iconst 1, 1) := by decide +kernel
theorem dX5_statement_72 : decode cX5_statement 72 = .ok (.iadd, 1) := by decide +kernel
theorem dX5_statement_73 : decode cX5_statement 73 = .ok (.putfield 88, 3) := by decide +kernel
theorem dX5_statement_76 : decode cX5_statement 76 = .ok (.aload_n 0, 1) := by decide +kernel
theorem dX5_statement_77 : decode cX5_statement 77 = .ok (.iload_n 1, 1) := by decide +kernel
theorem dX5_statement_78 : decode cX5_statement 78 = .ok (.iconst 3, 1) := by decide +kernel
theorem dX5_statement_79 : decode cX5_statement 79 = .ok (.aload_n 0, 1) := by decide +kernel
theorem dX5_statement_80 : decode cX5_statement 80 = .ok (.getfield 109, 3) := by decide +kernel
theorem dX5_statement_83 : decode cX5_statement 83 = .ok (.imul, 1) := by decide +kernel
theorem dX5_statement_84 : decode cX5_statement 84 = .ok (.invokevirtual 112, 3) := by decide +kernel
theorem dX5_statement_87 : decode cX5_statement 87 = .ok (.ifCond .eq 12, 3) := by decide +kernel
theorem dX5_statement_90 : decode cX5_statement 90 = .ok (.aload_n 0, 1) := by decide +kernel
theorem dX5_statement_91 : decode cX5_statement 91 = .ok (.invokevirtual 91, 3) := by decide +kernel
theorem dX5_statement_94 : decode cX5_statement 94 = .ok (.bipush 59, 2) := by decide +kernel
theorem dX5_statement_96 : decode cX5_statement 96 = .ok (.if_icmp .eq 5, 3) := by decide +kernel
theorem dX5_statement_99 : decode cX5_statement 99 = .ok (.iconst 0, 1) := by decide +kernel
theorem dX5_statement_100 : decode cX5_statement 100 = .ok (.ireturn, 1) := by decide +kernel
theorem dX5_statement_101 : decode cX5_statement 101 = .ok (.aload_n 0, 1) := by decide +kernel
theorem dX5_statement_102 : decode cX5_statement 102 = .ok (.dup, 1) := by decide +kernel
theorem dX5_statement_103 : decode cX5_statement 103 = .ok (.getfield 88, 3) := by decide +kernel
theorem dX5_statement_106 : decode cX5_statement 106 = .ok (.iconst 1, 1) := by decide +kernel
theorem dX5_statement_107 : decode cX5_statement 107 = .ok (.iadd, 1) := by decide +kernel
theorem dX5_statement_108 : decode cX5_statement 108 = .ok (.putfield 88, 3) := by decide +kernel
theorem dX5_statement_111 : decode cX5_statement 111 = .ok (.iconst 1, 1) := by decide +kernel
theorem dX5_statement_112 : decode cX5_statement 112 = .ok (.ireturn, 1) := by decide +kernel
theorem dX5_comesOne_0 : decode cX5_comesOne 0 = .ok (.iload_n 3, 1) := by decide +kernel
theorem dX5_comesOne_1 : decode cX5_comesOne 1 = .ok (.bipush 30, 2) := by decide +kernel
theorem dX5_comesOne_3 : decode cX5_comesOne 3 = .ok (.if_icmp .gt 12, 3) := by decide +kernel
theorem dX5_comesOne_6 : decode cX5_comesOne 6 = .ok (.aload_n 0, 1) := by decide +kernel
theorem dX5_comesOne_7 : decode cX5_comesOne 7 = .ok (.getfield 64, 3) := by decide +kernel
theorem dX5_comesOne_10 : decode cX5_comesOne 10 = .ok (.bipush 6, 2) := by decide +kernel
theorem dX5_comesOne_12 : decode cX5_comesOne 12 = .ok (.if_icmp .ne 5, 3) := by decide +kernel
theorem dX5_comesOne_15 : decode cX5_comesOne 15 = .ok (.iconst 0, 1) := by decide +kernel
theorem dX5_comesOne_16 : decode cX5_comesOne 16 = .ok (.ireturn, 1) := by decide +kernel
theorem dX5_comesOne_17 : decode cX5_comesOne 17 = .ok (.aload_n 0, 1) := by decide +kernel
theorem dX5_comesOne_18 : decode cX5_comesOne 18 = .ok (.getfield 13, 3) := by decide +kernel
theorem dX5_comesOne_21 : decode cX5_comesOne 21 = .ok (.aload_n 0, 1) := by decide +kernel
theorem dX5_comesOne_22 : decode cX5_comesOne 22 = .ok (.getfield 64, 3) := by decide +kernel
theorem dX5_comesOne_25 : decode cX5_comesOne 25 = .ok (.iload_n 1, 1) := by decide +kernel
theorem dX5_comesOne_26 : decode cX5_comesOne 26 = .ok (.iastore, 1) := by decide +kernel
theorem dX5_comesOne_27 : decode cX5_comesOne 27 = .ok (.aload_n 0, 1) := by decide +kernel
theorem dX5_comesOne_28 : decode cX5_comesOne 28 = .ok (.getfield 16, 3) := by decide +kernel
theorem dX5_comesOne_31 : decode cX5_comesOne 31 = .ok (.aload_n 0, 1) := by decide +kernel
theorem dX5_comesOne_32 : decode cX5_comesOne 32 = .ok (.getfield 64, 3) := by decide +kernel
theorem dX5_comesOne_35 : decode cX5_comesOne 35 = .ok (.iload_n 2, 1) := by decide +kernel
theorem dX5_comesOne_36 : decode cX5_comesOne 36 = .ok (.iastore, 1) := by decide +kernel
theorem dX5_comesOne_37 : decode cX5_comesOne 37 = .ok (.aload_n 0, 1) := by decide +kernel
theorem dX5_comesOne_38 : decode cX5_comesOne 38 = .ok (.getfield 19, 3) := by decide +kernel
theorem dX5_comesOne_41 : decode cX5_comesOne 41 = .ok (.aload_n 0, 1) := by decide +kernel
theorem dX5_comesOne_42 : decode cX5_comesOne 42 = .ok (.getfield 64, 3) := by decide +kernel
theorem dX5_comesOne_45 : decode cX5_comesOne 45 = .ok (.iload_n 3, 1) := by decide +kernel
theorem dX5_comesOne_46 : decode cX5_comesOne 46 = .ok (.iastore, 1) := by decide +kernel
theorem dX5_comesOne_47 : decode cX5_comesOne 47 = .ok (.aload_n 0, 1) := by decide +kernel
theorem dX5_comesOne_48 : decode cX5_comesOne 48 = .ok (.getfield 22, 3) := by decide +kernel
theorem dX5_comesOne_51 : decode cX5_comesOne 51 = .ok (.aload_n 0, 1) := by decide +kernel
theorem dX5_comesOne_52 : decode cX5_comesOne 52 = .ok (.getfield 64, 3) := by decide +kernel
theorem dX5_comesOne_55 : decode cX5_comesOne 55 = .ok (.iconst 0, 1) := by decide +kernel
theorem dX5_comesOne_56 : decode cX5_comesOne 56 = .ok (.iastore, 1) := by decide +kernel
theorem dX5_comesOne_57 : decode cX5_comesOne 57 = .ok (.iconst 0, 1) := by decide +kernel
theorem dX5_comesOne_58 : decode cX5_comesOne 58 = .ok (.istore 4, 2) := by decide +kernel
theorem dX5_comesOne_60 : decode cX5_comesOne 60 = .ok (.iload 4, 2) := by decide +kernel
theorem dX5_comesOne_62 : decode cX5_comesOne 62 = .ok (.bipush 6, 2) := by decide +kernel
theorem dX5_comesOne_64 : decode cX5_comesOne 64 = .ok (.if_icmp .ge 39, 3) := by decide +kernel
theorem dX5_comesOne_67 : decode cX5_comesOne 67 = .ok (.aload_n 0, 1) := by decide +kernel
theorem dX5_comesOne_68 : decode cX5_comesOne 68 = .ok (.getfield 25, 3) := by decide +kernel
theorem dX5_comesOne_71 : decode cX5_comesOne 71 = .ok (.iload 4, 2) := by decide +kernel
theorem dX5_comesOne_73 : decode cX5_comesOne 73 = .ok (.aload_n 0, 1) := by decide +kernel
theorem dX5_comesOne_74 : decode cX5_comesOne 74 = .ok (.getfield 64, 3) := by decide +kernel
theorem dX5_comesOne_77 : decode cX5_comesOne 77 = .ok (.invokestatic 115, 3) := by decide +kernel
theorem dX5_comesOne_80 : decode cX5_comesOne 80 = .ok (.iconst 0, 1) := by decide +kernel
theorem dX5_comesOne_81 : decode cX5_comesOne 81 = .ok (.iastore, 1) := by decide +kernel
theorem dX5_comesOne_82 : decode cX5_comesOne 82 = .ok (.aload_n 0, 1) := by decide +kernel
theorem dX5_comesOne_83 : decode cX5_comesOne 83 = .ok (.getfield 25, 3) := by decide +kernel
theorem dX5_comesOne_86 : decode cX5_comesOne 86 = .ok (.aload_n 0, 1) := by decide +kernel
theorem dX5_comesOne_87 : decode cX5_comesOne 87 = .ok (.getfield 64, 3) := by decide +kernel
theorem dX5_comesOne_90 : decode cX5_comesOne 90 = .ok (.iload 4, 2) := by decide +kernel
theorem dX5_comesOne_92 : decode cX5_comesOne 92 = .ok (.invokestatic 115, 3) := by decide +kernel
theorem dX5_comesOne_95 : decode cX5_comesOne 95 = .ok (.iconst 0, 1) := by decide +kernel
theorem dX5_comesOne_96 : decode cX5_comesOne 96 = .ok (.iastore, 1) := by decide +kernel
theorem dX5_comesOne_97 : decode cX5_comesOne 97 = .ok (.iinc 4 1, 3) := by decide +kernel
theorem dX5_comesOne_100 : decode cX5_comesOne 100 = .ok (.goto (-40), 3) := by decide +kernel
theorem dX5_comesOne_103 : decode cX5_comesOne 103 = .ok (.aload_n 0, 1) := by decide +kernel
theorem dX5_comesOne_104 : decode cX5_comesOne 104 = .ok (.dup, 1) := by decide +kernel
theorem dX5_comesOne_105 : decode cX5_comesOne 105 = .ok (.getfield 64, 3) := by decide +kernel
theorem dX5_comesOne_108 : decode cX5_comesOne 108 = .ok (.iconst 1, 1) := by decide +kernel
theorem dX5_comesOne_109 : decode cX5_comesOne 109 = .ok (.iadd, 1) := by decide +kernel
theorem dX5_comesOne_110 : decode cX5_comesOne 110 = .ok (.putfield 64, 3) := by decide +kernel
theorem dX5_comesOne_113 : decode cX5_comesOne 113 = .ok (.iconst 1, 1) := by decide +kernel
theorem dX5_comesOne_114 : decode cX5_comesOne 114 = .ok (.ireturn, 1) := by decide +kernel
theorem dX5_comesParcel_0 : decode cX5_comesParcel 0 = .ok (.aload_n 0, 1) := by decide +kernel
theorem dX5_comesParcel_1 : decode cX5_comesParcel 1 = .ok (.iload_n 1, 1) := by decide +kernel
theorem dX5_comesParcel_2 : decode cX5_comesParcel 2 = .ok (.invokevirtual 70, 3) := by decide +kernel
theorem dX5_comesParcel_5 : decode cX5_comesParcel 5 = .ok (.ifCond .eq 12, 3) := by decide +kernel
theorem dX5_comesParcel_8 : decode cX5_comesParcel 8 = .ok (.aload_n 0, 1) := by decide +kernel
theorem dX5_comesParcel_9 : decode cX5_comesParcel 9 = .ok (.getfield 74, 3) := by decide +kernel
theorem dX5_comesParcel_12 : decode cX5_comesParcel 12 = .ok (.bipush 8, 2) := by decide +kernel
theorem dX5_comesParcel_14 : decode cX5_comesParcel 14 = .ok (.if_icmp .ne 5, 3) := by decide +kernel
theorem dX5_comesParcel_17 : decode cX5_comesParcel 17 = .ok (.iconst 0, 1) := by decide +kernel
theorem dX5_comesParcel_18 : decode cX5_comesParcel 18 = .ok (.ireturn, 1) := by decide +kernel
theorem dX5_comesParcel_19 : decode cX5_comesParcel 19 = .ok (.aload_n 0, 1) := by decide +kernel
theorem dX5_comesParcel_20 : decode cX5_comesParcel 20 = .ok (.iload_n 1, 1) := by decide +kernel
theorem dX5_comesParcel_21 : decode cX5_comesParcel 21 = .ok (.iload_n 2, 1) := by decide +kernel
theorem dX5_comesParcel_22 : decode cX5_comesParcel 22 = .ok (.invokevirtual 119, 3) := by decide +kernel
theorem dX5_comesParcel_25 : decode cX5_comesParcel 25 = .ok (.iconst 1, 1) := by decide +kernel
theorem dX5_comesParcel_26 : decode cX5_comesParcel 26 = .ok (.ireturn, 1) := by decide +kernel
theorem dX5_comesTwo_0 : decode cX5_comesTwo 0 = .ok (.aload_n 0, 1) := by decide +kernel
theorem dX5_comesTwo_1 : decode cX5_comesTwo 1 = .ok (.iload_n 2, 1) := by decide +kernel
theorem dX5_comesTwo_2 : decode cX5_comesTwo 2 = .ok (.iload_n 3, 1) := by decide +kernel
theorem dX5_comesTwo_3 : decode cX5_comesTwo 3 = .ok (.invokevirtual 123, 3) := by decide +kernel
theorem dX5_comesTwo_6 : decode cX5_comesTwo 6 = .ok (.ifCond .ne 5, 3) := by decide +kernel
theorem dX5_comesTwo_9 : decode cX5_comesTwo 9 = .ok (.iconst 0, 1) := by decide +kernel
theorem dX5_comesTwo_10 : decode cX5_comesTwo 10 = .ok (.ireturn, 1) := by decide +kernel
theorem dX5_comesTwo_11 : decode cX5_comesTwo 11 = .ok (.iload_n 1, 1) := by decide +kernel
theorem dX5_comesTwo_12 : decode cX5_comesTwo 12 = .ok (.bipush 104, 2) := by decide +kernel
theorem dX5_comesTwo_14 : decode cX5_comesTwo 14 = .ok (.if_icmp .ne 18, 3) := by decide +kernel
theorem dX5_comesTwo_17 : decode cX5_comesTwo 17 = .ok (.aload_n 0, 1) := by decide +kernel
theorem dX5_comesTwo_18 : decode cX5_comesTwo 18 = .ok (.getfield 25, 3) := by decide +kernel
theorem dX5_comesTwo_21 : decode cX5_comesTwo 21 = .ok (.iload_n 2, 1) := by decide +kernel
theorem dX5_comesTwo_22 : decode cX5_comesTwo 22 = .ok (.iload_n 3, 1) := by decide +kernel
theorem dX5_comesTwo_23 : decode cX5_comesTwo 23 = .ok (.invokestatic 115, 3) := by decide +kernel
theorem dX5_comesTwo_26 : decode cX5_comesTwo 26 = .ok (.iload 4, 2) := by decide +kernel
theorem dX5_comesTwo_28 : decode cX5_comesTwo 28 = .ok (.iastore, 1) := by decide +kernel
theorem dX5_comesTwo_29 : decode cX5_comesTwo 29 = .ok (.goto 25, 3) := by decide +kernel
theorem dX5_comesTwo_32 : decode cX5_comesTwo 32 = .ok (.iload_n 1, 1) := by decide +kernel
theorem dX5_comesTwo_33 : decode cX5_comesTwo 33 = .ok (.bipush 115, 2) := by decide +kernel
theorem dX5_comesTwo_35 : decode cX5_comesTwo 35 = .ok (.if_icmp .ne 13, 3) := by decide +kernel
theorem dX5_comesTwo_38 : decode cX5_comesTwo 38 = .ok (.aload_n 0, 1) := by decide +kernel
theorem dX5_comesTwo_39 : decode cX5_comesTwo 39 = .ok (.iload_n 2, 1) := by decide +kernel
theorem dX5_comesTwo_40 : decode cX5_comesTwo 40 = .ok (.iload_n 3, 1) := by decide +kernel
theorem dX5_comesTwo_41 : decode cX5_comesTwo 41 = .ok (.iconst 1, 1) := by decide +kernel
theorem dX5_comesTwo_42 : decode cX5_comesTwo 42 = .ok (.invokevirtual 126, 3) := by decide +kernel
theorem dX5_comesTwo_45 : decode cX5_comesTwo 45 = .ok (.goto 9, 3) := by decide +kernel
theorem dX5_comesTwo_48 : decode cX5_comesTwo 48 = .ok (.aload_n 0, 1) := by decide +kernel
theorem dX5_comesTwo_49 : decode cX5_comesTwo 49 = .ok (.iload_n 2, 1) := by decide +kernel
theorem dX5_comesTwo_50 : decode cX5_comesTwo 50 = .ok (.iload_n 3, 1) := by decide +kernel
theorem dX5_comesTwo_51 : decode cX5_comesTwo 51 = .ok (.invokevirtual 130, 3) := by decide +kernel
theorem dX5_comesTwo_54 : decode cX5_comesTwo 54 = .ok (.iconst 1, 1) := by decide +kernel
theorem dX5_comesTwo_55 : decode cX5_comesTwo 55 = .ok (.ireturn, 1) := by decide +kernel
theorem dX5_comesDays_0 : decode cX5_comesDays 0 = .ok (.iload_n 1, 1) := by decide +kernel
theorem dX5_comesDays_1 : decode cX5_comesDays 1 = .ok (.iconst 1, 1) := by decide +kernel
theorem dX5_comesDays_2 : decode cX5_comesDays 2 = .ok (.bipush 60, 2) := by decide +kernel
theorem dX5_comesDays_4 : decode cX5_comesDays 4 = .ok (.invokestatic 95, 3) := by decide +kernel
theorem dX5_comesDays_7 : decode cX5_comesDays 7 = .ok (.ifCond .eq 15, 3) := by decide +kernel
theorem dX5_comesDays_10 : decode cX5_comesDays 10 = .ok (.aload_n 0, 1) := by decide +kernel
theorem dX5_comesDays_11 : decode cX5_comesDays 11 = .ok (.getfield 133, 3) := by decide +kernel
theorem dX5_comesDays_14 : decode cX5_comesDays 14 = .ok (.iload_n 1, 1) := by decide +kernel
theorem dX5_comesDays_15 : decode cX5_comesDays 15 = .ok (.iadd, 1) := by decide +kernel
theorem dX5_comesDays_16 : decode cX5_comesDays 16 = .ok (.sipush 999, 3) := by decide +kernel
theorem dX5_comesDays_19 : decode cX5_comesDays 19 = .ok (.if_icmp .le 5, 3) := by decide +kernel
theorem dX5_comesDays_22 : decode cX5_comesDays 22 = .ok (.iconst 0, 1) := by decide +kernel
theorem dX5_comesDays_23 : decode cX5_comesDays 23 = .ok (.ireturn, 1) := by decide +kernel
