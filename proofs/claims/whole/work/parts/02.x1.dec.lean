theorem dX5_init_0 : decode cX5_init 0 = .ok (.aload_n 0, 1) := by decide +kernel
theorem dX5_init_1 : decode cX5_init 1 = .ok (.invokespecial 3, 3) := by decide +kernel
theorem dX5_init_4 : decode cX5_init 4 = .ok (.aload_n 0, 1) := by decide +kernel
theorem dX5_init_5 : decode cX5_init 5 = .ok (.iconst 2, 1) := by decide +kernel
theorem dX5_init_6 : decode cX5_init 6 = .ok (.putfield 9, 3) := by decide +kernel
theorem dX5_init_9 : decode cX5_init 9 = .ok (.aload_n 0, 1) := by decide +kernel
theorem dX5_init_10 : decode cX5_init 10 = .ok (.iconst 0, 1) := by decide +kernel
theorem dX5_init_11 : decode cX5_init 11 = .ok (.putfield 15, 3) := by decide +kernel
theorem dX5_init_14 : decode cX5_init 14 = .ok (.aload_n 0, 1) := by decide +kernel
theorem dX5_init_15 : decode cX5_init 15 = .ok (.bipush 11, 2) := by decide +kernel
theorem dX5_init_17 : decode cX5_init 17 = .ok (.putfield 18, 3) := by decide +kernel
theorem dX5_init_20 : decode cX5_init 20 = .ok (.aload_n 0, 1) := by decide +kernel
theorem dX5_init_21 : decode cX5_init 21 = .ok (.iconst 0, 1) := by decide +kernel
theorem dX5_init_22 : decode cX5_init 22 = .ok (.putfield 21, 3) := by decide +kernel
theorem dX5_init_25 : decode cX5_init 25 = .ok (.aload_n 0, 1) := by decide +kernel
theorem dX5_init_26 : decode cX5_init 26 = .ok (.iconst 0, 1) := by decide +kernel
theorem dX5_init_27 : decode cX5_init 27 = .ok (.putfield 24, 3) := by decide +kernel
theorem dX5_init_30 : decode cX5_init 30 = .ok (.aload_n 0, 1) := by decide +kernel
theorem dX5_init_31 : decode cX5_init 31 = .ok (.iconst 0, 1) := by decide +kernel
theorem dX5_init_32 : decode cX5_init 32 = .ok (.putfield 27, 3) := by decide +kernel
theorem dX5_init_35 : decode cX5_init 35 = .ok (.aload_n 0, 1) := by decide +kernel
theorem dX5_init_36 : decode cX5_init 36 = .ok (.bipush 12, 2) := by decide +kernel
theorem dX5_init_38 : decode cX5_init 38 = .ok (.newarray .int, 2) := by decide +kernel
theorem dX5_init_40 : decode cX5_init 40 = .ok (.putfield 30, 3) := by decide +kernel
theorem dX5_init_43 : decode cX5_init 43 = .ok (.aload_n 0, 1) := by decide +kernel
theorem dX5_init_44 : decode cX5_init 44 = .ok (.bipush 12, 2) := by decide +kernel
theorem dX5_init_46 : decode cX5_init 46 = .ok (.newarray .int, 2) := by decide +kernel
theorem dX5_init_48 : decode cX5_init 48 = .ok (.putfield 34, 3) := by decide +kernel
theorem dX5_init_51 : decode cX5_init 51 = .ok (.aload_n 0, 1) := by decide +kernel
theorem dX5_init_52 : decode cX5_init 52 = .ok (.bipush 12, 2) := by decide +kernel
theorem dX5_init_54 : decode cX5_init 54 = .ok (.newarray .int, 2) := by decide +kernel
theorem dX5_init_56 : decode cX5_init 56 = .ok (.putfield 37, 3) := by decide +kernel
theorem dX5_init_59 : decode cX5_init 59 = .ok (.aload_n 0, 1) := by decide +kernel
theorem dX5_init_60 : decode cX5_init 60 = .ok (.bipush 12, 2) := by decide +kernel
theorem dX5_init_62 : decode cX5_init 62 = .ok (.newarray .int, 2) := by decide +kernel
theorem dX5_init_64 : decode cX5_init 64 = .ok (.putfield 40, 3) := by decide +kernel
theorem dX5_init_67 : decode cX5_init 67 = .ok (.aload_n 0, 1) := by decide +kernel
theorem dX5_init_68 : decode cX5_init 68 = .ok (.bipush 12, 2) := by decide +kernel
theorem dX5_init_70 : decode cX5_init 70 = .ok (.newarray .int, 2) := by decide +kernel
theorem dX5_init_72 : decode cX5_init 72 = .ok (.putfield 43, 3) := by decide +kernel
theorem dX5_init_75 : decode cX5_init 75 = .ok (.aload_n 0, 1) := by decide +kernel
theorem dX5_init_76 : decode cX5_init 76 = .ok (.bipush 48, 2) := by decide +kernel
theorem dX5_init_78 : decode cX5_init 78 = .ok (.newarray .int, 2) := by decide +kernel
theorem dX5_init_80 : decode cX5_init 80 = .ok (.putfield 46, 3) := by decide +kernel
theorem dX5_init_83 : decode cX5_init 83 = .ok (.return_, 1) := by decide +kernel
theorem dX5_become_0 : decode cX5_become 0 = .ok (.aload_n 0, 1) := by decide +kernel
theorem dX5_become_1 : decode cX5_become 1 = .ok (.aload_n 1, 1) := by decide +kernel
theorem dX5_become_2 : decode cX5_become 2 = .ok (.getfield 9, 3) := by decide +kernel
theorem dX5_become_5 : decode cX5_become 5 = .ok (.putfield 9, 3) := by decide +kernel
theorem dX5_become_8 : decode cX5_become 8 = .ok (.aload_n 0, 1) := by decide +kernel
theorem dX5_become_9 : decode cX5_become 9 = .ok (.aload_n 1, 1) := by decide +kernel
theorem dX5_become_10 : decode cX5_become 10 = .ok (.getfield 15, 3) := by decide +kernel
theorem dX5_become_13 : decode cX5_become 13 = .ok (.putfield 15, 3) := by decide +kernel
theorem dX5_become_16 : decode cX5_become 16 = .ok (.aload_n 0, 1) := by decide +kernel
theorem dX5_become_17 : decode cX5_become 17 = .ok (.aload_n 1, 1) := by decide +kernel
theorem dX5_become_18 : decode cX5_become 18 = .ok (.getfield 18, 3) := by decide +kernel
theorem dX5_become_21 : decode cX5_become 21 = .ok (.putfield 18, 3) := by decide +kernel
theorem dX5_become_24 : decode cX5_become 24 = .ok (.aload_n 0, 1) := by decide +kernel
theorem dX5_become_25 : decode cX5_become 25 = .ok (.aload_n 1, 1) := by decide +kernel
theorem dX5_become_26 : decode cX5_become 26 = .ok (.getfield 21, 3) := by decide +kernel
theorem dX5_become_29 : decode cX5_become 29 = .ok (.putfield 21, 3) := by decide +kernel
theorem dX5_become_32 : decode cX5_become 32 = .ok (.aload_n 0, 1) := by decide +kernel
theorem dX5_become_33 : decode cX5_become 33 = .ok (.aload_n 1, 1) := by decide +kernel
theorem dX5_become_34 : decode cX5_become 34 = .ok (.getfield 24, 3) := by decide +kernel
theorem dX5_become_37 : decode cX5_become 37 = .ok (.putfield 24, 3) := by decide +kernel
theorem dX5_become_40 : decode cX5_become 40 = .ok (.aload_n 0, 1) := by decide +kernel
theorem dX5_become_41 : decode cX5_become 41 = .ok (.aload_n 1, 1) := by decide +kernel
theorem dX5_become_42 : decode cX5_become 42 = .ok (.getfield 27, 3) := by decide +kernel
theorem dX5_become_45 : decode cX5_become 45 = .ok (.putfield 27, 3) := by decide +kernel
theorem dX5_become_48 : decode cX5_become 48 = .ok (.aload_n 1, 1) := by decide +kernel
theorem dX5_become_49 : decode cX5_become 49 = .ok (.getfield 30, 3) := by decide +kernel
theorem dX5_become_52 : decode cX5_become 52 = .ok (.iconst 0, 1) := by decide +kernel
theorem dX5_become_53 : decode cX5_become 53 = .ok (.aload_n 0, 1) := by decide +kernel
theorem dX5_become_54 : decode cX5_become 54 = .ok (.getfield 30, 3) := by decide +kernel
theorem dX5_become_57 : decode cX5_become 57 = .ok (.iconst 0, 1) := by decide +kernel
theorem dX5_become_58 : decode cX5_become 58 = .ok (.bipush 12, 2) := by decide +kernel
theorem dX5_become_60 : decode cX5_become 60 = .ok (.invokestatic 49, 3) := by decide +kernel
theorem dX5_become_63 : decode cX5_become 63 = .ok (.aload_n 1, 1) := by decide +kernel
theorem dX5_become_64 : decode cX5_become 64 = .ok (.getfield 34, 3) := by decide +kernel
theorem dX5_become_67 : decode cX5_become 67 = .ok (.iconst 0, 1) := by decide +kernel
theorem dX5_become_68 : decode cX5_become 68 = .ok (.aload_n 0, 1) := by decide +kernel
theorem dX5_become_69 : decode cX5_become 69 = .ok (.getfield 34, 3) := by decide +kernel
theorem dX5_become_72 : decode cX5_become 72 = .ok (.iconst 0, 1) := by decide +kernel
theorem dX5_become_73 : decode cX5_become 73 = .ok (.bipush 12, 2) := by decide +kernel
theorem dX5_become_75 : decode cX5_become 75 = .ok (.invokestatic 49, 3) := by decide +kernel
theorem dX5_become_78 : decode cX5_become 78 = .ok (.aload_n 1, 1) := by decide +kernel
theorem dX5_become_79 : decode cX5_become 79 = .ok (.getfield 37, 3) := by decide +kernel
theorem dX5_become_82 : decode cX5_become 82 = .ok (.iconst 0, 1) := by decide +kernel
theorem dX5_become_83 : decode cX5_become 83 = .ok (.aload_n 0, 1) := by decide +kernel
theorem dX5_become_84 : decode cX5_become 84 = .ok (.getfield 37, 3) := by decide +kernel
theorem dX5_become_87 : decode cX5_become 87 = .ok (.iconst 0, 1) := by decide +kernel
theorem dX5_become_88 : decode cX5_become 88 = .ok (.bipush 12, 2) := by decide +kernel
theorem dX5_become_90 : decode cX5_become 90 = .ok (.invokestatic 49, 3) := by decide +kernel
theorem dX5_become_93 : decode cX5_become 93 = .ok (.aload_n 1, 1) := by decide +kernel
theorem dX5_become_94 : decode cX5_become 94 = .ok (.getfield 40, 3) := by decide +kernel
theorem dX5_become_97 : decode cX5_become 97 = .ok (.iconst 0, 1) := by decide +kernel
theorem dX5_become_98 : decode cX5_become 98 = .ok (.aload_n 0, 1) := by decide +kernel
theorem dX5_become_99 : decode cX5_become 99 = .ok (.getfield 40, 3) := by decide +kernel
theorem dX5_become_102 : decode cX5_become 102 = .ok (.iconst 0, 1) := by decide +kernel
theorem dX5_become_103 : decode cX5_become 103 = .ok (.bipush 12, 2) := by decide +kernel
theorem dX5_become_105 : decode cX5_become 105 = .ok (.invokestatic 49, 3) := by decide +kernel
theorem dX5_become_108 : decode cX5_become 108 = .ok (.aload_n 1, 1) := by decide +kernel
theorem dX5_become_109 : decode cX5_become 109 = .ok (.getfield 43, 3) := by decide +kernel
theorem dX5_become_112 : decode cX5_become 112 = .ok (.iconst 0, 1) := by decide +kernel
theorem dX5_become_113 : decode cX5_become 113 = .ok (.aload_n 0, 1) := by decide +kernel
theorem dX5_become_114 : decode cX5_become 114 = .ok (.getfield 43, 3) := by decide +kernel
theorem dX5_become_117 : decode cX5_become 117 = .ok (.iconst 0, 1) := by decide +kernel
theorem dX5_become_118 : decode cX5_become 118 = .ok (.bipush 12, 2) := by decide +kernel
theorem dX5_become_120 : decode cX5_become 120 = .ok (.invokestatic 49, 3) := by decide +kernel
theorem dX5_become_123 : decode cX5_become 123 = .ok (.aload_n 1, 1) := by decide +kernel
theorem dX5_become_124 : decode cX5_become 124 = .ok (.getfield 46, 3) := by decide +kernel
theorem dX5_become_127 : decode cX5_become 127 = .ok (.iconst 0, 1) := by decide +kernel
theorem dX5_become_128 : decode cX5_become 128 = .ok (.aload_n 0, 1) := by decide +kernel
theorem dX5_become_129 : decode cX5_become 129 = .ok (.getfield 46, 3) := by decide +kernel
theorem dX5_become_132 : decode cX5_become 132 = .ok (.iconst 0, 1) := by decide +kernel
theorem dX5_become_133 : decode cX5_become 133 = .ok (.bipush 48, 2) := by decide +kernel
theorem dX5_become_135 : decode cX5_become 135 = .ok (.invokestatic 49, 3) := by decide +kernel
theorem dX5_become_138 : decode cX5_become 138 = .ok (.return_, 1) := by decide +kernel
theorem dX5_clear_0 : decode cX5_clear 0 = .ok (.aload_n 0, 1) := by decide +kernel
theorem dX5_clear_1 : decode cX5_clear 1 = .ok (.iconst 0, 1) := by decide +kernel
theorem dX5_clear_2 : decode cX5_clear 2 = .ok (.putfield 15, 3) := by decide +kernel
theorem dX5_clear_5 : decode cX5_clear 5 = .ok (.aload_n 0, 1) := by decide +kernel
theorem dX5_clear_6 : decode cX5_clear 6 = .ok (.bipush 11, 2) := by decide +kernel
theorem dX5_clear_8 : decode cX5_clear 8 = .ok (.putfield 18, 3) := by decide +kernel
theorem dX5_clear_11 : decode cX5_clear 11 = .ok (.aload_n 0, 1) := by decide +kernel
theorem dX5_clear_12 : decode cX5_clear 12 = .ok (.iconst 0, 1) := by decide +kernel
theorem dX5_clear_13 : decode cX5_clear 13 = .ok (.putfield 24, 3) := by decide +kernel
theorem dX5_clear_16 : decode cX5_clear 16 = .ok (.aload_n 0, 1) := by decide +kernel
theorem dX5_clear_17 : decode cX5_clear 17 = .ok (.iconst 0, 1) := by decide +kernel
theorem dX5_clear_18 : decode cX5_clear 18 = .ok (.putfield 27, 3) := by decide +kernel
theorem dX5_clear_21 : decode cX5_clear 21 = .ok (.return_, 1) := by decide +kernel
theorem dX5_add_0 : decode cX5_add 0 = .ok (.aload_n 0, 1) := by decide +kernel
theorem dX5_add_1 : decode cX5_add 1 = .ok (.getfield 15, 3) := by decide +kernel
theorem dX5_add_4 : decode cX5_add 4 = .ok (.bipush 12, 2) := by decide +kernel
theorem dX5_add_6 : decode cX5_add 6 = .ok (.if_icmp .lt 5, 3) := by decide +kernel
theorem dX5_add_9 : decode cX5_add 9 = .ok (.iconst 0, 1) := by decide +kernel
theorem dX5_add_10 : decode cX5_add 10 = .ok (.ireturn, 1) := by decide +kernel
theorem dX5_add_11 : decode cX5_add 11 = .ok (.aload_n 0, 1) := by decide +kernel
theorem dX5_add_12 : decode cX5_add 12 = .ok (.getfield 30, 3) := by decide +kernel
theorem dX5_add_15 : decode cX5_add 15 = .ok (.aload_n 0, 1) := by decide +kernel
theorem dX5_add_16 : decode cX5_add 16 = .ok (.getfield 15, 3) := by decide +kernel
theorem dX5_add_19 : decode cX5_add 19 = .ok (.iload_n 1, 1) := by decide +kernel
theorem dX5_add_20 : decode cX5_add 20 = .ok (.iastore, 1) := by decide +kernel
theorem dX5_add_21 : decode cX5_add 21 = .ok (.aload_n 0, 1) := by decide +kernel
theorem dX5_add_22 : decode cX5_add 22 = .ok (.getfield 34, 3) := by decide +kernel
theorem dX5_add_25 : decode cX5_add 25 = .ok (.aload_n 0, 1) := by decide +kernel
theorem dX5_add_26 : decode cX5_add 26 = .ok (.getfield 15, 3) := by decide +kernel
theorem dX5_add_29 : decode cX5_add 29 = .ok (.iload_n 2, 1) := by decide +kernel
theorem dX5_add_30 : decode cX5_add 30 = .ok (.iastore, 1) := by decide +kernel
theorem dX5_add_31 : decode cX5_add 31 = .ok (.aload_n 0, 1) := by decide +kernel
theorem dX5_add_32 : decode cX5_add 32 = .ok (.getfield 37, 3) := by decide +kernel
theorem dX5_add_35 : decode cX5_add 35 = .ok (.aload_n 0, 1) := by decide +kernel
theorem dX5_add_36 : decode cX5_add 36 = .ok (.getfield 15, 3) := by decide +kernel
theorem dX5_add_39 : decode cX5_add 39 = .ok (.iload_n 3, 1) := by decide +kernel
theorem dX5_add_40 : decode cX5_add 40 = .ok (.iastore, 1) := by decide +kernel
theorem dX5_add_41 : decode cX5_add 41 = .ok (.aload_n 0, 1) := by decide +kernel
theorem dX5_add_42 : decode cX5_add 42 = .ok (.getfield 40, 3) := by decide +kernel
theorem dX5_add_45 : decode cX5_add 45 = .ok (.aload_n 0, 1) := by decide +kernel
theorem dX5_add_46 : decode cX5_add 46 = .ok (.getfield 15, 3) := by decide +kernel
theorem dX5_add_49 : decode cX5_add 49 = .ok (.iconst 1, 1) := by decide +kernel
theorem dX5_add_50 : decode cX5_add 50 = .ok (.iastore, 1) := by decide +kernel
theorem dX5_add_51 : decode cX5_add 51 = .ok (.aload_n 0, 1) := by decide +kernel
theorem dX5_add_52 : decode cX5_add 52 = .ok (.getfield 43, 3) := by decide +kernel
theorem dX5_add_55 : decode cX5_add 55 = .ok (.aload_n 0, 1) := by decide +kernel
theorem dX5_add_56 : decode cX5_add 56 = .ok (.getfield 15, 3) := by decide +kernel
theorem dX5_add_59 : decode cX5_add 59 = .ok (.iconst 4, 1) := by decide +kernel
theorem dX5_add_60 : decode cX5_add 60 = .ok (.iastore, 1) := by decide +kernel
theorem dX5_add_61 : decode cX5_add 61 = .ok (.iconst 0, 1) := by decide +kernel
theorem dX5_add_62 : decode cX5_add 62 = .ok (.istore 4, 2) := by decide +kernel
theorem dX5_add_64 : decode cX5_add 64 = .ok (.iload 4, 2) := by decide +kernel
theorem dX5_add_66 : decode cX5_add 66 = .ok (.iconst 4, 1) := by decide +kernel
theorem dX5_add_67 : decode cX5_add 67 = .ok (.if_icmp .ge 24, 3) := by decide +kernel
theorem dX5_add_70 : decode cX5_add 70 = .ok (.aload_n 0, 1) := by decide +kernel
theorem dX5_add_71 : decode cX5_add 71 = .ok (.getfield 46, 3) := by decide +kernel
theorem dX5_add_74 : decode cX5_add 74 = .ok (.aload_n 0, 1) := by decide +kernel
theorem dX5_add_75 : decode cX5_add 75 = .ok (.getfield 15, 3) := by decide +kernel
theorem dX5_add_78 : decode cX5_add 78 = .ok (.iconst 4, 1) := by decide +kernel
theorem dX5_add_79 : decode cX5_add 79 = .ok (.imul, 1) := by decide +kernel
theorem dX5_add_80 : decode cX5_add 80 = .ok (.iload 4, 2) := by decide +kernel
theorem dX5_add_82 : decode cX5_add 82 = .ok (.iadd, 1) := by decide +kernel
theorem dX5_add_83 : decode cX5_add 83 = .ok (.iconst 0, 1) := by decide +kernel
theorem dX5_add_84 : decode cX5_add 84 = .ok (.iastore, 1) := by decide +kernel
theorem dX5_add_85 : decode cX5_add 85 = .ok (.iinc 4 1, 3) := by decide +kernel
theorem dX5_add_88 : decode cX5_add 88 = .ok (.goto (-24), 3) := by decide +kernel
theorem dX5_add_91 : decode cX5_add 91 = .ok (.aload_n 0, 1) := by decide +kernel
theorem dX5_add_92 : decode cX5_add 92 = .ok (.dup, 1) := by decide +kernel
theorem dX5_add_93 : decode cX5_add 93 = .ok (.getfield 15, 3) := by decide +kernel
theorem dX5_add_96 : decode cX5_add 96 = .ok (.iconst 1, 1) := by decide +kernel
theorem dX5_add_97 : decode cX5_add 97 = .ok (.iadd, 1) := by decide +kernel
theorem dX5_add_98 : decode cX5_add 98 = .ok (.putfield 15, 3) := by decide +kernel
theorem dX5_add_101 : decode cX5_add 101 = .ok (.iconst 1, 1) := by decide +kernel
theorem dX5_add_102 : decode cX5_add 102 = .ok (.ireturn, 1) := by decide +kernel
theorem dX5_beginNext_0 : decode cX5_beginNext 0 = .ok (.aload_n 0, 1) := by decide +kernel
theorem dX5_beginNext_1 : decode cX5_beginNext 1 = .ok (.aload_n 0, 1) := by decide +kernel
theorem dX5_beginNext_2 : decode cX5_beginNext 2 = .ok (.aload_n 0, 1) := by decide +kernel
theorem dX5_beginNext_3 : decode cX5_beginNext 3 = .ok (.getfield 27, 3) := by decide +kernel
theorem dX5_beginNext_6 : decode cX5_beginNext 6 = .ok (.invokevirtual 55, 3) := by decide +kernel
theorem dX5_beginNext_9 : decode cX5_beginNext 9 = .ok (.putfield 24, 3) := by decide +kernel
theorem dX5_beginNext_12 : decode cX5_beginNext 12 = .ok (.aload_n 0, 1) := by decide +kernel
theorem dX5_beginNext_13 : decode cX5_beginNext 13 = .ok (.iconst 0, 1) := by decide +kernel
theorem dX5_beginNext_14 : decode cX5_beginNext 14 = .ok (.putfield 27, 3) := by decide +kernel
theorem dX5_beginNext_17 : decode cX5_beginNext 17 = .ok (.aload_n 0, 1) := by decide +kernel
theorem dX5_beginNext_18 : decode cX5_beginNext 18 = .ok (.bipush 11, 2) := by decide +kernel
theorem dX5_beginNext_20 : decode cX5_beginNext 20 = .ok (.putfield 18, 3) := by decide +kernel
theorem dX5_beginNext_23 : decode cX5_beginNext 23 = .ok (.aload_n 0, 1) := by decide +kernel
theorem dX5_beginNext_24 : decode cX5_beginNext 24 = .ok (.dup, 1) := by decide +kernel
theorem dX5_beginNext_25 : decode cX5_beginNext 25 = .ok (.getfield 21, 3) := by decide +kernel
theorem dX5_beginNext_28 : decode cX5_beginNext 28 = .ok (.iconst 1, 1) := by decide +kernel
theorem dX5_beginNext_29 : decode cX5_beginNext 29 = .ok (.iadd, 1) := by decide +kernel
theorem dX5_beginNext_30 : decode cX5_beginNext 30 = .ok (.putfield 21, 3) := by decide +kernel
theorem dX5_beginNext_33 : decode cX5_beginNext 33 = .ok (.return_, 1) := by decide +kernel
theorem dX5_has_0 : decode cX5_has 0 = .ok (.iload_n 1, 1) := by decide +kernel
theorem dX5_has_1 : decode cX5_has 1 = .ok (.ifCond .lt 15, 3) := by decide +kernel
theorem dX5_has_4 : decode cX5_has 4 = .ok (.iload_n 1, 1) := by decide +kernel
theorem dX5_has_5 : decode cX5_has 5 = .ok (.aload_n 0, 1) := by decide +kernel
theorem dX5_has_6 : decode cX5_has 6 = .ok (.getfield 15, 3) := by decide +kernel
theorem dX5_has_9 : decode cX5_has 9 = .ok (.if_icmp .ge 7, 3) := by decide +kernel
theorem dX5_has_12 : decode cX5_has 12 = .ok (.iconst 1, 1) := by decide +kernel
theorem dX5_has_13 : decode cX5_has 13 = .ok (.goto 4, 3) := by decide +kernel
theorem dX5_has_16 : decode cX5_has 16 = .ok (.iconst 0, 1) := by decide +kernel
theorem dX5_has_17 : decode cX5_has 17 = .ok (.ireturn, 1) := by decide +kernel
theorem dX5_isPerson_0 : decode cX5_isPerson 0 = .ok (.iload_n 1, 1) := by decide +kernel
theorem dX5_isPerson_1 : decode cX5_isPerson 1 = .ok (.ifCond .lt 15, 3) := by decide +kernel
theorem dX5_isPerson_4 : decode cX5_isPerson 4 = .ok (.iload_n 1, 1) := by decide +kernel
theorem dX5_isPerson_5 : decode cX5_isPerson 5 = .ok (.aload_n 0, 1) := by decide +kernel
theorem dX5_isPerson_6 : decode cX5_isPerson 6 = .ok (.getfield 9, 3) := by decide +kernel
theorem dX5_isPerson_9 : decode cX5_isPerson 9 = .ok (.if_icmp .ge 7, 3) := by decide +kernel
theorem dX5_isPerson_12 : decode cX5_isPerson 12 = .ok (.iconst 1, 1) := by decide +kernel
theorem dX5_isPerson_13 : decode cX5_isPerson 13 = .ok (.goto 4, 3) := by decide +kernel
theorem dX5_isPerson_16 : decode cX5_isPerson 16 = .ok (.iconst 0, 1) := by decide +kernel
theorem dX5_isPerson_17 : decode cX5_isPerson 17 = .ok (.ireturn, 1) := by decide +kernel
theorem dX5_all_0 : decode cX5_all 0 = .ok (.iconst 1, 1) := by decide +kernel
theorem dX5_all_1 : decode cX5_all 1 = .ok (.aload_n 0, 1) := by decide +kernel
theorem dX5_all_2 : decode cX5_all 2 = .ok (.getfield 15, 3) := by decide +kernel
theorem dX5_all_5 : decode cX5_all 5 = .ok (.ishl, 1) := by decide +kernel
theorem dX5_all_6 : decode cX5_all 6 = .ok (.iconst 1, 1) := by decide +kernel
theorem dX5_all_7 : decode cX5_all 7 = .ok (.isub, 1) := by decide +kernel
theorem dX5_all_8 : decode cX5_all 8 = .ok (.ireturn, 1) := by decide +kernel
theorem dX5_ofDay_0 : decode cX5_ofDay 0 = .ok (.iconst 0, 1) := by decide +kernel
theorem dX5_ofDay_1 : decode cX5_ofDay 1 = .ok (.istore_n 2, 1) := by decide +kernel
theorem dX5_ofDay_2 : decode cX5_ofDay 2 = .ok (.iconst 0, 1) := by decide +kernel
theorem dX5_ofDay_3 : decode cX5_ofDay 3 = .ok (.istore_n 3, 1) := by decide +kernel
theorem dX5_ofDay_4 : decode cX5_ofDay 4 = .ok (.iload_n 3, 1) := by decide +kernel
theorem dX5_ofDay_5 : decode cX5_ofDay 5 = .ok (.aload_n 0, 1) := by decide +kernel
theorem dX5_ofDay_6 : decode cX5_ofDay 6 = .ok (.getfield 15, 3) := by decide +kernel
theorem dX5_ofDay_9 : decode cX5_ofDay 9 = .ok (.if_icmp .ge 25, 3) := by decide +kernel
theorem dX5_ofDay_12 : decode cX5_ofDay 12 = .ok (.aload_n 0, 1) := by decide +kernel
theorem dX5_ofDay_13 : decode cX5_ofDay 13 = .ok (.getfield 34, 3) := by decide +kernel
theorem dX5_ofDay_16 : decode cX5_ofDay 16 = .ok (.iload_n 3, 1) := by decide +kernel
theorem dX5_ofDay_17 : decode cX5_ofDay 17 = .ok (.iaload, 1) := by decide +kernel
theorem dX5_ofDay_18 : decode cX5_ofDay 18 = .ok (.iload_n 1, 1) := by decide +kernel
theorem dX5_ofDay_19 : decode cX5_ofDay 19 = .ok (.if_icmp .ne 9, 3) := by decide +kernel
theorem dX5_ofDay_22 : decode cX5_ofDay 22 = .ok (.iload_n 2, 1) := by decide +kernel
theorem dX5_ofDay_23 : decode cX5_ofDay 23 = .ok (.iconst 1, 1) := by decide +kernel
theorem dX5_ofDay_24 : decode cX5_ofDay 24 = .ok (.iload_n 3, 1) := by decide +kernel
theorem dX5_ofDay_25 : decode cX5_ofDay 25 = .ok (.ishl, 1) := by decide +kernel
theorem dX5_ofDay_26 : decode cX5_ofDay 26 = .ok (.ior, 1) := by decide +kernel
theorem dX5_ofDay_27 : decode cX5_ofDay 27 = .ok (.istore_n 2, 1) := by decide +kernel
theorem dX5_ofDay_28 : decode cX5_ofDay 28 = .ok (.iinc 3 1, 3) := by decide +kernel
theorem dX5_ofDay_31 : decode cX5_ofDay 31 = .ok (.goto (-27), 3) := by decide +kernel
theorem dX5_ofDay_34 : decode cX5_ofDay 34 = .ok (.iload_n 2, 1) := by decide +kernel
theorem dX5_ofDay_35 : decode cX5_ofDay 35 = .ok (.ireturn, 1) := by decide +kernel
theorem dX5_needable_0 : decode cX5_needable 0 = .ok (.iconst 0, 1) := by decide +kernel
theorem dX5_needable_1 : decode cX5_needable 1 = .ok (.istore_n 3, 1) := by decide +kernel
theorem dX5_needable_2 : decode cX5_needable 2 = .ok (.iconst 0, 1) := by decide +kernel
theorem dX5_needable_3 : decode cX5_needable 3 = .ok (.istore 4, 2) := by decide +kernel
theorem dX5_needable_5 : decode cX5_needable 5 = .ok (.iload 4, 2) := by decide +kernel
theorem dX5_needable_7 : decode cX5_needable 7 = .ok (.iload_n 1, 1) := by decide +kernel
theorem dX5_needable_8 : decode cX5_needable 8 = .ok (.if_icmp .ge 36, 3) := by decide +kernel
theorem dX5_needable_11 : decode cX5_needable 11 = .ok (.iload 4, 2) := by decide +kernel
theorem dX5_needable_13 : decode cX5_needable 13 = .ok (.aload_n 0, 1) := by decide +kernel
theorem dX5_needable_14 : decode cX5_needable 14 = .ok (.getfield 15, 3) := by decide +kernel
theorem dX5_needable_17 : decode cX5_needable 17 = .ok (.if_icmp .ge 27, 3) := by decide +kernel
theorem dX5_needable_20 : decode cX5_needable 20 = .ok (.aload_n 0, 1) := by decide +kernel
theorem dX5_needable_21 : decode cX5_needable 21 = .ok (.getfield 34, 3) := by decide +kernel
theorem dX5_needable_24 : decode cX5_needable 24 = .ok (.iload 4, 2) := by decide +kernel
theorem dX5_needable_26 : decode cX5_needable 26 = .ok (.iaload, 1) := by decide +kernel
theorem dX5_needable_27 : decode cX5_needable 27 = .ok (.iload_n 2, 1) := by decide +kernel
theorem dX5_needable_28 : decode cX5_needable 28 = .ok (.if_icmp .gt 10, 3) := by decide +kernel
theorem dX5_needable_31 : decode cX5_needable 31 = .ok (.iload_n 3, 1) := by decide +kernel
theorem dX5_needable_32 : decode cX5_needable 32 = .ok (.iconst 1, 1) := by decide +kernel
theorem dX5_needable_33 : decode cX5_needable 33 = .ok (.iload 4, 2) := by decide +kernel
theorem dX5_needable_35 : decode cX5_needable 35 = .ok (.ishl, 1) := by decide +kernel
theorem dX5_needable_36 : decode cX5_needable 36 = .ok (.ior, 1) := by decide +kernel
theorem dX5_needable_37 : decode cX5_needable 37 = .ok (.istore_n 3, 1) := by decide +kernel
theorem dX5_needable_38 : decode cX5_needable 38 = .ok (.iinc 4 1, 3) := by decide +kernel
theorem dX5_needable_41 : decode cX5_needable 41 = .ok (.goto (-36), 3) := by decide +kernel
theorem dX5_needable_44 : decode cX5_needable 44 = .ok (.iload_n 3, 1) := by decide +kernel
theorem dX5_needable_45 : decode cX5_needable 45 = .ok (.ireturn, 1) := by decide +kernel
theorem dX5_worthTo_0 : decode cX5_worthTo 0 = .ok (.aload_n 0, 1) := by decide +kernel
theorem dX5_worthTo_1 : decode cX5_worthTo 1 = .ok (.getfield 46, 3) := by decide +kernel
theorem dX5_worthTo_4 : decode cX5_worthTo 4 = .ok (.iload_n 1, 1) := by decide +kernel
theorem dX5_worthTo_5 : decode cX5_worthTo 5 = .ok (.iconst 4, 1) := by decide +kernel
theorem dX5_worthTo_6 : decode cX5_worthTo 6 = .ok (.imul, 1) := by decide +kernel
theorem dX5_worthTo_7 : decode cX5_worthTo 7 = .ok (.iload_n 2, 1) := by decide +kernel
theorem dX5_worthTo_8 : decode cX5_worthTo 8 = .ok (.iadd, 1) := by decide +kernel
theorem dX5_worthTo_9 : decode cX5_worthTo 9 = .ok (.iaload, 1) := by decide +kernel
theorem dX5_worthTo_10 : decode cX5_worthTo 10 = .ok (.ireturn, 1) := by decide +kernel
theorem dX5_worthToAll_0 : decode cX5_worthToAll 0 = .ok (.iconst 0, 1) := by decide +kernel
theorem dX5_worthToAll_1 : decode cX5_worthToAll 1 = .ok (.istore_n 2, 1) := by decide +kernel
theorem dX5_worthToAll_2 : decode cX5_worthToAll 2 = .ok (.iconst 0, 1) := by decide +kernel
theorem dX5_worthToAll_3 : decode cX5_worthToAll 3 = .ok (.istore_n 3, 1) := by decide +kernel
theorem dX5_worthToAll_4 : decode cX5_worthToAll 4 = .ok (.iload_n 3, 1) := by decide +kernel
theorem dX5_worthToAll_5 : decode cX5_worthToAll 5 = .ok (.aload_n 0, 1) := by decide +kernel
theorem dX5_worthToAll_6 : decode cX5_worthToAll 6 = .ok (.getfield 9, 3) := by decide +kernel
theorem dX5_worthToAll_9 : decode cX5_worthToAll 9 = .ok (.if_icmp .ge 18, 3) := by decide +kernel
theorem dX5_worthToAll_12 : decode cX5_worthToAll 12 = .ok (.iload_n 2, 1) := by decide +kernel
theorem dX5_worthToAll_13 : decode cX5_worthToAll 13 = .ok (.aload_n 0, 1) := by decide +kernel
theorem dX5_worthToAll_14 : decode cX5_worthToAll 14 = .ok (.iload_n 1, 1) := by decide +kernel
theorem dX5_worthToAll_15 : decode cX5_worthToAll 15 = .ok (.iload_n 3, 1) := by decide +kernel
theorem dX5_worthToAll_16 : decode cX5_worthToAll 16 = .ok (.invokevirtual 59, 3) := by decide +kernel
theorem dX5_worthToAll_19 : decode cX5_worthToAll 19 = .ok (.iadd, 1) := by decide +kernel
theorem dX5_worthToAll_20 : decode cX5_worthToAll 20 = .ok (.istore_n 2, 1) := by decide +kernel
theorem dX5_worthToAll_21 : decode cX5_worthToAll 21 = .ok (.iinc 3 1, 3) := by decide +kernel
theorem dX5_worthToAll_24 : decode cX5_worthToAll 24 = .ok (.goto (-20), 3) := by decide +kernel
theorem dX5_worthToAll_27 : decode cX5_worthToAll 27 = .ok (.iload_n 2, 1) := by decide +kernel
theorem dX5_worthToAll_28 : decode cX5_worthToAll 28 = .ok (.ireturn, 1) := by decide +kernel
theorem dX5_wouldStand_0 : decode cX5_wouldStand 0 = .ok (.aload_n 0, 1) := by decide +kernel
theorem dX5_wouldStand_1 : decode cX5_wouldStand 1 = .ok (.getfield 30, 3) := by decide +kernel
theorem dX5_wouldStand_4 : decode cX5_wouldStand 4 = .ok (.iload_n 1, 1) := by decide +kernel
theorem dX5_wouldStand_5 : decode cX5_wouldStand 5 = .ok (.iaload, 1) := by decide +kernel
theorem dX5_wouldStand_6 : decode cX5_wouldStand 6 = .ok (.iconst 3, 1) := by decide +kernel
theorem dX5_wouldStand_7 : decode cX5_wouldStand 7 = .ok (.if_icmp .ne 18, 3) := by decide +kernel
theorem dX5_wouldStand_10 : decode cX5_wouldStand 10 = .ok (.aload_n 0, 1) := by decide +kernel
theorem dX5_wouldStand_11 : decode cX5_wouldStand 11 = .ok (.getfield 24, 3) := by decide +kernel
theorem dX5_wouldStand_14 : decode cX5_wouldStand 14 = .ok (.iload_n 1, 1) := by decide +kernel
theorem dX5_wouldStand_15 : decode cX5_wouldStand 15 = .ok (.invokestatic 63, 3) := by decide +kernel
theorem dX5_wouldStand_18 : decode cX5_wouldStand 18 = .ok (.ifCond .eq 7, 3) := by decide +kernel
theorem dX5_wouldStand_21 : decode cX5_wouldStand 21 = .ok (.iconst 1, 1) := by decide +kernel
theorem dX5_wouldStand_22 : decode cX5_wouldStand 22 = .ok (.goto 4, 3) := by decide +kernel
theorem dX5_wouldStand_25 : decode cX5_wouldStand 25 = .ok (.iconst 0, 1) := by decide +kernel
theorem dX5_wouldStand_26 : decode cX5_wouldStand 26 = .ok (.istore_n 3, 1) := by decide +kernel
theorem dX5_wouldStand_27 : decode cX5_wouldStand 27 = .ok (.iload_n 3, 1) := by decide +kernel
theorem dX5_wouldStand_28 : decode cX5_wouldStand 28 = .ok (.ifCond .ne 22, 3) := by decide +kernel
theorem dX5_wouldStand_31 : decode cX5_wouldStand 31 = .ok (.aload_n 0, 1) := by decide +kernel
theorem dX5_wouldStand_32 : decode cX5_wouldStand 32 = .ok (.getfield 30, 3) := by decide +kernel
theorem dX5_wouldStand_35 : decode cX5_wouldStand 35 = .ok (.iload_n 1, 1) := by decide +kernel
theorem dX5_wouldStand_36 : decode cX5_wouldStand 36 = .ok (.iaload, 1) := by decide +kernel
theorem dX5_wouldStand_37 : decode cX5_wouldStand 37 = .ok (.aload_n 0, 1) := by decide +kernel
theorem dX5_wouldStand_38 : decode cX5_wouldStand 38 = .ok (.getfield 37, 3) := by decide +kernel
theorem dX5_wouldStand_41 : decode cX5_wouldStand 41 = .ok (.iload_n 1, 1) := by decide +kernel
theorem dX5_wouldStand_42 : decode cX5_wouldStand 42 = .ok (.iaload, 1) := by decide +kernel
theorem dX5_wouldStand_43 : decode cX5_wouldStand 43 = .ok (.iload_n 2, 1) := by decide +kernel
theorem dX5_wouldStand_44 : decode cX5_wouldStand 44 = .ok (.invokestatic 67, 3) := by decide +kernel
theorem dX5_wouldStand_47 : decode cX5_wouldStand 47 = .ok (.ifCond .eq 7, 3) := by decide +kernel
theorem dX5_wouldStand_50 : decode cX5_wouldStand 50 = .ok (.iconst 1, 1) := by decide +kernel
theorem dX5_wouldStand_51 : decode cX5_wouldStand 51 = .ok (.goto 4, 3) := by decide +kernel
theorem dX5_wouldStand_54 : decode cX5_wouldStand 54 = .ok (.iconst 0, 1) := by decide +kernel
theorem dX5_wouldStand_55 : decode cX5_wouldStand 55 = .ok (.ireturn, 1) := by decide +kernel
theorem dX5_isMet_0 : decode cX5_isMet 0 = .ok (.iload_n 1, 1) := by decide +kernel
theorem dX5_isMet_1 : decode cX5_isMet 1 = .ok (.iload_n 2, 1) := by decide +kernel
theorem dX5_isMet_2 : decode cX5_isMet 2 = .ok (.iand, 1) := by decide +kernel
theorem dX5_isMet_3 : decode cX5_isMet 3 = .ok (.istore_n 3, 1) := by decide +kernel
theorem dX5_isMet_4 : decode cX5_isMet 4 = .ok (.iload_n 0, 1) := by decide +kernel
theorem dX5_isMet_5 : decode cX5_isMet 5 = .ok (.lookupswitch 48 #[(0, 27), (2, 38)], 27) := by decide +kernel
theorem dX5_isMet_32 : decode cX5_isMet 32 = .ok (.iload_n 3, 1) := by decide +kernel
theorem dX5_isMet_33 : decode cX5_isMet 33 = .ok (.iload_n 1, 1) := by decide +kernel
theorem dX5_isMet_34 : decode cX5_isMet 34 = .ok (.if_icmp .ne 7, 3) := by decide +kernel
theorem dX5_isMet_37 : decode cX5_isMet 37 = .ok (.iconst 1, 1) := by decide +kernel
theorem dX5_isMet_38 : decode cX5_isMet 38 = .ok (.goto 4, 3) := by decide +kernel
theorem dX5_isMet_41 : decode cX5_isMet 41 = .ok (.iconst 0, 1) := by decide +kernel
theorem dX5_isMet_42 : decode cX5_isMet 42 = .ok (.ireturn, 1) := by decide +kernel
theorem dX5_isMet_43 : decode cX5_isMet 43 = .ok (.iload_n 3, 1) := by decide +kernel
theorem dX5_isMet_44 : decode cX5_isMet 44 = .ok (.ifCond .ne 7, 3) := by decide +kernel
theorem dX5_isMet_47 : decode cX5_isMet 47 = .ok (.iconst 1, 1) := by decide +kernel
theorem dX5_isMet_48 : decode cX5_isMet 48 = .ok (.goto 4, 3) := by decide +kernel
theorem dX5_isMet_51 : decode cX5_isMet 51 = .ok (.iconst 0, 1) := by decide +kernel
theorem dX5_isMet_52 : decode cX5_isMet 52 = .ok (.ireturn, 1) := by decide +kernel
theorem dX5_isMet_53 : decode cX5_isMet 53 = .ok (.iload_n 3, 1) := by decide +kernel
theorem dX5_isMet_54 : decode cX5_isMet 54 = .ok (.ifCond .ne 7, 3) := by decide +kernel
theorem dX5_isMet_57 : decode cX5_isMet 57 = .ok (.iload_n 1, 1) := by decide +kernel
theorem dX5_isMet_58 : decode cX5_isMet 58 = .ok (.ifCond .ne 7, 3) := by decide +kernel
theorem dX5_isMet_61 : decode cX5_isMet 61 = .ok (.iconst 1, 1) := by decide +kernel
theorem dX5_isMet_62 : decode cX5_isMet 62 = .ok (.goto 4, 3) := by decide +kernel
theorem dX5_isMet_65 : decode cX5_isMet 65 = .ok (.iconst 0, 1) := by decide +kernel
theorem dX5_isMet_66 : decode cX5_isMet 66 = .ok (.ireturn, 1) := by decide +kernel
theorem dX5_standing_0 : decode cX5_standing 0 = .ok (.iconst 0, 1) := by decide +kernel
theorem dX5_standing_1 : decode cX5_standing 1 = .ok (.istore_n 2, 1) := by decide +kernel
theorem dX5_standing_2 : decode cX5_standing 2 = .ok (.iconst 0, 1) := by decide +kernel
theorem dX5_standing_3 : decode cX5_standing 3 = .ok (.istore_n 3, 1) := by decide +kernel
theorem dX5_standing_4 : decode cX5_standing 4 = .ok (.iload_n 3, 1) := by decide +kernel
theorem dX5_standing_5 : decode cX5_standing 5 = .ok (.aload_n 0, 1) := by decide +kernel
theorem dX5_standing_6 : decode cX5_standing 6 = .ok (.getfield 15, 3) := by decide +kernel
theorem dX5_standing_9 : decode cX5_standing 9 = .ok (.if_icmp .ge 32, 3) := by decide +kernel
theorem dX5_standing_12 : decode cX5_standing 12 = .ok (.iload_n 1, 1) := by decide +kernel
theorem dX5_standing_13 : decode cX5_standing 13 = .ok (.iload_n 3, 1) := by decide +kernel
theorem dX5_standing_14 : decode cX5_standing 14 = .ok (.invokestatic 63, 3) := by decide +kernel
theorem dX5_standing_17 : decode cX5_standing 17 = .ok (.ifCond .ne 18, 3) := by decide +kernel
theorem dX5_standing_20 : decode cX5_standing 20 = .ok (.aload_n 0, 1) := by decide +kernel
theorem dX5_standing_21 : decode cX5_standing 21 = .ok (.iload_n 3, 1) := by decide +kernel
theorem dX5_standing_22 : decode cX5_standing 22 = .ok (.iload_n 2, 1) := by decide +kernel
theorem dX5_standing_23 : decode cX5_standing 23 = .ok (.invokevirtual 71, 3) := by decide +kernel
theorem dX5_standing_26 : decode cX5_standing 26 = .ok (.ifCond .eq 9, 3) := by decide +kernel
theorem dX5_standing_29 : decode cX5_standing 29 = .ok (.iload_n 2, 1) := by decide +kernel
theorem dX5_standing_30 : decode cX5_standing 30 = .ok (.iconst 1, 1) := by decide +kernel
theorem dX5_standing_31 : decode cX5_standing 31 = .ok (.iload_n 3, 1) := by decide +kernel
theorem dX5_standing_32 : decode cX5_standing 32 = .ok (.ishl, 1) := by decide +kernel
theorem dX5_standing_33 : decode cX5_standing 33 = .ok (.ior, 1) := by decide +kernel
theorem dX5_standing_34 : decode cX5_standing 34 = .ok (.istore_n 2, 1) := by decide +kernel
theorem dX5_standing_35 : decode cX5_standing 35 = .ok (.iinc 3 1, 3) := by decide +kernel
theorem dX5_standing_38 : decode cX5_standing 38 = .ok (.goto (-34), 3) := by decide +kernel
theorem dX5_standing_41 : decode cX5_standing 41 = .ok (.iload_n 2, 1) := by decide +kernel
theorem dX5_standing_42 : decode cX5_standing 42 = .ok (.ireturn, 1) := by decide +kernel
theorem dX5_bearer_0 : decode cX5_bearer 0 = .ok (.iconst 0, 1) := by decide +kernel
theorem dX5_bearer_1 : decode cX5_bearer 1 = .ok (.istore_n 2, 1) := by decide +kernel
theorem dX5_bearer_2 : decode cX5_bearer 2 = .ok (.iconst 0, 1) := by decide +kernel
theorem dX5_bearer_3 : decode cX5_bearer 3 = .ok (.istore_n 3, 1) := by decide +kernel
theorem dX5_bearer_4 : decode cX5_bearer 4 = .ok (.iconst 1, 1) := by decide +kernel
theorem dX5_bearer_5 : decode cX5_bearer 5 = .ok (.istore 4, 2) := by decide +kernel
theorem dX5_bearer_7 : decode cX5_bearer 7 = .ok (.iload 4, 2) := by decide +kernel
theorem dX5_bearer_9 : decode cX5_bearer 9 = .ok (.aload_n 0, 1) := by decide +kernel
theorem dX5_bearer_10 : decode cX5_bearer 10 = .ok (.getfield 9, 3) := by decide +kernel
theorem dX5_bearer_13 : decode cX5_bearer 13 = .ok (.if_icmp .ge 47, 3) := by decide +kernel
theorem dX5_bearer_16 : decode cX5_bearer 16 = .ok (.aload_n 0, 1) := by decide +kernel
theorem dX5_bearer_17 : decode cX5_bearer 17 = .ok (.iload_n 1, 1) := by decide +kernel
theorem dX5_bearer_18 : decode cX5_bearer 18 = .ok (.iload 4, 2) := by decide +kernel
theorem dX5_bearer_20 : decode cX5_bearer 20 = .ok (.invokevirtual 59, 3) := by decide +kernel
theorem dX5_bearer_23 : decode cX5_bearer 23 = .ok (.aload_n 0, 1) := by decide +kernel
theorem dX5_bearer_24 : decode cX5_bearer 24 = .ok (.iload_n 1, 1) := by decide +kernel
theorem dX5_bearer_25 : decode cX5_bearer 25 = .ok (.iload_n 2, 1) := by decide +kernel
theorem dX5_bearer_26 : decode cX5_bearer 26 = .ok (.invokevirtual 59, 3) := by decide +kernel
theorem dX5_bearer_29 : decode cX5_bearer 29 = .ok (.if_icmp .le 6, 3) := by decide +kernel
theorem dX5_bearer_32 : decode cX5_bearer 32 = .ok (.iload 4, 2) := by decide +kernel
theorem dX5_bearer_34 : decode cX5_bearer 34 = .ok (.istore_n 2, 1) := by decide +kernel
theorem dX5_bearer_35 : decode cX5_bearer 35 = .ok (.aload_n 0, 1) := by decide +kernel
theorem dX5_bearer_36 : decode cX5_bearer 36 = .ok (.iload_n 1, 1) := by decide +kernel
theorem dX5_bearer_37 : decode cX5_bearer 37 = .ok (.iload 4, 2) := by decide +kernel
theorem dX5_bearer_39 : decode cX5_bearer 39 = .ok (.invokevirtual 59, 3) := by decide +kernel
theorem dX5_bearer_42 : decode cX5_bearer 42 = .ok (.aload_n 0, 1) := by decide +kernel
theorem dX5_bearer_43 : decode cX5_bearer 43 = .ok (.iload_n 1, 1) := by decide +kernel
theorem dX5_bearer_44 : decode cX5_bearer 44 = .ok (.iload_n 3, 1) := by decide +kernel
theorem dX5_bearer_45 : decode cX5_bearer 45 = .ok (.invokevirtual 59, 3) := by decide +kernel
theorem dX5_bearer_48 : decode cX5_bearer 48 = .ok (.if_icmp .ge 6, 3) := by decide +kernel
theorem dX5_bearer_51 : decode cX5_bearer 51 = .ok (.iload 4, 2) := by decide +kernel
theorem dX5_bearer_53 : decode cX5_bearer 53 = .ok (.istore_n 3, 1) := by decide +kernel
theorem dX5_bearer_54 : decode cX5_bearer 54 = .ok (.iinc 4 1, 3) := by decide +kernel
theorem dX5_bearer_57 : decode cX5_bearer 57 = .ok (.goto (-50), 3) := by decide +kernel
theorem dX5_bearer_60 : decode cX5_bearer 60 = .ok (.aload_n 0, 1) := by decide +kernel
theorem dX5_bearer_61 : decode cX5_bearer 61 = .ok (.iload_n 1, 1) := by decide +kernel
theorem dX5_bearer_62 : decode cX5_bearer 62 = .ok (.iload_n 2, 1) := by decide +kernel
theorem dX5_bearer_63 : decode cX5_bearer 63 = .ok (.invokevirtual 59, 3) := by decide +kernel
theorem dX5_bearer_66 : decode cX5_bearer 66 = .ok (.ifCond .le 7, 3) := by decide +kernel
theorem dX5_bearer_69 : decode cX5_bearer 69 = .ok (.iload_n 2, 1) := by decide +kernel
theorem dX5_bearer_70 : decode cX5_bearer 70 = .ok (.goto 4, 3) := by decide +kernel
theorem dX5_bearer_73 : decode cX5_bearer 73 = .ok (.iload_n 3, 1) := by decide +kernel
theorem dX5_bearer_74 : decode cX5_bearer 74 = .ok (.ireturn, 1) := by decide +kernel
theorem dX5_valueBy_0 : decode cX5_valueBy 0 = .ok (.aload_n 0, 1) := by decide +kernel
theorem dX5_valueBy_1 : decode cX5_valueBy 1 = .ok (.iload_n 1, 1) := by decide +kernel
theorem dX5_valueBy_2 : decode cX5_valueBy 2 = .ok (.iload_n 2, 1) := by decide +kernel
theorem dX5_valueBy_3 : decode cX5_valueBy 3 = .ok (.aload_n 0, 1) := by decide +kernel
theorem dX5_valueBy_4 : decode cX5_valueBy 4 = .ok (.iload_n 2, 1) := by decide +kernel
theorem dX5_valueBy_5 : decode cX5_valueBy 5 = .ok (.invokevirtual 55, 3) := by decide +kernel
theorem dX5_valueBy_8 : decode cX5_valueBy 8 = .ok (.invokevirtual 74, 3) := by decide +kernel
theorem dX5_valueBy_11 : decode cX5_valueBy 11 = .ok (.ireturn, 1) := by decide +kernel
theorem dX5_sumBy_0 : decode cX5_sumBy 0 = .ok (.aload_n 0, 1) := by decide +kernel
theorem dX5_sumBy_1 : decode cX5_sumBy 1 = .ok (.iload_n 1, 1) := by decide +kernel
theorem dX5_sumBy_2 : decode cX5_sumBy 2 = .ok (.invokevirtual 55, 3) := by decide +kernel
theorem dX5_sumBy_5 : decode cX5_sumBy 5 = .ok (.istore_n 2, 1) := by decide +kernel
theorem dX5_sumBy_6 : decode cX5_sumBy 6 = .ok (.iconst 0, 1) := by decide +kernel
theorem dX5_sumBy_7 : decode cX5_sumBy 7 = .ok (.istore_n 3, 1) := by decide +kernel
theorem dX5_sumBy_8 : decode cX5_sumBy 8 = .ok (.iconst 0, 1) := by decide +kernel
theorem dX5_sumBy_9 : decode cX5_sumBy 9 = .ok (.istore 4, 2) := by decide +kernel
theorem dX5_sumBy_11 : decode cX5_sumBy 11 = .ok (.iload 4, 2) := by decide +kernel
theorem dX5_sumBy_13 : decode cX5_sumBy 13 = .ok (.aload_n 0, 1) := by decide +kernel
theorem dX5_sumBy_14 : decode cX5_sumBy 14 = .ok (.getfield 9, 3) := by decide +kernel
theorem dX5_sumBy_17 : decode cX5_sumBy 17 = .ok (.if_icmp .ge 20, 3) := by decide +kernel
theorem dX5_sumBy_20 : decode cX5_sumBy 20 = .ok (.iload_n 3, 1) := by decide +kernel
theorem dX5_sumBy_21 : decode cX5_sumBy 21 = .ok (.aload_n 0, 1) := by decide +kernel
theorem dX5_sumBy_22 : decode cX5_sumBy 22 = .ok (.iload 4, 2) := by decide +kernel
theorem dX5_sumBy_24 : decode cX5_sumBy 24 = .ok (.iload_n 1, 1) := by decide +kernel
theorem dX5_sumBy_25 : decode cX5_sumBy 25 = .ok (.iload_n 2, 1) := by decide +kernel
theorem dX5_sumBy_26 : decode cX5_sumBy 26 = .ok (.invokevirtual 74, 3) := by decide +kernel
theorem dX5_sumBy_29 : decode cX5_sumBy 29 = .ok (.iadd, 1) := by decide +kernel
theorem dX5_sumBy_30 : decode cX5_sumBy 30 = .ok (.istore_n 3, 1) := by decide +kernel
theorem dX5_sumBy_31 : decode cX5_sumBy 31 = .ok (.iinc 4 1, 3) := by decide +kernel
theorem dX5_sumBy_34 : decode cX5_sumBy 34 = .ok (.goto (-23), 3) := by decide +kernel
theorem dX5_sumBy_37 : decode cX5_sumBy 37 = .ok (.iload_n 3, 1) := by decide +kernel
theorem dX5_sumBy_38 : decode cX5_sumBy 38 = .ok (.ireturn, 1) := by decide +kernel
theorem dX5_valueOf_0 : decode cX5_valueOf 0 = .ok (.iconst 0, 1) := by decide +kernel
theorem dX5_valueOf_1 : decode cX5_valueOf 1 = .ok (.istore 4, 2) := by decide +kernel
theorem dX5_valueOf_3 : decode cX5_valueOf 3 = .ok (.iconst 0, 1) := by decide +kernel
theorem dX5_valueOf_4 : decode cX5_valueOf 4 = .ok (.istore 5, 2) := by decide +kernel
theorem dX5_valueOf_6 : decode cX5_valueOf 6 = .ok (.iload 5, 2) := by decide +kernel
theorem dX5_valueOf_8 : decode cX5_valueOf 8 = .ok (.aload_n 0, 1) := by decide +kernel
theorem dX5_valueOf_9 : decode cX5_valueOf 9 = .ok (.getfield 15, 3) := by decide +kernel
theorem dX5_valueOf_12 : decode cX5_valueOf 12 = .ok (.if_icmp .ge 61, 3) := by decide +kernel
theorem dX5_valueOf_15 : decode cX5_valueOf 15 = .ok (.iload_n 3, 1) := by decide +kernel
theorem dX5_valueOf_16 : decode cX5_valueOf 16 = .ok (.iload 5, 2) := by decide +kernel
theorem dX5_valueOf_18 : decode cX5_valueOf 18 = .ok (.invokestatic 63, 3) := by decide +kernel
theorem dX5_valueOf_21 : decode cX5_valueOf 21 = .ok (.ifCond .eq 15, 3) := by decide +kernel
theorem dX5_valueOf_24 : decode cX5_valueOf 24 = .ok (.iload 4, 2) := by decide +kernel
theorem dX5_valueOf_26 : decode cX5_valueOf 26 = .ok (.aload_n 0, 1) := by decide +kernel
theorem dX5_valueOf_27 : decode cX5_valueOf 27 = .ok (.iload 5, 2) := by decide +kernel
theorem dX5_valueOf_29 : decode cX5_valueOf 29 = .ok (.iload_n 1, 1) := by decide +kernel
theorem dX5_valueOf_30 : decode cX5_valueOf 30 = .ok (.invokevirtual 59, 3) := by decide +kernel
theorem dX5_valueOf_33 : decode cX5_valueOf 33 = .ok (.iadd, 1) := by decide +kernel
theorem dX5_valueOf_34 : decode cX5_valueOf 34 = .ok (.istore 4, 2) := by decide +kernel
theorem dX5_valueOf_36 : decode cX5_valueOf 36 = .ok (.iload_n 2, 1) := by decide +kernel
theorem dX5_valueOf_37 : decode cX5_valueOf 37 = .ok (.iload 5, 2) := by decide +kernel
theorem dX5_valueOf_39 : decode cX5_valueOf 39 = .ok (.invokestatic 63, 3) := by decide +kernel
theorem dX5_valueOf_42 : decode cX5_valueOf 42 = .ok (.ifCond .eq 25, 3) := by decide +kernel
theorem dX5_valueOf_45 : decode cX5_valueOf 45 = .ok (.aload_n 0, 1) := by decide +kernel
theorem dX5_valueOf_46 : decode cX5_valueOf 46 = .ok (.iload 5, 2) := by decide +kernel
theorem dX5_valueOf_48 : decode cX5_valueOf 48 = .ok (.invokevirtual 78, 3) := by decide +kernel
theorem dX5_valueOf_51 : decode cX5_valueOf 51 = .ok (.iload_n 1, 1) := by decide +kernel
theorem dX5_valueOf_52 : decode cX5_valueOf 52 = .ok (.if_icmp .ne 15, 3) := by decide +kernel
theorem dX5_valueOf_55 : decode cX5_valueOf 55 = .ok (.iload 4, 2) := by decide +kernel
theorem dX5_valueOf_57 : decode cX5_valueOf 57 = .ok (.aload_n 0, 1) := by decide +kernel
theorem dX5_valueOf_58 : decode cX5_valueOf 58 = .ok (.getfield 40, 3) := by decide +kernel
theorem dX5_valueOf_61 : decode cX5_valueOf 61 = .ok (.iload 5, 2) := by decide +kernel
theorem dX5_valueOf_63 : decode cX5_valueOf 63 = .ok (.iaload, 1) := by decide +kernel
theorem dX5_valueOf_64 : decode cX5_valueOf 64 = .ok (.isub, 1) := by decide +kernel
theorem dX5_valueOf_65 : decode cX5_valueOf 65 = .ok (.istore 4, 2) := by decide +kernel
theorem dX5_valueOf_67 : decode cX5_valueOf 67 = .ok (.iinc 5 1, 3) := by decide +kernel
theorem dX5_valueOf_70 : decode cX5_valueOf 70 = .ok (.goto (-64), 3) := by decide +kernel
theorem dX5_valueOf_73 : decode cX5_valueOf 73 = .ok (.iload 4, 2) := by decide +kernel
theorem dX5_valueOf_75 : decode cX5_valueOf 75 = .ok (.ireturn, 1) := by decide +kernel
theorem dJ6_bitCount_0f7a4_0 : decode cJ6_bitCount_0f7a4 0 = .ok (.iload_n 0, 1) := by decide +kernel
theorem dJ6_bitCount_0f7a4_1 : decode cJ6_bitCount_0f7a4 1 = .ok (.iload_n 0, 1) := by decide +kernel
theorem dJ6_bitCount_0f7a4_2 : decode cJ6_bitCount_0f7a4 2 = .ok (.iconst 1, 1) := by decide +kernel
theorem dJ6_bitCount_0f7a4_3 : decode cJ6_bitCount_0f7a4 3 = .ok (.iushr, 1) := by decide +kernel
theorem dJ6_bitCount_0f7a4_4 : decode cJ6_bitCount_0f7a4 4 = .ok (.ldc_w 265, 3) := by decide +kernel
theorem dJ6_bitCount_0f7a4_7 : decode cJ6_bitCount_0f7a4 7 = .ok (.iand, 1) := by decide +kernel
theorem dJ6_bitCount_0f7a4_8 : decode cJ6_bitCount_0f7a4 8 = .ok (.isub, 1) := by decide +kernel
theorem dJ6_bitCount_0f7a4_9 : decode cJ6_bitCount_0f7a4 9 = .ok (.istore_n 0, 1) := by decide +kernel
theorem dJ6_bitCount_0f7a4_10 : decode cJ6_bitCount_0f7a4 10 = .ok (.iload_n 0, 1) := by decide +kernel
theorem dJ6_bitCount_0f7a4_11 : decode cJ6_bitCount_0f7a4 11 = .ok (.ldc_w 266, 3) := by decide +kernel
theorem dJ6_bitCount_0f7a4_14 : decode cJ6_bitCount_0f7a4 14 = .ok (.iand, 1) := by decide +kernel
theorem dJ6_bitCount_0f7a4_15 : decode cJ6_bitCount_0f7a4 15 = .ok (.iload_n 0, 1) := by decide +kernel
theorem dJ6_bitCount_0f7a4_16 : decode cJ6_bitCount_0f7a4 16 = .ok (.iconst 2, 1) := by decide +kernel
theorem dJ6_bitCount_0f7a4_17 : decode cJ6_bitCount_0f7a4 17 = .ok (.iushr, 1) := by decide +kernel
theorem dJ6_bitCount_0f7a4_18 : decode cJ6_bitCount_0f7a4 18 = .ok (.ldc_w 266, 3) := by decide +kernel
theorem dJ6_bitCount_0f7a4_21 : decode cJ6_bitCount_0f7a4 21 = .ok (.iand, 1) := by decide +kernel
theorem dJ6_bitCount_0f7a4_22 : decode cJ6_bitCount_0f7a4 22 = .ok (.iadd, 1) := by decide +kernel
theorem dJ6_bitCount_0f7a4_23 : decode cJ6_bitCount_0f7a4 23 = .ok (.istore_n 0, 1) := by decide +kernel
theorem dJ6_bitCount_0f7a4_24 : decode cJ6_bitCount_0f7a4 24 = .ok (.iload_n 0, 1) := by decide +kernel
theorem dJ6_bitCount_0f7a4_25 : decode cJ6_bitCount_0f7a4 25 = .ok (.iload_n 0, 1) := by decide +kernel
theorem dJ6_bitCount_0f7a4_26 : decode cJ6_bitCount_0f7a4 26 = .ok (.iconst 4, 1) := by decide +kernel
theorem dJ6_bitCount_0f7a4_27 : decode cJ6_bitCount_0f7a4 27 = .ok (.iushr, 1) := by decide +kernel
theorem dJ6_bitCount_0f7a4_28 : decode cJ6_bitCount_0f7a4 28 = .ok (.iadd, 1) := by decide +kernel
theorem dJ6_bitCount_0f7a4_29 : decode cJ6_bitCount_0f7a4 29 = .ok (.ldc_w 267, 3) := by decide +kernel
theorem dJ6_bitCount_0f7a4_32 : decode cJ6_bitCount_0f7a4 32 = .ok (.iand, 1) := by decide +kernel
theorem dJ6_bitCount_0f7a4_33 : decode cJ6_bitCount_0f7a4 33 = .ok (.istore_n 0, 1) := by decide +kernel
theorem dJ6_bitCount_0f7a4_34 : decode cJ6_bitCount_0f7a4 34 = .ok (.iload_n 0, 1) := by decide +kernel
theorem dJ6_bitCount_0f7a4_35 : decode cJ6_bitCount_0f7a4 35 = .ok (.iload_n 0, 1) := by decide +kernel
theorem dJ6_bitCount_0f7a4_36 : decode cJ6_bitCount_0f7a4 36 = .ok (.bipush 8, 2) := by decide +kernel
theorem dJ6_bitCount_0f7a4_38 : decode cJ6_bitCount_0f7a4 38 = .ok (.iushr, 1) := by decide +kernel
theorem dJ6_bitCount_0f7a4_39 : decode cJ6_bitCount_0f7a4 39 = .ok (.iadd, 1) := by decide +kernel
theorem dJ6_bitCount_0f7a4_40 : decode cJ6_bitCount_0f7a4 40 = .ok (.istore_n 0, 1) := by decide +kernel
theorem dJ6_bitCount_0f7a4_41 : decode cJ6_bitCount_0f7a4 41 = .ok (.iload_n 0, 1) := by decide +kernel
theorem dJ6_bitCount_0f7a4_42 : decode cJ6_bitCount_0f7a4 42 = .ok (.iload_n 0, 1) := by decide +kernel
theorem dJ6_bitCount_0f7a4_43 : decode cJ6_bitCount_0f7a4 43 = .ok (.bipush 16, 2) := by decide +kernel
theorem dJ6_bitCount_0f7a4_45 : decode cJ6_bitCount_0f7a4 45 = .ok (.iushr, 1) := by decide +kernel
theorem dJ6_bitCount_0f7a4_46 : decode cJ6_bitCount_0f7a4 46 = .ok (.iadd, 1) := by decide +kernel
theorem dJ6_bitCount_0f7a4_47 : decode cJ6_bitCount_0f7a4 47 = .ok (.istore_n 0, 1) := by decide +kernel
theorem dJ6_bitCount_0f7a4_48 : decode cJ6_bitCount_0f7a4 48 = .ok (.iload_n 0, 1) := by decide +kernel
theorem dJ6_bitCount_0f7a4_49 : decode cJ6_bitCount_0f7a4 49 = .ok (.bipush 63, 2) := by decide +kernel
theorem dJ6_bitCount_0f7a4_51 : decode cJ6_bitCount_0f7a4 51 = .ok (.iand, 1) := by decide +kernel
theorem dJ6_bitCount_0f7a4_52 : decode cJ6_bitCount_0f7a4 52 = .ok (.ireturn, 1) := by decide +kernel
theorem dJ9_max_7cf53_0 : decode cJ9_max_7cf53 0 = .ok (.iload_n 0, 1) := by decide +kernel
theorem dJ9_max_7cf53_1 : decode cJ9_max_7cf53 1 = .ok (.iload_n 1, 1) := by decide +kernel
theorem dJ9_max_7cf53_2 : decode cJ9_max_7cf53 2 = .ok (.if_icmp .lt 7, 3) := by decide +kernel
theorem dJ9_max_7cf53_5 : decode cJ9_max_7cf53 5 = .ok (.iload_n 0, 1) := by decide +kernel
theorem dJ9_max_7cf53_6 : decode cJ9_max_7cf53 6 = .ok (.goto 4, 3) := by decide +kernel
theorem dJ9_max_7cf53_9 : decode cJ9_max_7cf53 9 = .ok (.iload_n 1, 1) := by decide +kernel
theorem dJ9_max_7cf53_10 : decode cJ9_max_7cf53 10 = .ok (.ireturn, 1) := by decide +kernel
theorem dX0_dueTo_0 : decode cX0_dueTo 0 = .ok (.iconst 0, 1) := by decide +kernel
theorem dX0_dueTo_1 : decode cX0_dueTo 1 = .ok (.istore_n 2, 1) := by decide +kernel
theorem dX0_dueTo_2 : decode cX0_dueTo 2 = .ok (.iconst 0, 1) := by decide +kernel
theorem dX0_dueTo_3 : decode cX0_dueTo 3 = .ok (.istore_n 3, 1) := by decide +kernel
theorem dX0_dueTo_4 : decode cX0_dueTo 4 = .ok (.iload_n 3, 1) := by decide +kernel
theorem dX0_dueTo_5 : decode cX0_dueTo 5 = .ok (.aload_n 0, 1) := by decide +kernel
theorem dX0_dueTo_6 : decode cX0_dueTo 6 = .ok (.getfield 9, 3) := by decide +kernel
theorem dX0_dueTo_9 : decode cX0_dueTo 9 = .ok (.if_icmp .ge 29, 3) := by decide +kernel
theorem dX0_dueTo_12 : decode cX0_dueTo 12 = .ok (.aload_n 0, 1) := by decide +kernel
theorem dX0_dueTo_13 : decode cX0_dueTo 13 = .ok (.getfield 15, 3) := by decide +kernel
theorem dX0_dueTo_16 : decode cX0_dueTo 16 = .ok (.iload_n 3, 1) := by decide +kernel
theorem dX0_dueTo_17 : decode cX0_dueTo 17 = .ok (.invokestatic 18, 3) := by decide +kernel
theorem dX0_dueTo_20 : decode cX0_dueTo 20 = .ok (.ifCond .eq 12, 3) := by decide +kernel
theorem dX0_dueTo_23 : decode cX0_dueTo 23 = .ok (.iload_n 2, 1) := by decide +kernel
theorem dX0_dueTo_24 : decode cX0_dueTo 24 = .ok (.aload_n 0, 1) := by decide +kernel
theorem dX0_dueTo_25 : decode cX0_dueTo 25 = .ok (.iload_n 3, 1) := by decide +kernel
theorem dX0_dueTo_26 : decode cX0_dueTo 26 = .ok (.iload_n 1, 1) := by decide +kernel
theorem dX0_dueTo_27 : decode cX0_dueTo 27 = .ok (.invokestatic 22, 3) := by decide +kernel
theorem dX0_dueTo_30 : decode cX0_dueTo 30 = .ok (.iadd, 1) := by decide +kernel
theorem dX0_dueTo_31 : decode cX0_dueTo 31 = .ok (.istore_n 2, 1) := by decide +kernel
theorem dX0_dueTo_32 : decode cX0_dueTo 32 = .ok (.iinc 3 1, 3) := by decide +kernel
theorem dX0_dueTo_35 : decode cX0_dueTo 35 = .ok (.goto (-31), 3) := by decide +kernel
theorem dX0_dueTo_38 : decode cX0_dueTo 38 = .ok (.iload_n 2, 1) := by decide +kernel
theorem dX0_dueTo_39 : decode cX0_dueTo 39 = .ok (.ireturn, 1) := by decide +kernel
theorem dX0_dueFor_0 : decode cX0_dueFor 0 = .ok (.aload_n 0, 1) := by decide +kernel
theorem dX0_dueFor_1 : decode cX0_dueFor 1 = .ok (.iload_n 1, 1) := by decide +kernel
theorem dX0_dueFor_2 : decode cX0_dueFor 2 = .ok (.invokevirtual 28, 3) := by decide +kernel
theorem dX0_dueFor_5 : decode cX0_dueFor 5 = .ok (.istore_n 3, 1) := by decide +kernel
theorem dX0_dueFor_6 : decode cX0_dueFor 6 = .ok (.iconst (-1), 1) := by decide +kernel
theorem dX0_dueFor_7 : decode cX0_dueFor 7 = .ok (.istore 4, 2) := by decide +kernel
theorem dX0_dueFor_9 : decode cX0_dueFor 9 = .ok (.iconst 0, 1) := by decide +kernel
theorem dX0_dueFor_10 : decode cX0_dueFor 10 = .ok (.istore 5, 2) := by decide +kernel
theorem dX0_dueFor_12 : decode cX0_dueFor 12 = .ok (.iconst 0, 1) := by decide +kernel
theorem dX0_dueFor_13 : decode cX0_dueFor 13 = .ok (.istore 6, 2) := by decide +kernel
theorem dX0_dueFor_15 : decode cX0_dueFor 15 = .ok (.iload 6, 2) := by decide +kernel
theorem dX0_dueFor_17 : decode cX0_dueFor 17 = .ok (.aload_n 0, 1) := by decide +kernel
theorem dX0_dueFor_18 : decode cX0_dueFor 18 = .ok (.getfield 32, 3) := by decide +kernel
theorem dX0_dueFor_21 : decode cX0_dueFor 21 = .ok (.if_icmp .ge 42, 3) := by decide +kernel
theorem dX0_dueFor_24 : decode cX0_dueFor 24 = .ok (.iload 6, 2) := by decide +kernel
theorem dX0_dueFor_26 : decode cX0_dueFor 26 = .ok (.iload_n 3, 1) := by decide +kernel
theorem dX0_dueFor_27 : decode cX0_dueFor 27 = .ok (.if_icmp .eq 30, 3) := by decide +kernel
theorem dX0_dueFor_30 : decode cX0_dueFor 30 = .ok (.aload_n 0, 1) := by decide +kernel
theorem dX0_dueFor_31 : decode cX0_dueFor 31 = .ok (.iload_n 1, 1) := by decide +kernel
theorem dX0_dueFor_32 : decode cX0_dueFor 32 = .ok (.iload 6, 2) := by decide +kernel
theorem dX0_dueFor_34 : decode cX0_dueFor 34 = .ok (.invokevirtual 35, 3) := by decide +kernel
theorem dX0_dueFor_37 : decode cX0_dueFor 37 = .ok (.ifCond .ge 20, 3) := by decide +kernel
theorem dX0_dueFor_40 : decode cX0_dueFor 40 = .ok (.iload 5, 2) := by decide +kernel
theorem dX0_dueFor_42 : decode cX0_dueFor 42 = .ok (.ifCond .ne 8, 3) := by decide +kernel
theorem dX0_dueFor_45 : decode cX0_dueFor 45 = .ok (.iload 6, 2) := by decide +kernel
theorem dX0_dueFor_47 : decode cX0_dueFor 47 = .ok (.goto 5, 3) := by decide +kernel
theorem dX0_dueFor_50 : decode cX0_dueFor 50 = .ok (.iload 4, 2) := by decide +kernel
theorem dX0_dueFor_52 : decode cX0_dueFor 52 = .ok (.istore 4, 2) := by decide +kernel
theorem dX0_dueFor_54 : decode cX0_dueFor 54 = .ok (.iinc 5 1, 3) := by decide +kernel
theorem dX0_dueFor_57 : decode cX0_dueFor 57 = .ok (.iinc 6 1, 3) := by decide +kernel
theorem dX0_dueFor_60 : decode cX0_dueFor 60 = .ok (.goto (-45), 3) := by decide +kernel
theorem dX0_dueFor_63 : decode cX0_dueFor 63 = .ok (.iload 5, 2) := by decide +kernel
theorem dX0_dueFor_65 : decode cX0_dueFor 65 = .ok (.ifCond .ne 5, 3) := by decide +kernel
theorem dX0_dueFor_68 : decode cX0_dueFor 68 = .ok (.iconst 0, 1) := by decide +kernel
theorem dX0_dueFor_69 : decode cX0_dueFor 69 = .ok (.ireturn, 1) := by decide +kernel
theorem dX0_dueFor_70 : decode cX0_dueFor 70 = .ok (.iload_n 2, 1) := by decide +kernel
theorem dX0_dueFor_71 : decode cX0_dueFor 71 = .ok (.iload_n 3, 1) := by decide +kernel
theorem dX0_dueFor_72 : decode cX0_dueFor 72 = .ok (.if_icmp .ne 11, 3) := by decide +kernel
theorem dX0_dueFor_75 : decode cX0_dueFor 75 = .ok (.aload_n 0, 1) := by decide +kernel
theorem dX0_dueFor_76 : decode cX0_dueFor 76 = .ok (.getfield 39, 3) := by decide +kernel
theorem dX0_dueFor_79 : decode cX0_dueFor 79 = .ok (.iload_n 1, 1) := by decide +kernel
theorem dX0_dueFor_80 : decode cX0_dueFor 80 = .ok (.iaload, 1) := by decide +kernel
theorem dX0_dueFor_81 : decode cX0_dueFor 81 = .ok (.ineg, 1) := by decide +kernel
theorem dX0_dueFor_82 : decode cX0_dueFor 82 = .ok (.ireturn, 1) := by decide +kernel
theorem dX0_dueFor_83 : decode cX0_dueFor 83 = .ok (.aload_n 0, 1) := by decide +kernel
theorem dX0_dueFor_84 : decode cX0_dueFor 84 = .ok (.iload_n 1, 1) := by decide +kernel
theorem dX0_dueFor_85 : decode cX0_dueFor 85 = .ok (.iload_n 2, 1) := by decide +kernel
theorem dX0_dueFor_86 : decode cX0_dueFor 86 = .ok (.invokevirtual 35, 3) := by decide +kernel
theorem dX0_dueFor_89 : decode cX0_dueFor 89 = .ok (.ifCond .lt 5, 3) := by decide +kernel
theorem dX0_dueFor_92 : decode cX0_dueFor 92 = .ok (.iconst 0, 1) := by decide +kernel
theorem dX0_dueFor_93 : decode cX0_dueFor 93 = .ok (.ireturn, 1) := by decide +kernel
theorem dX0_dueFor_94 : decode cX0_dueFor 94 = .ok (.iload_n 2, 1) := by decide +kernel
theorem dX0_dueFor_95 : decode cX0_dueFor 95 = .ok (.iload 4, 2) := by decide +kernel
theorem dX0_dueFor_97 : decode cX0_dueFor 97 = .ok (.if_icmp .ne 15, 3) := by decide +kernel
theorem dX0_dueFor_100 : decode cX0_dueFor 100 = .ok (.aload_n 0, 1) := by decide +kernel
theorem dX0_dueFor_101 : decode cX0_dueFor 101 = .ok (.getfield 39, 3) := by decide +kernel
theorem dX0_dueFor_104 : decode cX0_dueFor 104 = .ok (.iload_n 1, 1) := by decide +kernel
theorem dX0_dueFor_105 : decode cX0_dueFor 105 = .ok (.iaload, 1) := by decide +kernel
theorem dX0_dueFor_106 : decode cX0_dueFor 106 = .ok (.iload 5, 2) := by decide +kernel
theorem dX0_dueFor_108 : decode cX0_dueFor 108 = .ok (.irem, 1) := by decide +kernel
theorem dX0_dueFor_109 : decode cX0_dueFor 109 = .ok (.goto 4, 3) := by decide +kernel
theorem dX0_dueFor_112 : decode cX0_dueFor 112 = .ok (.iconst 0, 1) := by decide +kernel
theorem dX0_dueFor_113 : decode cX0_dueFor 113 = .ok (.istore 6, 2) := by decide +kernel
theorem dX0_dueFor_115 : decode cX0_dueFor 115 = .ok (.aload_n 0, 1) := by decide +kernel
theorem dX0_dueFor_116 : decode cX0_dueFor 116 = .ok (.getfield 39, 3) := by decide +kernel
theorem dX0_dueFor_119 : decode cX0_dueFor 119 = .ok (.iload_n 1, 1) := by decide +kernel
theorem dX0_dueFor_120 : decode cX0_dueFor 120 = .ok (.iaload, 1) := by decide +kernel
theorem dX0_dueFor_121 : decode cX0_dueFor 121 = .ok (.iload 5, 2) := by decide +kernel
theorem dX0_dueFor_123 : decode cX0_dueFor 123 = .ok (.idiv, 1) := by decide +kernel
theorem dX0_dueFor_124 : decode cX0_dueFor 124 = .ok (.iload 6, 2) := by decide +kernel
theorem dX0_dueFor_126 : decode cX0_dueFor 126 = .ok (.iadd, 1) := by decide +kernel
theorem dX0_dueFor_127 : decode cX0_dueFor 127 = .ok (.ireturn, 1) := by decide +kernel
theorem dX0_fewestPayments_0 : decode cX0_fewestPayments 0 = .ok (.iconst 0, 1) := by decide +kernel
theorem dX0_fewestPayments_1 : decode cX0_fewestPayments 1 = .ok (.istore_n 1, 1) := by decide +kernel
theorem dX0_fewestPayments_2 : decode cX0_fewestPayments 2 = .ok (.iconst 0, 1) := by decide +kernel
theorem dX0_fewestPayments_3 : decode cX0_fewestPayments 3 = .ok (.istore_n 2, 1) := by decide +kernel
theorem dX0_fewestPayments_4 : decode cX0_fewestPayments 4 = .ok (.iload_n 2, 1) := by decide +kernel
theorem dX0_fewestPayments_5 : decode cX0_fewestPayments 5 = .ok (.aload_n 0, 1) := by decide +kernel
theorem dX0_fewestPayments_6 : decode cX0_fewestPayments 6 = .ok (.arraylength, 1) := by decide +kernel
theorem dX0_fewestPayments_7 : decode cX0_fewestPayments 7 = .ok (.if_icmp .ge 21, 3) := by decide +kernel
theorem dX0_fewestPayments_10 : decode cX0_fewestPayments 10 = .ok (.aload_n 0, 1) := by decide +kernel
theorem dX0_fewestPayments_11 : decode cX0_fewestPayments 11 = .ok (.iload_n 2, 1) := by decide +kernel
theorem dX0_fewestPayments_12 : decode cX0_fewestPayments 12 = .ok (.iaload, 1) := by decide +kernel
theorem dX0_fewestPayments_13 : decode cX0_fewestPayments 13 = .ok (.ifCond .eq 9, 3) := by decide +kernel
theorem dX0_fewestPayments_16 : decode cX0_fewestPayments 16 = .ok (.iload_n 1, 1) := by decide +kernel
theorem dX0_fewestPayments_17 : decode cX0_fewestPayments 17 = .ok (.iconst 1, 1) := by decide +kernel
theorem dX0_fewestPayments_18 : decode cX0_fewestPayments 18 = .ok (.iload_n 2, 1) := by decide +kernel
theorem dX0_fewestPayments_19 : decode cX0_fewestPayments 19 = .ok (.ishl, 1) := by decide +kernel
theorem dX0_fewestPayments_20 : decode cX0_fewestPayments 20 = .ok (.ior, 1) := by decide +kernel
theorem dX0_fewestPayments_21 : decode cX0_fewestPayments 21 = .ok (.istore_n 1, 1) := by decide +kernel
theorem dX0_fewestPayments_22 : decode cX0_fewestPayments 22 = .ok (.iinc 2 1, 3) := by decide +kernel
theorem dX0_fewestPayments_25 : decode cX0_fewestPayments 25 = .ok (.goto (-21), 3) := by decide +kernel
theorem dX0_fewestPayments_28 : decode cX0_fewestPayments 28 = .ok (.iload_n 1, 1) := by decide +kernel
theorem dX0_fewestPayments_29 : decode cX0_fewestPayments 29 = .ok (.invokestatic 43, 3) := by decide +kernel
theorem dX0_fewestPayments_32 : decode cX0_fewestPayments 32 = .ok (.aload_n 0, 1) := by decide +kernel
theorem dX0_fewestPayments_33 : decode cX0_fewestPayments 33 = .ok (.iload_n 1, 1) := by decide +kernel
theorem dX0_fewestPayments_34 : decode cX0_fewestPayments 34 = .ok (.invokestatic 48, 3) := by decide +kernel
theorem dX0_fewestPayments_37 : decode cX0_fewestPayments 37 = .ok (.isub, 1) := by decide +kernel
theorem dX0_fewestPayments_38 : decode cX0_fewestPayments 38 = .ok (.ireturn, 1) := by decide +kernel
theorem dX0_mostSets_0 : decode cX0_mostSets 0 = .ok (.iload_n 1, 1) := by decide +kernel
theorem dX0_mostSets_1 : decode cX0_mostSets 1 = .ok (.ifCond .ne 5, 3) := by decide +kernel
theorem dX0_mostSets_4 : decode cX0_mostSets 4 = .ok (.iconst 0, 1) := by decide +kernel
theorem dX0_mostSets_5 : decode cX0_mostSets 5 = .ok (.ireturn, 1) := by decide +kernel
theorem dX0_mostSets_6 : decode cX0_mostSets 6 = .ok (.iconst 1, 1) := by decide +kernel
theorem dX0_mostSets_7 : decode cX0_mostSets 7 = .ok (.istore_n 2, 1) := by decide +kernel
theorem dX0_mostSets_8 : decode cX0_mostSets 8 = .ok (.iload_n 2, 1) := by decide +kernel
theorem dX0_mostSets_9 : decode cX0_mostSets 9 = .ok (.iload_n 1, 1) := by decide +kernel
theorem dX0_mostSets_10 : decode cX0_mostSets 10 = .ok (.if_icmp .ge 27, 3) := by decide +kernel
theorem dX0_mostSets_13 : decode cX0_mostSets 13 = .ok (.iload_n 2, 1) := by decide +kernel
theorem dX0_mostSets_14 : decode cX0_mostSets 14 = .ok (.iload_n 1, 1) := by decide +kernel
theorem dX0_mostSets_15 : decode cX0_mostSets 15 = .ok (.invokestatic 52, 3) := by decide +kernel
theorem dX0_mostSets_18 : decode cX0_mostSets 18 = .ok (.ifCond .eq 13, 3) := by decide +kernel
theorem dX0_mostSets_21 : decode cX0_mostSets 21 = .ok (.aload_n 0, 1) := by decide +kernel
theorem dX0_mostSets_22 : decode cX0_mostSets 22 = .ok (.iload_n 2, 1) := by decide +kernel
theorem dX0_mostSets_23 : decode cX0_mostSets 23 = .ok (.invokestatic 55, 3) := by decide +kernel
theorem dX0_mostSets_26 : decode cX0_mostSets 26 = .ok (.ifCond .ne 5, 3) := by decide +kernel
theorem dX0_mostSets_29 : decode cX0_mostSets 29 = .ok (.iconst 2, 1) := by decide +kernel
theorem dX0_mostSets_30 : decode cX0_mostSets 30 = .ok (.ireturn, 1) := by decide +kernel
theorem dX0_mostSets_31 : decode cX0_mostSets 31 = .ok (.iinc 2 1, 3) := by decide +kernel
theorem dX0_mostSets_34 : decode cX0_mostSets 34 = .ok (.goto (-26), 3) := by decide +kernel
theorem dX0_mostSets_37 : decode cX0_mostSets 37 = .ok (.iconst 1, 1) := by decide +kernel
theorem dX0_mostSets_38 : decode cX0_mostSets 38 = .ok (.ireturn, 1) := by decide +kernel
theorem dX0_sumOf_0 : decode cX0_sumOf 0 = .ok (.iconst 0, 1) := by decide +kernel
theorem dX0_sumOf_1 : decode cX0_sumOf 1 = .ok (.istore_n 2, 1) := by decide +kernel
theorem dX0_sumOf_2 : decode cX0_sumOf 2 = .ok (.iconst 0, 1) := by decide +kernel
theorem dX0_sumOf_3 : decode cX0_sumOf 3 = .ok (.istore_n 3, 1) := by decide +kernel
theorem dX0_sumOf_4 : decode cX0_sumOf 4 = .ok (.iload_n 3, 1) := by decide +kernel
theorem dX0_sumOf_5 : decode cX0_sumOf 5 = .ok (.aload_n 0, 1) := by decide +kernel
theorem dX0_sumOf_6 : decode cX0_sumOf 6 = .ok (.arraylength, 1) := by decide +kernel
theorem dX0_sumOf_7 : decode cX0_sumOf 7 = .ok (.if_icmp .ge 23, 3) := by decide +kernel
theorem dX0_sumOf_10 : decode cX0_sumOf 10 = .ok (.iload_n 1, 1) := by decide +kernel
theorem dX0_sumOf_11 : decode cX0_sumOf 11 = .ok (.iload_n 3, 1) := by decide +kernel
theorem dX0_sumOf_12 : decode cX0_sumOf 12 = .ok (.invokestatic 18, 3) := by decide +kernel
theorem dX0_sumOf_15 : decode cX0_sumOf 15 = .ok (.ifCond .eq 9, 3) := by decide +kernel
theorem dX0_sumOf_18 : decode cX0_sumOf 18 = .ok (.iload_n 2, 1) := by decide +kernel
theorem dX0_sumOf_19 : decode cX0_sumOf 19 = .ok (.aload_n 0, 1) := by decide +kernel
theorem dX0_sumOf_20 : decode cX0_sumOf 20 = .ok (.iload_n 3, 1) := by decide +kernel
theorem dX0_sumOf_21 : decode cX0_sumOf 21 = .ok (.iaload, 1) := by decide +kernel
theorem dX0_sumOf_22 : decode cX0_sumOf 22 = .ok (.iadd, 1) := by decide +kernel
theorem dX0_sumOf_23 : decode cX0_sumOf 23 = .ok (.istore_n 2, 1) := by decide +kernel
theorem dX0_sumOf_24 : decode cX0_sumOf 24 = .ok (.iinc 3 1, 3) := by decide +kernel
theorem dX0_sumOf_27 : decode cX0_sumOf 27 = .ok (.goto (-23), 3) := by decide +kernel
theorem dX0_sumOf_30 : decode cX0_sumOf 30 = .ok (.iload_n 2, 1) := by decide +kernel
theorem dX0_sumOf_31 : decode cX0_sumOf 31 = .ok (.ireturn, 1) := by decide +kernel
theorem dX1_fits_0 : decode cX1_fits 0 = .ok (.iconst 0, 1) := by decide +kernel
theorem dX1_fits_1 : decode cX1_fits 1 = .ok (.istore 5, 2) := by decide +kernel
theorem dX1_fits_3 : decode cX1_fits 3 = .ok (.iload 5, 2) := by decide +kernel
theorem dX1_fits_5 : decode cX1_fits 5 = .ok (.iload 4, 2) := by decide +kernel
theorem dX1_fits_7 : decode cX1_fits 7 = .ok (.if_icmp .ge 48, 3) := by decide +kernel
theorem dX1_fits_10 : decode cX1_fits 10 = .ok (.iload 5, 2) := by decide +kernel
theorem dX1_fits_12 : decode cX1_fits 12 = .ok (.aload_n 3, 1) := by decide +kernel
theorem dX1_fits_13 : decode cX1_fits 13 = .ok (.arraylength, 1) := by decide +kernel
theorem dX1_fits_14 : decode cX1_fits 14 = .ok (.if_icmp .ge 41, 3) := by decide +kernel
theorem dX1_fits_17 : decode cX1_fits 17 = .ok (.aload_n 3, 1) := by decide +kernel
theorem dX1_fits_18 : decode cX1_fits 18 = .ok (.iload 5, 2) := by decide +kernel
theorem dX1_fits_20 : decode cX1_fits 20 = .ok (.iaload, 1) := by decide +kernel
theorem dX1_fits_21 : decode cX1_fits 21 = .ok (.iload_n 2, 1) := by decide +kernel
theorem dX1_fits_22 : decode cX1_fits 22 = .ok (.iand, 1) := by decide +kernel
theorem dX1_fits_23 : decode cX1_fits 23 = .ok (.ifCond .eq 7, 3) := by decide +kernel
theorem dX1_fits_26 : decode cX1_fits 26 = .ok (.iconst 1, 1) := by decide +kernel
theorem dX1_fits_27 : decode cX1_fits 27 = .ok (.goto 4, 3) := by decide +kernel
theorem dX1_fits_30 : decode cX1_fits 30 = .ok (.iconst 0, 1) := by decide +kernel
theorem dX1_fits_31 : decode cX1_fits 31 = .ok (.istore 6, 2) := by decide +kernel
theorem dX1_fits_33 : decode cX1_fits 33 = .ok (.iload_n 0, 1) := by decide +kernel
theorem dX1_fits_34 : decode cX1_fits 34 = .ok (.iload_n 1, 1) := by decide +kernel
theorem dX1_fits_35 : decode cX1_fits 35 = .ok (.aload_n 3, 1) := by decide +kernel
theorem dX1_fits_36 : decode cX1_fits 36 = .ok (.iload 5, 2) := by decide +kernel
theorem dX1_fits_38 : decode cX1_fits 38 = .ok (.iaload, 1) := by decide +kernel
theorem dX1_fits_39 : decode cX1_fits 39 = .ok (.invokestatic 9, 3) := by decide +kernel
theorem dX1_fits_42 : decode cX1_fits 42 = .ok (.iload 6, 2) := by decide +kernel
theorem dX1_fits_44 : decode cX1_fits 44 = .ok (.if_icmp .eq 5, 3) := by decide +kernel
theorem dX1_fits_47 : decode cX1_fits 47 = .ok (.iconst 0, 1) := by decide +kernel
theorem dX1_fits_48 : decode cX1_fits 48 = .ok (.ireturn, 1) := by decide +kernel
theorem dX1_fits_49 : decode cX1_fits 49 = .ok (.iinc 5 1, 3) := by decide +kernel
theorem dX1_fits_52 : decode cX1_fits 52 = .ok (.goto (-49), 3) := by decide +kernel
theorem dX1_fits_55 : decode cX1_fits 55 = .ok (.iconst 1, 1) := by decide +kernel
theorem dX1_fits_56 : decode cX1_fits 56 = .ok (.ireturn, 1) := by decide +kernel
theorem dX1_explains_0 : decode cX1_explains 0 = .ok (.iconst 0, 1) := by decide +kernel
theorem dX1_explains_1 : decode cX1_explains 1 = .ok (.istore_n 3, 1) := by decide +kernel
theorem dX1_explains_2 : decode cX1_explains 2 = .ok (.iload_n 3, 1) := by decide +kernel
theorem dX1_explains_3 : decode cX1_explains 3 = .ok (.aload_n 0, 1) := by decide +kernel
theorem dX1_explains_4 : decode cX1_explains 4 = .ok (.getfield 15, 3) := by decide +kernel
theorem dX1_explains_7 : decode cX1_explains 7 = .ok (.if_icmp .ge 33, 3) := by decide +kernel
theorem dX1_explains_10 : decode cX1_explains 10 = .ok (.iload_n 2, 1) := by decide +kernel
theorem dX1_explains_11 : decode cX1_explains 11 = .ok (.iload_n 3, 1) := by decide +kernel
theorem dX1_explains_12 : decode cX1_explains 12 = .ok (.invokestatic 19, 3) := by decide +kernel
theorem dX1_explains_15 : decode cX1_explains 15 = .ok (.ifCond .eq 19, 3) := by decide +kernel
theorem dX1_explains_18 : decode cX1_explains 18 = .ok (.aload_n 0, 1) := by decide +kernel
theorem dX1_explains_19 : decode cX1_explains 19 = .ok (.iload_n 3, 1) := by decide +kernel
theorem dX1_explains_20 : decode cX1_explains 20 = .ok (.iload_n 1, 1) := by decide +kernel
theorem dX1_explains_21 : decode cX1_explains 21 = .ok (.invokevirtual 23, 3) := by decide +kernel
theorem dX1_explains_24 : decode cX1_explains 24 = .ok (.iload_n 1, 1) := by decide +kernel
theorem dX1_explains_25 : decode cX1_explains 25 = .ok (.iload_n 3, 1) := by decide +kernel
theorem dX1_explains_26 : decode cX1_explains 26 = .ok (.invokestatic 19, 3) := by decide +kernel
theorem dX1_explains_29 : decode cX1_explains 29 = .ok (.if_icmp .eq 5, 3) := by decide +kernel
theorem dX1_explains_32 : decode cX1_explains 32 = .ok (.iconst 0, 1) := by decide +kernel
theorem dX1_explains_33 : decode cX1_explains 33 = .ok (.ireturn, 1) := by decide +kernel
theorem dX1_explains_34 : decode cX1_explains 34 = .ok (.iinc 3 1, 3) := by decide +kernel
theorem dX1_explains_37 : decode cX1_explains 37 = .ok (.goto (-35), 3) := by decide +kernel
theorem dX1_explains_40 : decode cX1_explains 40 = .ok (.iconst 1, 1) := by decide +kernel
theorem dX1_explains_41 : decode cX1_explains 41 = .ok (.ireturn, 1) := by decide +kernel
theorem dX1_parts_0 : decode cX1_parts 0 = .ok (.lconst 1, 1) := by decide +kernel
theorem dX1_parts_1 : decode cX1_parts 1 = .ok (.iconst 2, 1) := by decide +kernel
theorem dX1_parts_2 : decode cX1_parts 2 = .ok (.iload_n 0, 1) := by decide +kernel
theorem dX1_parts_3 : decode cX1_parts 3 = .ok (.imul, 1) := by decide +kernel
theorem dX1_parts_4 : decode cX1_parts 4 = .ok (.lshl, 1) := by decide +kernel
theorem dX1_parts_5 : decode cX1_parts 5 = .ok (.lreturn, 1) := by decide +kernel
theorem dX1_halvings_0 : decode cX1_halvings 0 = .ok (.lload_n 0, 1) := by decide +kernel
theorem dX1_halvings_1 : decode cX1_halvings 1 = .ok (.iload_n 2, 1) := by decide +kernel
theorem dX1_halvings_2 : decode cX1_halvings 2 = .ok (.invokestatic 26, 3) := by decide +kernel
theorem dX1_halvings_5 : decode cX1_halvings 5 = .ok (.lor, 1) := by decide +kernel
theorem dX1_halvings_6 : decode cX1_halvings 6 = .ok (.lstore_n 3, 1) := by decide +kernel
theorem dX1_halvings_7 : decode cX1_halvings 7 = .ok (.iconst 0, 1) := by decide +kernel
theorem dX1_halvings_8 : decode cX1_halvings 8 = .ok (.istore 5, 2) := by decide +kernel
theorem dX1_halvings_10 : decode cX1_halvings 10 = .ok (.iload 5, 2) := by decide +kernel
theorem dX1_halvings_12 : decode cX1_halvings 12 = .ok (.bipush 24, 2) := by decide +kernel
theorem dX1_halvings_14 : decode cX1_halvings 14 = .ok (.if_icmp .ge 20, 3) := by decide +kernel
theorem dX1_halvings_17 : decode cX1_halvings 17 = .ok (.lload_n 3, 1) := by decide +kernel
theorem dX1_halvings_18 : decode cX1_halvings 18 = .ok (.iload 5, 2) := by decide +kernel
theorem dX1_halvings_20 : decode cX1_halvings 20 = .ok (.lshr, 1) := by decide +kernel
theorem dX1_halvings_21 : decode cX1_halvings 21 = .ok (.lconst 1, 1) := by decide +kernel
theorem dX1_halvings_22 : decode cX1_halvings 22 = .ok (.land, 1) := by decide +kernel
theorem dX1_halvings_23 : decode cX1_halvings 23 = .ok (.lconst 0, 1) := by decide +kernel
theorem dX1_halvings_24 : decode cX1_halvings 24 = .ok (.lcmp, 1) := by decide +kernel
theorem dX1_halvings_25 : decode cX1_halvings 25 = .ok (.ifCond .ne 9, 3) := by decide +kernel
theorem dX1_halvings_28 : decode cX1_halvings 28 = .ok (.iinc 5 1, 3) := by decide +kernel
theorem dX1_halvings_31 : decode cX1_halvings 31 = .ok (.goto (-21), 3) := by decide +kernel
theorem dX1_halvings_34 : decode cX1_halvings 34 = .ok (.iload 5, 2) := by decide +kernel
theorem dX1_halvings_36 : decode cX1_halvings 36 = .ok (.ireturn, 1) := by decide +kernel
theorem dX1_mean_0 : decode cX1_mean 0 = .ok (.iload_n 1, 1) := by decide +kernel
theorem dX1_mean_1 : decode cX1_mean 1 = .ok (.aload_n 0, 1) := by decide +kernel
theorem dX1_mean_2 : decode cX1_mean 2 = .ok (.getfield 15, 3) := by decide +kernel
theorem dX1_mean_5 : decode cX1_mean 5 = .ok (.if_icmp .lt 6, 3) := by decide +kernel
theorem dX1_mean_8 : decode cX1_mean 8 = .ok (.iload_n 3, 1) := by decide +kernel
theorem dX1_mean_9 : decode cX1_mean 9 = .ok (.i2l, 1) := by decide +kernel
theorem dX1_mean_10 : decode cX1_mean 10 = .ok (.lreturn, 1) := by decide +kernel
theorem dX1_mean_11 : decode cX1_mean 11 = .ok (.aload_n 0, 1) := by decide +kernel
theorem dX1_mean_12 : decode cX1_mean 12 = .ok (.iload_n 1, 1) := by decide +kernel
theorem dX1_mean_13 : decode cX1_mean 13 = .ok (.iload_n 2, 1) := by decide +kernel
theorem dX1_mean_14 : decode cX1_mean 14 = .ok (.invokevirtual 23, 3) := by decide +kernel
theorem dX1_mean_17 : decode cX1_mean 17 = .ok (.ifCond .eq 12, 3) := by decide +kernel
theorem dX1_mean_20 : decode cX1_mean 20 = .ok (.aload_n 0, 1) := by decide +kernel
theorem dX1_mean_21 : decode cX1_mean 21 = .ok (.getfield 32, 3) := by decide +kernel
theorem dX1_mean_24 : decode cX1_mean 24 = .ok (.iload_n 1, 1) := by decide +kernel
theorem dX1_mean_25 : decode cX1_mean 25 = .ok (.iaload, 1) := by decide +kernel
theorem dX1_mean_26 : decode cX1_mean 26 = .ok (.goto 4, 3) := by decide +kernel
theorem dX1_mean_29 : decode cX1_mean 29 = .ok (.iconst 0, 1) := by decide +kernel
theorem dX1_mean_30 : decode cX1_mean 30 = .ok (.istore 4, 2) := by decide +kernel
theorem dX1_mean_32 : decode cX1_mean 32 = .ok (.lconst 0, 1) := by decide +kernel
theorem dX1_mean_33 : decode cX1_mean 33 = .ok (.lstore 5, 2) := by decide +kernel
theorem dX1_mean_35 : decode cX1_mean 35 = .ok (.iload 4, 2) := by decide +kernel
theorem dX1_mean_37 : decode cX1_mean 37 = .ok (.ifCond .le 24, 3) := by decide +kernel
theorem dX1_mean_40 : decode cX1_mean 40 = .ok (.aload_n 0, 1) := by decide +kernel
theorem dX1_mean_41 : decode cX1_mean 41 = .ok (.iload_n 1, 1) := by decide +kernel
theorem dX1_mean_42 : decode cX1_mean 42 = .ok (.iconst 1, 1) := by decide +kernel
theorem dX1_mean_43 : decode cX1_mean 43 = .ok (.iadd, 1) := by decide +kernel
theorem dX1_mean_44 : decode cX1_mean 44 = .ok (.iload_n 2, 1) := by decide +kernel
theorem dX1_mean_45 : decode cX1_mean 45 = .ok (.iconst 1, 1) := by decide +kernel
theorem dX1_mean_46 : decode cX1_mean 46 = .ok (.iload_n 1, 1) := by decide +kernel
theorem dX1_mean_47 : decode cX1_mean 47 = .ok (.ishl, 1) := by decide +kernel
theorem dX1_mean_48 : decode cX1_mean 48 = .ok (.ior, 1) := by decide +kernel
theorem dX1_mean_49 : decode cX1_mean 49 = .ok (.iload_n 3, 1) := by decide +kernel
theorem dX1_mean_50 : decode cX1_mean 50 = .ok (.aload_n 0, 1) := by decide +kernel
theorem dX1_mean_51 : decode cX1_mean 51 = .ok (.iload_n 1, 1) := by decide +kernel
theorem dX1_mean_52 : decode cX1_mean 52 = .ok (.invokevirtual 36, 3) := by decide +kernel
theorem dX1_mean_55 : decode cX1_mean 55 = .ok (.iadd, 1) := by decide +kernel
theorem dX1_mean_56 : decode cX1_mean 56 = .ok (.invokestatic 40, 3) := by decide +kernel
theorem dX1_mean_59 : decode cX1_mean 59 = .ok (.lstore 5, 2) := by decide +kernel
theorem dX1_mean_61 : decode cX1_mean 61 = .ok (.lconst 0, 1) := by decide +kernel
theorem dX1_mean_62 : decode cX1_mean 62 = .ok (.lstore 7, 2) := by decide +kernel
theorem dX1_mean_64 : decode cX1_mean 64 = .ok (.iload 4, 2) := by decide +kernel
theorem dX1_mean_66 : decode cX1_mean 66 = .ok (.iconst 4, 1) := by decide +kernel
theorem dX1_mean_67 : decode cX1_mean 67 = .ok (.if_icmp .ge 14, 3) := by decide +kernel
theorem dX1_mean_70 : decode cX1_mean 70 = .ok (.aload_n 0, 1) := by decide +kernel
theorem dX1_mean_71 : decode cX1_mean 71 = .ok (.iload_n 1, 1) := by decide +kernel
theorem dX1_mean_72 : decode cX1_mean 72 = .ok (.iconst 1, 1) := by decide +kernel
theorem dX1_mean_73 : decode cX1_mean 73 = .ok (.iadd, 1) := by decide +kernel
theorem dX1_mean_74 : decode cX1_mean 74 = .ok (.iload_n 2, 1) := by decide +kernel
theorem dX1_mean_75 : decode cX1_mean 75 = .ok (.iload_n 3, 1) := by decide +kernel
theorem dX1_mean_76 : decode cX1_mean 76 = .ok (.invokestatic 40, 3) := by decide +kernel
theorem dX1_mean_79 : decode cX1_mean 79 = .ok (.lstore 7, 2) := by decide +kernel
theorem dX1_mean_81 : decode cX1_mean 81 = .ok (.iload 4, 2) := by decide +kernel
theorem dX1_mean_83 : decode cX1_mean 83 = .ok (.i2l, 1) := by decide +kernel
theorem dX1_mean_84 : decode cX1_mean 84 = .ok (.lload 5, 2) := by decide +kernel
theorem dX1_mean_86 : decode cX1_mean 86 = .ok (.lmul, 1) := by decide +kernel
theorem dX1_mean_87 : decode cX1_mean 87 = .ok (.iconst 4, 1) := by decide +kernel
theorem dX1_mean_88 : decode cX1_mean 88 = .ok (.iload 4, 2) := by decide +kernel
theorem dX1_mean_90 : decode cX1_mean 90 = .ok (.isub, 1) := by decide +kernel
theorem dX1_mean_91 : decode cX1_mean 91 = .ok (.i2l, 1) := by decide +kernel
theorem dX1_mean_92 : decode cX1_mean 92 = .ok (.lload 7, 2) := by decide +kernel
theorem dX1_mean_94 : decode cX1_mean 94 = .ok (.lmul, 1) := by decide +kernel
theorem dX1_mean_95 : decode cX1_mean 95 = .ok (.ladd, 1) := by decide +kernel
theorem dX1_mean_96 : decode cX1_mean 96 = .ok (.lreturn, 1) := by decide +kernel
theorem dX4_most_0 : decode cX4_most 0 = .ok (.aload_n 0, 1) := by decide +kernel
theorem dX4_most_1 : decode cX4_most 1 = .ok (.iconst 0, 1) := by decide +kernel
theorem dX4_most_2 : decode cX4_most 2 = .ok (.invokevirtual 9, 3) := by decide +kernel
theorem dX4_most_5 : decode cX4_most 5 = .ok (.istore_n 3, 1) := by decide +kernel
theorem dX4_most_6 : decode cX4_most 6 = .ok (.iconst 0, 1) := by decide +kernel
theorem dX4_most_7 : decode cX4_most 7 = .ok (.istore 4, 2) := by decide +kernel
theorem dX4_most_9 : decode cX4_most 9 = .ok (.aload_n 0, 1) := by decide +kernel
theorem dX4_most_10 : decode cX4_most 10 = .ok (.iconst 0, 1) := by decide +kernel
theorem dX4_most_11 : decode cX4_most 11 = .ok (.invokevirtual 15, 3) := by decide +kernel
theorem dX4_most_14 : decode cX4_most 14 = .ok (.istore 5, 2) := by decide +kernel
theorem dX4_most_16 : decode cX4_most 16 = .ok (.iconst 1, 1) := by decide +kernel
theorem dX4_most_17 : decode cX4_most 17 = .ok (.istore 6, 2) := by decide +kernel
theorem dX4_most_19 : decode cX4_most 19 = .ok (.iload 6, 2) := by decide +kernel
theorem dX4_most_21 : decode cX4_most 21 = .ok (.iload_n 3, 1) := by decide +kernel
theorem dX4_most_22 : decode cX4_most 22 = .ok (.if_icmp .gt 91, 3) := by decide +kernel
theorem dX4_most_25 : decode cX4_most 25 = .ok (.aload_n 0, 1) := by decide +kernel
theorem dX4_most_26 : decode cX4_most 26 = .ok (.iload 6, 2) := by decide +kernel
theorem dX4_most_28 : decode cX4_most 28 = .ok (.iload_n 3, 1) := by decide +kernel
theorem dX4_most_29 : decode cX4_most 29 = .ok (.iload_n 1, 1) := by decide +kernel
theorem dX4_most_30 : decode cX4_most 30 = .ok (.invokestatic 18, 3) := by decide +kernel
theorem dX4_most_33 : decode cX4_most 33 = .ok (.ifCond .ne 6, 3) := by decide +kernel
theorem dX4_most_36 : decode cX4_most 36 = .ok (.goto 71, 3) := by decide +kernel
theorem dX4_most_39 : decode cX4_most 39 = .ok (.aload_n 0, 1) := by decide +kernel
theorem dX4_most_40 : decode cX4_most 40 = .ok (.iload 6, 2) := by decide +kernel
theorem dX4_most_42 : decode cX4_most 42 = .ok (.invokevirtual 15, 3) := by decide +kernel
theorem dX4_most_45 : decode cX4_most 45 = .ok (.istore 7, 2) := by decide +kernel
theorem dX4_most_47 : decode cX4_most 47 = .ok (.iload 6, 2) := by decide +kernel
theorem dX4_most_49 : decode cX4_most 49 = .ok (.invokestatic 24, 3) := by decide +kernel
theorem dX4_most_52 : decode cX4_most 52 = .ok (.iload 4, 2) := by decide +kernel
theorem dX4_most_54 : decode cX4_most 54 = .ok (.invokestatic 24, 3) := by decide +kernel
theorem dX4_most_57 : decode cX4_most 57 = .ok (.if_icmp .ge 7, 3) := by decide +kernel
theorem dX4_most_60 : decode cX4_most 60 = .ok (.iconst 1, 1) := by decide +kernel
theorem dX4_most_61 : decode cX4_most 61 = .ok (.goto 4, 3) := by decide +kernel
theorem dX4_most_64 : decode cX4_most 64 = .ok (.iconst 0, 1) := by decide +kernel
theorem dX4_most_65 : decode cX4_most 65 = .ok (.istore 8, 2) := by decide +kernel
theorem dX4_most_67 : decode cX4_most 67 = .ok (.iload 7, 2) := by decide +kernel
theorem dX4_most_69 : decode cX4_most 69 = .ok (.iload 5, 2) := by decide +kernel
theorem dX4_most_71 : decode cX4_most 71 = .ok (.if_icmp .gt 15, 3) := by decide +kernel
theorem dX4_most_74 : decode cX4_most 74 = .ok (.iload 7, 2) := by decide +kernel
theorem dX4_most_76 : decode cX4_most 76 = .ok (.iload 5, 2) := by decide +kernel
theorem dX4_most_78 : decode cX4_most 78 = .ok (.if_icmp .ne 29, 3) := by decide +kernel
theorem dX4_most_81 : decode cX4_most 81 = .ok (.iload 8, 2) := by decide +kernel
theorem dX4_most_83 : decode cX4_most 83 = .ok (.ifCond .eq 24, 3) := by decide +kernel
theorem dX4_most_86 : decode cX4_most 86 = .ok (.iload_n 2, 1) := by decide +kernel
theorem dX4_most_87 : decode cX4_most 87 = .ok (.ifCond .eq 12, 3) := by decide +kernel
theorem dX4_most_90 : decode cX4_most 90 = .ok (.aload_n 0, 1) := by decide +kernel
theorem dX4_most_91 : decode cX4_most 91 = .ok (.iload 6, 2) := by decide +kernel
theorem dX4_most_93 : decode cX4_most 93 = .ok (.invokestatic 29, 3) := by decide +kernel
theorem dX4_most_96 : decode cX4_most 96 = .ok (.ifCond .eq 11, 3) := by decide +kernel
theorem dX4_most_99 : decode cX4_most 99 = .ok (.iload 6, 2) := by decide +kernel
theorem dX4_most_101 : decode cX4_most 101 = .ok (.istore 4, 2) := by decide +kernel
theorem dX4_most_103 : decode cX4_most 103 = .ok (.iload 7, 2) := by decide +kernel
theorem dX4_most_105 : decode cX4_most 105 = .ok (.istore 5, 2) := by decide +kernel
theorem dX4_most_107 : decode cX4_most 107 = .ok (.iinc 6 1, 3) := by decide +kernel
theorem dX4_most_110 : decode cX4_most 110 = .ok (.goto (-91), 3) := by decide +kernel
theorem dX4_most_113 : decode cX4_most 113 = .ok (.iload 4, 2) := by decide +kernel
theorem dX4_most_115 : decode cX4_most 115 = .ok (.ireturn, 1) := by decide +kernel
theorem dX4_fewest_0 : decode cX4_fewest 0 = .ok (.aload_n 0, 1) := by decide +kernel
theorem dX4_fewest_1 : decode cX4_fewest 1 = .ok (.iconst 0, 1) := by decide +kernel
theorem dX4_fewest_2 : decode cX4_fewest 2 = .ok (.invokevirtual 9, 3) := by decide +kernel
theorem dX4_fewest_5 : decode cX4_fewest 5 = .ok (.istore_n 3, 1) := by decide +kernel
theorem dX4_fewest_6 : decode cX4_fewest 6 = .ok (.bipush (-4), 2) := by decide +kernel
theorem dX4_fewest_8 : decode cX4_fewest 8 = .ok (.istore 4, 2) := by decide +kernel
theorem dX4_fewest_10 : decode cX4_fewest 10 = .ok (.iconst 5, 1) := by decide +kernel
theorem dX4_fewest_11 : decode cX4_fewest 11 = .ok (.istore 5, 2) := by decide +kernel
theorem dX4_fewest_13 : decode cX4_fewest 13 = .ok (.iconst 0, 1) := by decide +kernel
theorem dX4_fewest_14 : decode cX4_fewest 14 = .ok (.istore 6, 2) := by decide +kernel
theorem dX4_fewest_16 : decode cX4_fewest 16 = .ok (.iload 6, 2) := by decide +kernel
theorem dX4_fewest_18 : decode cX4_fewest 18 = .ok (.iload_n 3, 1) := by decide +kernel
theorem dX4_fewest_19 : decode cX4_fewest 19 = .ok (.if_icmp .gt 68, 3) := by decide +kernel
theorem dX4_fewest_22 : decode cX4_fewest 22 = .ok (.iload 6, 2) := by decide +kernel
theorem dX4_fewest_24 : decode cX4_fewest 24 = .ok (.invokestatic 24, 3) := by decide +kernel
theorem dX4_fewest_27 : decode cX4_fewest 27 = .ok (.iload 5, 2) := by decide +kernel
theorem dX4_fewest_29 : decode cX4_fewest 29 = .ok (.if_icmp .ge 52, 3) := by decide +kernel
theorem dX4_fewest_32 : decode cX4_fewest 32 = .ok (.aload_n 0, 1) := by decide +kernel
theorem dX4_fewest_33 : decode cX4_fewest 33 = .ok (.iload 6, 2) := by decide +kernel
theorem dX4_fewest_35 : decode cX4_fewest 35 = .ok (.iload_n 3, 1) := by decide +kernel
theorem dX4_fewest_36 : decode cX4_fewest 36 = .ok (.iconst 4, 1) := by decide +kernel
theorem dX4_fewest_37 : decode cX4_fewest 37 = .ok (.invokestatic 18, 3) := by decide +kernel
theorem dX4_fewest_40 : decode cX4_fewest 40 = .ok (.ifCond .ne 6, 3) := by decide +kernel
theorem dX4_fewest_43 : decode cX4_fewest 43 = .ok (.goto 38, 3) := by decide +kernel
theorem dX4_fewest_46 : decode cX4_fewest 46 = .ok (.aload_n 0, 1) := by decide +kernel
theorem dX4_fewest_47 : decode cX4_fewest 47 = .ok (.iload 6, 2) := by decide +kernel
theorem dX4_fewest_49 : decode cX4_fewest 49 = .ok (.invokevirtual 9, 3) := by decide +kernel
theorem dX4_fewest_52 : decode cX4_fewest 52 = .ok (.istore 7, 2) := by decide +kernel
theorem dX4_fewest_54 : decode cX4_fewest 54 = .ok (.iload_n 1, 1) := by decide +kernel
theorem dX4_fewest_55 : decode cX4_fewest 55 = .ok (.iload 7, 2) := by decide +kernel
theorem dX4_fewest_57 : decode cX4_fewest 57 = .ok (.invokestatic 33, 3) := by decide +kernel
theorem dX4_fewest_60 : decode cX4_fewest 60 = .ok (.ifCond .eq 21, 3) := by decide +kernel
theorem dX4_fewest_63 : decode cX4_fewest 63 = .ok (.iload_n 2, 1) := by decide +kernel
theorem dX4_fewest_64 : decode cX4_fewest 64 = .ok (.iload 7, 2) := by decide +kernel
theorem dX4_fewest_66 : decode cX4_fewest 66 = .ok (.iand, 1) := by decide +kernel
theorem dX4_fewest_67 : decode cX4_fewest 67 = .ok (.ifCond .ne 14, 3) := by decide +kernel
theorem dX4_fewest_70 : decode cX4_fewest 70 = .ok (.iload 6, 2) := by decide +kernel
theorem dX4_fewest_72 : decode cX4_fewest 72 = .ok (.istore 4, 2) := by decide +kernel
theorem dX4_fewest_74 : decode cX4_fewest 74 = .ok (.iload 6, 2) := by decide +kernel
theorem dX4_fewest_76 : decode cX4_fewest 76 = .ok (.invokestatic 24, 3) := by decide +kernel
theorem dX4_fewest_79 : decode cX4_fewest 79 = .ok (.istore 5, 2) := by decide +kernel
theorem dX4_fewest_81 : decode cX4_fewest 81 = .ok (.iinc 6 1, 3) := by decide +kernel
theorem dX4_fewest_84 : decode cX4_fewest 84 = .ok (.goto (-68), 3) := by decide +kernel
theorem dX4_fewest_87 : decode cX4_fewest 87 = .ok (.iload 4, 2) := by decide +kernel
theorem dX4_fewest_89 : decode cX4_fewest 89 = .ok (.ireturn, 1) := by decide +kernel
theorem dX4_isWalk_0 : decode cX4_isWalk 0 = .ok (.iload_n 1, 1) := by decide +kernel
theorem dX4_isWalk_1 : decode cX4_isWalk 1 = .ok (.iload_n 2, 1) := by decide +kernel
theorem dX4_isWalk_2 : decode cX4_isWalk 2 = .ok (.invokestatic 33, 3) := by decide +kernel
theorem dX4_isWalk_5 : decode cX4_isWalk 5 = .ok (.ifCond .eq 11, 3) := by decide +kernel
theorem dX4_isWalk_8 : decode cX4_isWalk 8 = .ok (.iload_n 1, 1) := by decide +kernel
theorem dX4_isWalk_9 : decode cX4_isWalk 9 = .ok (.invokestatic 24, 3) := by decide +kernel
theorem dX4_isWalk_12 : decode cX4_isWalk 12 = .ok (.iload_n 3, 1) := by decide +kernel
theorem dX4_isWalk_13 : decode cX4_isWalk 13 = .ok (.if_icmp .le 5, 3) := by decide +kernel
theorem dX4_isWalk_16 : decode cX4_isWalk 16 = .ok (.iconst 0, 1) := by decide +kernel
theorem dX4_isWalk_17 : decode cX4_isWalk 17 = .ok (.ireturn, 1) := by decide +kernel
theorem dX4_isWalk_18 : decode cX4_isWalk 18 = .ok (.iconst 0, 1) := by decide +kernel
theorem dX4_isWalk_19 : decode cX4_isWalk 19 = .ok (.istore 4, 2) := by decide +kernel
theorem dX4_isWalk_21 : decode cX4_isWalk 21 = .ok (.iconst 0, 1) := by decide +kernel
theorem dX4_isWalk_22 : decode cX4_isWalk 22 = .ok (.istore 5, 2) := by decide +kernel
theorem dX4_isWalk_24 : decode cX4_isWalk 24 = .ok (.iload 5, 2) := by decide +kernel
theorem dX4_isWalk_26 : decode cX4_isWalk 26 = .ok (.aload_n 0, 1) := by decide +kernel
theorem dX4_isWalk_27 : decode cX4_isWalk 27 = .ok (.getfield 37, 3) := by decide +kernel
theorem dX4_isWalk_30 : decode cX4_isWalk 30 = .ok (.if_icmp .ge 46, 3) := by decide +kernel
theorem dX4_isWalk_33 : decode cX4_isWalk 33 = .ok (.iload_n 1, 1) := by decide +kernel
theorem dX4_isWalk_34 : decode cX4_isWalk 34 = .ok (.iload 5, 2) := by decide +kernel
theorem dX4_isWalk_36 : decode cX4_isWalk 36 = .ok (.invokestatic 41, 3) := by decide +kernel
theorem dX4_isWalk_39 : decode cX4_isWalk 39 = .ok (.ifCond .eq 31, 3) := by decide +kernel
theorem dX4_isWalk_42 : decode cX4_isWalk 42 = .ok (.iconst 1, 1) := by decide +kernel
theorem dX4_isWalk_43 : decode cX4_isWalk 43 = .ok (.aload_n 0, 1) := by decide +kernel
theorem dX4_isWalk_44 : decode cX4_isWalk 44 = .ok (.getfield 44, 3) := by decide +kernel
theorem dX4_isWalk_47 : decode cX4_isWalk 47 = .ok (.iload 5, 2) := by decide +kernel
theorem dX4_isWalk_49 : decode cX4_isWalk 49 = .ok (.iaload, 1) := by decide +kernel
theorem dX4_isWalk_50 : decode cX4_isWalk 50 = .ok (.ishl, 1) := by decide +kernel
theorem dX4_isWalk_51 : decode cX4_isWalk 51 = .ok (.istore 6, 2) := by decide +kernel
theorem dX4_isWalk_53 : decode cX4_isWalk 53 = .ok (.iload 4, 2) := by decide +kernel
theorem dX4_isWalk_55 : decode cX4_isWalk 55 = .ok (.iload 6, 2) := by decide +kernel
theorem dX4_isWalk_57 : decode cX4_isWalk 57 = .ok (.iand, 1) := by decide +kernel
theorem dX4_isWalk_58 : decode cX4_isWalk 58 = .ok (.ifCond .eq 5, 3) := by decide +kernel
theorem dX4_isWalk_61 : decode cX4_isWalk 61 = .ok (.iconst 0, 1) := by decide +kernel
theorem dX4_isWalk_62 : decode cX4_isWalk 62 = .ok (.ireturn, 1) := by decide +kernel
theorem dX4_isWalk_63 : decode cX4_isWalk 63 = .ok (.iload 4, 2) := by decide +kernel
theorem dX4_isWalk_65 : decode cX4_isWalk 65 = .ok (.iload 6, 2) := by decide +kernel
theorem dX4_isWalk_67 : decode cX4_isWalk 67 = .ok (.ior, 1) := by decide +kernel
theorem dX4_isWalk_68 : decode cX4_isWalk 68 = .ok (.istore 4, 2) := by decide +kernel
theorem dX4_isWalk_70 : decode cX4_isWalk 70 = .ok (.iinc 5 1, 3) := by decide +kernel
theorem dX4_isWalk_73 : decode cX4_isWalk 73 = .ok (.goto (-49), 3) := by decide +kernel
theorem dX4_isWalk_76 : decode cX4_isWalk 76 = .ok (.iconst 1, 1) := by decide +kernel
theorem dX4_isWalk_77 : decode cX4_isWalk 77 = .ok (.ireturn, 1) := by decide +kernel
theorem dX4_isFair_0 : decode cX4_isFair 0 = .ok (.iconst 0, 1) := by decide +kernel
theorem dX4_isFair_1 : decode cX4_isFair 1 = .ok (.istore_n 2, 1) := by decide +kernel
theorem dX4_isFair_2 : decode cX4_isFair 2 = .ok (.iload_n 2, 1) := by decide +kernel
theorem dX4_isFair_3 : decode cX4_isFair 3 = .ok (.aload_n 0, 1) := by decide +kernel
theorem dX4_isFair_4 : decode cX4_isFair 4 = .ok (.getfield 48, 3) := by decide +kernel
theorem dX4_isFair_7 : decode cX4_isFair 7 = .ok (.if_icmp .ge 26, 3) := by decide +kernel
theorem dX4_isFair_10 : decode cX4_isFair 10 = .ok (.aload_n 0, 1) := by decide +kernel
theorem dX4_isFair_11 : decode cX4_isFair 11 = .ok (.iload_n 2, 1) := by decide +kernel
theorem dX4_isFair_12 : decode cX4_isFair 12 = .ok (.iload_n 1, 1) := by decide +kernel
theorem dX4_isFair_13 : decode cX4_isFair 13 = .ok (.invokevirtual 51, 3) := by decide +kernel
theorem dX4_isFair_16 : decode cX4_isFair 16 = .ok (.aload_n 0, 1) := by decide +kernel
theorem dX4_isFair_17 : decode cX4_isFair 17 = .ok (.iload_n 2, 1) := by decide +kernel
theorem dX4_isFair_18 : decode cX4_isFair 18 = .ok (.iconst 0, 1) := by decide +kernel
theorem dX4_isFair_19 : decode cX4_isFair 19 = .ok (.invokevirtual 51, 3) := by decide +kernel
theorem dX4_isFair_22 : decode cX4_isFair 22 = .ok (.if_icmp .ge 5, 3) := by decide +kernel
theorem dX4_isFair_25 : decode cX4_isFair 25 = .ok (.iconst 0, 1) := by decide +kernel
theorem dX4_isFair_26 : decode cX4_isFair 26 = .ok (.ireturn, 1) := by decide +kernel
theorem dX4_isFair_27 : decode cX4_isFair 27 = .ok (.iinc 2 1, 3) := by decide +kernel
theorem dX4_isFair_30 : decode cX4_isFair 30 = .ok (.goto (-28), 3) := by decide +kernel
theorem dX4_isFair_33 : decode cX4_isFair 33 = .ok (.iconst 1, 1) := by decide +kernel
theorem dX4_isFair_34 : decode cX4_isFair 34 = .ok (.ireturn, 1) := by decide +kernel
theorem dX4_selfish_0 : decode cX4_selfish 0 = .ok (.aload_n 0, 1) := by decide +kernel
theorem dX4_selfish_1 : decode cX4_selfish 1 = .ok (.bipush 11, 2) := by decide +kernel
theorem dX4_selfish_3 : decode cX4_selfish 3 = .ok (.iconst 0, 1) := by decide +kernel
theorem dX4_selfish_4 : decode cX4_selfish 4 = .ok (.aload_n 0, 1) := by decide +kernel
theorem dX4_selfish_5 : decode cX4_selfish 5 = .ok (.iconst 0, 1) := by decide +kernel
theorem dX4_selfish_6 : decode cX4_selfish 6 = .ok (.invokevirtual 9, 3) := by decide +kernel
theorem dX4_selfish_9 : decode cX4_selfish 9 = .ok (.iload_n 1, 1) := by decide +kernel
theorem dX4_selfish_10 : decode cX4_selfish 10 = .ok (.invokestatic 55, 3) := by decide +kernel
theorem dX4_selfish_13 : decode cX4_selfish 13 = .ok (.ireturn, 1) := by decide +kernel
theorem dX4_play_0 : decode cX4_play 0 = .ok (.iload_n 1, 1) := by decide +kernel
theorem dX4_play_1 : decode cX4_play 1 = .ok (.ifCond .ge 5, 3) := by decide +kernel
theorem dX4_play_4 : decode cX4_play 4 = .ok (.iload_n 2, 1) := by decide +kernel
theorem dX4_play_5 : decode cX4_play 5 = .ok (.ireturn, 1) := by decide +kernel
theorem dX4_play_6 : decode cX4_play 6 = .ok (.aload_n 0, 1) := by decide +kernel
theorem dX4_play_7 : decode cX4_play 7 = .ok (.iload_n 1, 1) := by decide +kernel
theorem dX4_play_8 : decode cX4_play 8 = .ok (.iconst 1, 1) := by decide +kernel
theorem dX4_play_9 : decode cX4_play 9 = .ok (.isub, 1) := by decide +kernel
theorem dX4_play_10 : decode cX4_play 10 = .ok (.iload_n 2, 1) := by decide +kernel
theorem dX4_play_11 : decode cX4_play 11 = .ok (.iload_n 3, 1) := by decide +kernel
theorem dX4_play_12 : decode cX4_play 12 = .ok (.iload 4, 2) := by decide +kernel
theorem dX4_play_14 : decode cX4_play 14 = .ok (.invokestatic 55, 3) := by decide +kernel
theorem dX4_play_17 : decode cX4_play 17 = .ok (.istore 5, 2) := by decide +kernel
theorem dX4_play_19 : decode cX4_play 19 = .ok (.aload_n 0, 1) := by decide +kernel
theorem dX4_play_20 : decode cX4_play 20 = .ok (.iload_n 1, 1) := by decide +kernel
theorem dX4_play_21 : decode cX4_play 21 = .ok (.invokestatic 59, 3) := by decide +kernel
theorem dX4_play_24 : decode cX4_play 24 = .ok (.istore 6, 2) := by decide +kernel
theorem dX4_play_26 : decode cX4_play 26 = .ok (.iload_n 3, 1) := by decide +kernel
theorem dX4_play_27 : decode cX4_play 27 = .ok (.aload_n 0, 1) := by decide +kernel
theorem dX4_play_28 : decode cX4_play 28 = .ok (.iload_n 1, 1) := by decide +kernel
theorem dX4_play_29 : decode cX4_play 29 = .ok (.invokevirtual 63, 3) := by decide +kernel
theorem dX4_play_32 : decode cX4_play 32 = .ok (.iand, 1) := by decide +kernel
theorem dX4_play_33 : decode cX4_play 33 = .ok (.istore 7, 2) := by decide +kernel
theorem dX4_play_35 : decode cX4_play 35 = .ok (.iload 6, 2) := by decide +kernel
theorem dX4_play_37 : decode cX4_play 37 = .ok (.iload 4, 2) := by decide +kernel
theorem dX4_play_39 : decode cX4_play 39 = .ok (.if_icmp .eq 8, 3) := by decide +kernel
theorem dX4_play_42 : decode cX4_play 42 = .ok (.iload 7, 2) := by decide +kernel
theorem dX4_play_44 : decode cX4_play 44 = .ok (.ifCond .ne 6, 3) := by decide +kernel
theorem dX4_play_47 : decode cX4_play 47 = .ok (.iload 5, 2) := by decide +kernel
theorem dX4_play_49 : decode cX4_play 49 = .ok (.ireturn, 1) := by decide +kernel
theorem dX4_play_50 : decode cX4_play 50 = .ok (.aload_n 0, 1) := by decide +kernel
theorem dX4_play_51 : decode cX4_play 51 = .ok (.iload 6, 2) := by decide +kernel
theorem dX4_play_53 : decode cX4_play 53 = .ok (.iload 5, 2) := by decide +kernel
theorem dX4_play_55 : decode cX4_play 55 = .ok (.invokevirtual 51, 3) := by decide +kernel
theorem dX4_play_58 : decode cX4_play 58 = .ok (.istore 8, 2) := by decide +kernel
theorem dX4_play_60 : decode cX4_play 60 = .ok (.iconst 0, 1) := by decide +kernel
theorem dX4_play_61 : decode cX4_play 61 = .ok (.istore 9, 2) := by decide +kernel
theorem dX4_play_63 : decode cX4_play 63 = .ok (.iload 9, 2) := by decide +kernel
theorem dX4_play_65 : decode cX4_play 65 = .ok (.aload_n 0, 1) := by decide +kernel
theorem dX4_play_66 : decode cX4_play 66 = .ok (.getfield 37, 3) := by decide +kernel
theorem dX4_play_69 : decode cX4_play 69 = .ok (.if_icmp .ge 62, 3) := by decide +kernel
theorem dX4_play_72 : decode cX4_play 72 = .ok (.iload 7, 2) := by decide +kernel
theorem dX4_play_74 : decode cX4_play 74 = .ok (.iload 9, 2) := by decide +kernel
theorem dX4_play_76 : decode cX4_play 76 = .ok (.invokestatic 41, 3) := by decide +kernel
theorem dX4_play_79 : decode cX4_play 79 = .ok (.ifCond .eq 46, 3) := by decide +kernel
theorem dX4_play_82 : decode cX4_play 82 = .ok (.aload_n 0, 1) := by decide +kernel
theorem dX4_play_83 : decode cX4_play 83 = .ok (.iload_n 1, 1) := by decide +kernel
theorem dX4_play_84 : decode cX4_play 84 = .ok (.iconst 1, 1) := by decide +kernel
theorem dX4_play_85 : decode cX4_play 85 = .ok (.isub, 1) := by decide +kernel
theorem dX4_play_86 : decode cX4_play 86 = .ok (.iload_n 2, 1) := by decide +kernel
theorem dX4_play_87 : decode cX4_play 87 = .ok (.iconst 1, 1) := by decide +kernel
theorem dX4_play_88 : decode cX4_play 88 = .ok (.iload 9, 2) := by decide +kernel
theorem dX4_play_90 : decode cX4_play 90 = .ok (.ishl, 1) := by decide +kernel
theorem dX4_play_91 : decode cX4_play 91 = .ok (.ior, 1) := by decide +kernel
theorem dX4_play_92 : decode cX4_play 92 = .ok (.iload_n 3, 1) := by decide +kernel
theorem dX4_play_93 : decode cX4_play 93 = .ok (.iload 4, 2) := by decide +kernel
theorem dX4_play_95 : decode cX4_play 95 = .ok (.invokestatic 55, 3) := by decide +kernel
theorem dX4_play_98 : decode cX4_play 98 = .ok (.istore 10, 2) := by decide +kernel
theorem dX4_play_100 : decode cX4_play 100 = .ok (.aload_n 0, 1) := by decide +kernel
theorem dX4_play_101 : decode cX4_play 101 = .ok (.iload 6, 2) := by decide +kernel
theorem dX4_play_103 : decode cX4_play 103 = .ok (.iload 10, 2) := by decide +kernel
theorem dX4_play_105 : decode cX4_play 105 = .ok (.invokevirtual 51, 3) := by decide +kernel
theorem dX4_play_108 : decode cX4_play 108 = .ok (.istore 11, 2) := by decide +kernel
theorem dX4_play_110 : decode cX4_play 110 = .ok (.iload 11, 2) := by decide +kernel
theorem dX4_play_112 : decode cX4_play 112 = .ok (.iload 8, 2) := by decide +kernel
theorem dX4_play_114 : decode cX4_play 114 = .ok (.if_icmp .le 11, 3) := by decide +kernel
theorem dX4_play_117 : decode cX4_play 117 = .ok (.iload 11, 2) := by decide +kernel
theorem dX4_play_119 : decode cX4_play 119 = .ok (.istore 8, 2) := by decide +kernel
theorem dX4_play_121 : decode cX4_play 121 = .ok (.iload 10, 2) := by decide +kernel
theorem dX4_play_123 : decode cX4_play 123 = .ok (.istore 5, 2) := by decide +kernel
theorem dX4_play_125 : decode cX4_play 125 = .ok (.iinc 9 1, 3) := by decide +kernel
theorem dX4_play_128 : decode cX4_play 128 = .ok (.goto (-65), 3) := by decide +kernel
theorem dX4_play_131 : decode cX4_play 131 = .ok (.iload 5, 2) := by decide +kernel
theorem dX4_play_133 : decode cX4_play 133 = .ok (.ireturn, 1) := by decide +kernel
theorem dX4_chooser_0 : decode cX4_chooser 0 = .ok (.aload_n 0, 1) := by decide +kernel
theorem dX4_chooser_1 : decode cX4_chooser 1 = .ok (.getfield 48, 3) := by decide +kernel
theorem dX4_chooser_4 : decode cX4_chooser 4 = .ok (.ifCond .le 12, 3) := by decide +kernel
theorem dX4_chooser_7 : decode cX4_chooser 7 = .ok (.iload_n 1, 1) := by decide +kernel
theorem dX4_chooser_8 : decode cX4_chooser 8 = .ok (.aload_n 0, 1) := by decide +kernel
theorem dX4_chooser_9 : decode cX4_chooser 9 = .ok (.getfield 48, 3) := by decide +kernel
theorem dX4_chooser_12 : decode cX4_chooser 12 = .ok (.irem, 1) := by decide +kernel
theorem dX4_chooser_13 : decode cX4_chooser 13 = .ok (.goto 4, 3) := by decide +kernel
theorem dX4_chooser_16 : decode cX4_chooser 16 = .ok (.iconst 0, 1) := by decide +kernel
theorem dX4_chooser_17 : decode cX4_chooser 17 = .ok (.ireturn, 1) := by decide +kernel
