theorem dX3_init_0 : decode cX3_init 0 = .ok (.aload_n 0, 1) := by decide +kernel
theorem dX3_init_1 : decode cX3_init 1 = .ok (.invokespecial 3, 3) := by decide +kernel
theorem dX3_init_4 : decode cX3_init 4 = .ok (.aload_n 0, 1) := by decide +kernel
theorem dX3_init_5 : decode cX3_init 5 = .ok (.bipush 24, 2) := by decide +kernel
theorem dX3_init_7 : decode cX3_init 7 = .ok (.newarray .int, 2) := by decide +kernel
theorem dX3_init_9 : decode cX3_init 9 = .ok (.putfield 9, 3) := by decide +kernel
theorem dX3_init_12 : decode cX3_init 12 = .ok (.aload_n 0, 1) := by decide +kernel
theorem dX3_init_13 : decode cX3_init 13 = .ok (.bipush 24, 2) := by decide +kernel
theorem dX3_init_15 : decode cX3_init 15 = .ok (.newarray .int, 2) := by decide +kernel
theorem dX3_init_17 : decode cX3_init 17 = .ok (.putfield 15, 3) := by decide +kernel
theorem dX3_init_20 : decode cX3_init 20 = .ok (.aload_n 0, 1) := by decide +kernel
theorem dX3_init_21 : decode cX3_init 21 = .ok (.bipush 24, 2) := by decide +kernel
theorem dX3_init_23 : decode cX3_init 23 = .ok (.newarray .int, 2) := by decide +kernel
theorem dX3_init_25 : decode cX3_init 25 = .ok (.putfield 18, 3) := by decide +kernel
theorem dX3_init_28 : decode cX3_init 28 = .ok (.aload_n 0, 1) := by decide +kernel
theorem dX3_init_29 : decode cX3_init 29 = .ok (.bipush 24, 2) := by decide +kernel
theorem dX3_init_31 : decode cX3_init 31 = .ok (.newarray .int, 2) := by decide +kernel
theorem dX3_init_33 : decode cX3_init 33 = .ok (.putfield 21, 3) := by decide +kernel
theorem dX3_init_36 : decode cX3_init 36 = .ok (.aload_n 0, 1) := by decide +kernel
theorem dX3_init_37 : decode cX3_init 37 = .ok (.bipush 72, 2) := by decide +kernel
theorem dX3_init_39 : decode cX3_init 39 = .ok (.newarray .int, 2) := by decide +kernel
theorem dX3_init_41 : decode cX3_init 41 = .ok (.putfield 24, 3) := by decide +kernel
theorem dX3_init_44 : decode cX3_init 44 = .ok (.aload_n 0, 1) := by decide +kernel
theorem dX3_init_45 : decode cX3_init 45 = .ok (.bipush 72, 2) := by decide +kernel
theorem dX3_init_47 : decode cX3_init 47 = .ok (.newarray .int, 2) := by decide +kernel
theorem dX3_init_49 : decode cX3_init 49 = .ok (.putfield 27, 3) := by decide +kernel
theorem dX3_init_52 : decode cX3_init 52 = .ok (.aload_n 0, 1) := by decide +kernel
theorem dX3_init_53 : decode cX3_init 53 = .ok (.bipush 72, 2) := by decide +kernel
theorem dX3_init_55 : decode cX3_init 55 = .ok (.newarray .int, 2) := by decide +kernel
theorem dX3_init_57 : decode cX3_init 57 = .ok (.putfield 30, 3) := by decide +kernel
theorem dX3_init_60 : decode cX3_init 60 = .ok (.aload_n 0, 1) := by decide +kernel
theorem dX3_init_61 : decode cX3_init 61 = .ok (.bipush 15, 2) := by decide +kernel
theorem dX3_init_63 : decode cX3_init 63 = .ok (.newarray .int, 2) := by decide +kernel
theorem dX3_init_65 : decode cX3_init 65 = .ok (.putfield 33, 3) := by decide +kernel
theorem dX3_init_68 : decode cX3_init 68 = .ok (.aload_n 0, 1) := by decide +kernel
theorem dX3_init_69 : decode cX3_init 69 = .ok (.bipush 15, 2) := by decide +kernel
theorem dX3_init_71 : decode cX3_init 71 = .ok (.newarray .int, 2) := by decide +kernel
theorem dX3_init_73 : decode cX3_init 73 = .ok (.putfield 36, 3) := by decide +kernel
theorem dX3_init_76 : decode cX3_init 76 = .ok (.aload_n 0, 1) := by decide +kernel
theorem dX3_init_77 : decode cX3_init 77 = .ok (.bipush 12, 2) := by decide +kernel
theorem dX3_init_79 : decode cX3_init 79 = .ok (.newarray .int, 2) := by decide +kernel
theorem dX3_init_81 : decode cX3_init 81 = .ok (.putfield 39, 3) := by decide +kernel
theorem dX3_init_84 : decode cX3_init 84 = .ok (.aload_n 0, 1) := by decide +kernel
theorem dX3_init_85 : decode cX3_init 85 = .ok (.bipush 12, 2) := by decide +kernel
theorem dX3_init_87 : decode cX3_init 87 = .ok (.newarray .int, 2) := by decide +kernel
theorem dX3_init_89 : decode cX3_init 89 = .ok (.putfield 42, 3) := by decide +kernel
theorem dX3_init_92 : decode cX3_init 92 = .ok (.iconst 0, 1) := by decide +kernel
theorem dX3_init_93 : decode cX3_init 93 = .ok (.istore_n 1, 1) := by decide +kernel
theorem dX3_init_94 : decode cX3_init 94 = .ok (.iload_n 1, 1) := by decide +kernel
theorem dX3_init_95 : decode cX3_init 95 = .ok (.aload_n 0, 1) := by decide +kernel
theorem dX3_init_96 : decode cX3_init 96 = .ok (.getfield 33, 3) := by decide +kernel
theorem dX3_init_99 : decode cX3_init 99 = .ok (.arraylength, 1) := by decide +kernel
theorem dX3_init_100 : decode cX3_init 100 = .ok (.if_icmp .ge 24, 3) := by decide +kernel
theorem dX3_init_103 : decode cX3_init 103 = .ok (.aload_n 0, 1) := by decide +kernel
theorem dX3_init_104 : decode cX3_init 104 = .ok (.getfield 33, 3) := by decide +kernel
theorem dX3_init_107 : decode cX3_init 107 = .ok (.iload_n 1, 1) := by decide +kernel
theorem dX3_init_108 : decode cX3_init 108 = .ok (.bipush 60, 2) := by decide +kernel
theorem dX3_init_110 : decode cX3_init 110 = .ok (.bipush 10, 2) := by decide +kernel
theorem dX3_init_112 : decode cX3_init 112 = .ok (.iload_n 1, 1) := by decide +kernel
theorem dX3_init_113 : decode cX3_init 113 = .ok (.iconst 3, 1) := by decide +kernel
theorem dX3_init_114 : decode cX3_init 114 = .ok (.irem, 1) := by decide +kernel
theorem dX3_init_115 : decode cX3_init 115 = .ok (.imul, 1) := by decide +kernel
theorem dX3_init_116 : decode cX3_init 116 = .ok (.iadd, 1) := by decide +kernel
theorem dX3_init_117 : decode cX3_init 117 = .ok (.iastore, 1) := by decide +kernel
theorem dX3_init_118 : decode cX3_init 118 = .ok (.iinc 1 1, 3) := by decide +kernel
theorem dX3_init_121 : decode cX3_init 121 = .ok (.goto (-27), 3) := by decide +kernel
theorem dX3_init_124 : decode cX3_init 124 = .ok (.return_, 1) := by decide +kernel
theorem dX3_becomeLike_0 : decode cX3_becomeLike 0 = .ok (.aload_n 1, 1) := by decide +kernel
theorem dX3_becomeLike_1 : decode cX3_becomeLike 1 = .ok (.ifnonnull 4, 3) := by decide +kernel
theorem dX3_becomeLike_4 : decode cX3_becomeLike 4 = .ok (.return_, 1) := by decide +kernel
theorem dX3_becomeLike_5 : decode cX3_becomeLike 5 = .ok (.aload_n 0, 1) := by decide +kernel
theorem dX3_becomeLike_6 : decode cX3_becomeLike 6 = .ok (.aload_n 1, 1) := by decide +kernel
theorem dX3_becomeLike_7 : decode cX3_becomeLike 7 = .ok (.getfield 45, 3) := by decide +kernel
theorem dX3_becomeLike_10 : decode cX3_becomeLike 10 = .ok (.putfield 45, 3) := by decide +kernel
theorem dX3_becomeLike_13 : decode cX3_becomeLike 13 = .ok (.aload_n 1, 1) := by decide +kernel
theorem dX3_becomeLike_14 : decode cX3_becomeLike 14 = .ok (.getfield 9, 3) := by decide +kernel
theorem dX3_becomeLike_17 : decode cX3_becomeLike 17 = .ok (.aload_n 0, 1) := by decide +kernel
theorem dX3_becomeLike_18 : decode cX3_becomeLike 18 = .ok (.getfield 9, 3) := by decide +kernel
theorem dX3_becomeLike_21 : decode cX3_becomeLike 21 = .ok (.invokestatic 49, 3) := by decide +kernel
theorem dX3_becomeLike_24 : decode cX3_becomeLike 24 = .ok (.aload_n 1, 1) := by decide +kernel
theorem dX3_becomeLike_25 : decode cX3_becomeLike 25 = .ok (.getfield 15, 3) := by decide +kernel
theorem dX3_becomeLike_28 : decode cX3_becomeLike 28 = .ok (.aload_n 0, 1) := by decide +kernel
theorem dX3_becomeLike_29 : decode cX3_becomeLike 29 = .ok (.getfield 15, 3) := by decide +kernel
theorem dX3_becomeLike_32 : decode cX3_becomeLike 32 = .ok (.invokestatic 49, 3) := by decide +kernel
theorem dX3_becomeLike_35 : decode cX3_becomeLike 35 = .ok (.aload_n 1, 1) := by decide +kernel
theorem dX3_becomeLike_36 : decode cX3_becomeLike 36 = .ok (.getfield 18, 3) := by decide +kernel
theorem dX3_becomeLike_39 : decode cX3_becomeLike 39 = .ok (.aload_n 0, 1) := by decide +kernel
theorem dX3_becomeLike_40 : decode cX3_becomeLike 40 = .ok (.getfield 18, 3) := by decide +kernel
theorem dX3_becomeLike_43 : decode cX3_becomeLike 43 = .ok (.invokestatic 49, 3) := by decide +kernel
theorem dX3_becomeLike_46 : decode cX3_becomeLike 46 = .ok (.aload_n 1, 1) := by decide +kernel
theorem dX3_becomeLike_47 : decode cX3_becomeLike 47 = .ok (.getfield 21, 3) := by decide +kernel
theorem dX3_becomeLike_50 : decode cX3_becomeLike 50 = .ok (.aload_n 0, 1) := by decide +kernel
theorem dX3_becomeLike_51 : decode cX3_becomeLike 51 = .ok (.getfield 21, 3) := by decide +kernel
theorem dX3_becomeLike_54 : decode cX3_becomeLike 54 = .ok (.invokestatic 49, 3) := by decide +kernel
theorem dX3_becomeLike_57 : decode cX3_becomeLike 57 = .ok (.aload_n 1, 1) := by decide +kernel
theorem dX3_becomeLike_58 : decode cX3_becomeLike 58 = .ok (.getfield 24, 3) := by decide +kernel
theorem dX3_becomeLike_61 : decode cX3_becomeLike 61 = .ok (.aload_n 0, 1) := by decide +kernel
theorem dX3_becomeLike_62 : decode cX3_becomeLike 62 = .ok (.getfield 24, 3) := by decide +kernel
theorem dX3_becomeLike_65 : decode cX3_becomeLike 65 = .ok (.invokestatic 49, 3) := by decide +kernel
theorem dX3_becomeLike_68 : decode cX3_becomeLike 68 = .ok (.aload_n 1, 1) := by decide +kernel
theorem dX3_becomeLike_69 : decode cX3_becomeLike 69 = .ok (.getfield 27, 3) := by decide +kernel
theorem dX3_becomeLike_72 : decode cX3_becomeLike 72 = .ok (.aload_n 0, 1) := by decide +kernel
theorem dX3_becomeLike_73 : decode cX3_becomeLike 73 = .ok (.getfield 27, 3) := by decide +kernel
theorem dX3_becomeLike_76 : decode cX3_becomeLike 76 = .ok (.invokestatic 49, 3) := by decide +kernel
theorem dX3_becomeLike_79 : decode cX3_becomeLike 79 = .ok (.aload_n 1, 1) := by decide +kernel
theorem dX3_becomeLike_80 : decode cX3_becomeLike 80 = .ok (.getfield 30, 3) := by decide +kernel
theorem dX3_becomeLike_83 : decode cX3_becomeLike 83 = .ok (.aload_n 0, 1) := by decide +kernel
theorem dX3_becomeLike_84 : decode cX3_becomeLike 84 = .ok (.getfield 30, 3) := by decide +kernel
theorem dX3_becomeLike_87 : decode cX3_becomeLike 87 = .ok (.invokestatic 49, 3) := by decide +kernel
theorem dX3_becomeLike_90 : decode cX3_becomeLike 90 = .ok (.aload_n 1, 1) := by decide +kernel
theorem dX3_becomeLike_91 : decode cX3_becomeLike 91 = .ok (.getfield 33, 3) := by decide +kernel
theorem dX3_becomeLike_94 : decode cX3_becomeLike 94 = .ok (.aload_n 0, 1) := by decide +kernel
theorem dX3_becomeLike_95 : decode cX3_becomeLike 95 = .ok (.getfield 33, 3) := by decide +kernel
theorem dX3_becomeLike_98 : decode cX3_becomeLike 98 = .ok (.invokestatic 49, 3) := by decide +kernel
theorem dX3_becomeLike_101 : decode cX3_becomeLike 101 = .ok (.aload_n 1, 1) := by decide +kernel
theorem dX3_becomeLike_102 : decode cX3_becomeLike 102 = .ok (.getfield 36, 3) := by decide +kernel
theorem dX3_becomeLike_105 : decode cX3_becomeLike 105 = .ok (.aload_n 0, 1) := by decide +kernel
theorem dX3_becomeLike_106 : decode cX3_becomeLike 106 = .ok (.getfield 36, 3) := by decide +kernel
theorem dX3_becomeLike_109 : decode cX3_becomeLike 109 = .ok (.invokestatic 49, 3) := by decide +kernel
theorem dX3_becomeLike_112 : decode cX3_becomeLike 112 = .ok (.aload_n 1, 1) := by decide +kernel
theorem dX3_becomeLike_113 : decode cX3_becomeLike 113 = .ok (.getfield 39, 3) := by decide +kernel
theorem dX3_becomeLike_116 : decode cX3_becomeLike 116 = .ok (.aload_n 0, 1) := by decide +kernel
theorem dX3_becomeLike_117 : decode cX3_becomeLike 117 = .ok (.getfield 39, 3) := by decide +kernel
theorem dX3_becomeLike_120 : decode cX3_becomeLike 120 = .ok (.invokestatic 49, 3) := by decide +kernel
theorem dX3_becomeLike_123 : decode cX3_becomeLike 123 = .ok (.aload_n 1, 1) := by decide +kernel
theorem dX3_becomeLike_124 : decode cX3_becomeLike 124 = .ok (.getfield 42, 3) := by decide +kernel
theorem dX3_becomeLike_127 : decode cX3_becomeLike 127 = .ok (.aload_n 0, 1) := by decide +kernel
theorem dX3_becomeLike_128 : decode cX3_becomeLike 128 = .ok (.getfield 42, 3) := by decide +kernel
theorem dX3_becomeLike_131 : decode cX3_becomeLike 131 = .ok (.invokestatic 49, 3) := by decide +kernel
theorem dX3_becomeLike_134 : decode cX3_becomeLike 134 = .ok (.aload_n 0, 1) := by decide +kernel
theorem dX3_becomeLike_135 : decode cX3_becomeLike 135 = .ok (.aload_n 1, 1) := by decide +kernel
theorem dX3_becomeLike_136 : decode cX3_becomeLike 136 = .ok (.getfield 53, 3) := by decide +kernel
theorem dX3_becomeLike_139 : decode cX3_becomeLike 139 = .ok (.putfield 53, 3) := by decide +kernel
theorem dX3_becomeLike_142 : decode cX3_becomeLike 142 = .ok (.aload_n 0, 1) := by decide +kernel
theorem dX3_becomeLike_143 : decode cX3_becomeLike 143 = .ok (.aload_n 1, 1) := by decide +kernel
theorem dX3_becomeLike_144 : decode cX3_becomeLike 144 = .ok (.getfield 56, 3) := by decide +kernel
theorem dX3_becomeLike_147 : decode cX3_becomeLike 147 = .ok (.putfield 56, 3) := by decide +kernel
theorem dX3_becomeLike_150 : decode cX3_becomeLike 150 = .ok (.aload_n 0, 1) := by decide +kernel
theorem dX3_becomeLike_151 : decode cX3_becomeLike 151 = .ok (.aload_n 1, 1) := by decide +kernel
theorem dX3_becomeLike_152 : decode cX3_becomeLike 152 = .ok (.getfield 59, 3) := by decide +kernel
theorem dX3_becomeLike_155 : decode cX3_becomeLike 155 = .ok (.putfield 59, 3) := by decide +kernel
theorem dX3_becomeLike_158 : decode cX3_becomeLike 158 = .ok (.aload_n 0, 1) := by decide +kernel
theorem dX3_becomeLike_159 : decode cX3_becomeLike 159 = .ok (.aload_n 1, 1) := by decide +kernel
theorem dX3_becomeLike_160 : decode cX3_becomeLike 160 = .ok (.getfield 62, 3) := by decide +kernel
theorem dX3_becomeLike_163 : decode cX3_becomeLike 163 = .ok (.putfield 62, 3) := by decide +kernel
theorem dX3_becomeLike_166 : decode cX3_becomeLike 166 = .ok (.return_, 1) := by decide +kernel
theorem dX3_place_0 : decode cX3_place 0 = .ok (.iload_n 0, 1) := by decide +kernel
theorem dX3_place_1 : decode cX3_place 1 = .ok (.iconst 3, 1) := by decide +kernel
theorem dX3_place_2 : decode cX3_place 2 = .ok (.imul, 1) := by decide +kernel
theorem dX3_place_3 : decode cX3_place 3 = .ok (.iload_n 1, 1) := by decide +kernel
theorem dX3_place_4 : decode cX3_place 4 = .ok (.iadd, 1) := by decide +kernel
theorem dX3_place_5 : decode cX3_place 5 = .ok (.ireturn, 1) := by decide +kernel
theorem dX3_add_0 : decode cX3_add 0 = .ok (.aload_n 0, 1) := by decide +kernel
theorem dX3_add_1 : decode cX3_add 1 = .ok (.getfield 45, 3) := by decide +kernel
theorem dX3_add_4 : decode cX3_add 4 = .ok (.istore 5, 2) := by decide +kernel
theorem dX3_add_6 : decode cX3_add 6 = .ok (.aload_n 0, 1) := by decide +kernel
theorem dX3_add_7 : decode cX3_add 7 = .ok (.getfield 9, 3) := by decide +kernel
theorem dX3_add_10 : decode cX3_add 10 = .ok (.iload 5, 2) := by decide +kernel
theorem dX3_add_12 : decode cX3_add 12 = .ok (.iload_n 1, 1) := by decide +kernel
theorem dX3_add_13 : decode cX3_add 13 = .ok (.invokestatic 65, 3) := by decide +kernel
theorem dX3_add_16 : decode cX3_add 16 = .ok (.aload_n 0, 1) := by decide +kernel
theorem dX3_add_17 : decode cX3_add 17 = .ok (.getfield 15, 3) := by decide +kernel
theorem dX3_add_20 : decode cX3_add 20 = .ok (.iload 5, 2) := by decide +kernel
theorem dX3_add_22 : decode cX3_add 22 = .ok (.iload_n 2, 1) := by decide +kernel
theorem dX3_add_23 : decode cX3_add 23 = .ok (.invokestatic 65, 3) := by decide +kernel
theorem dX3_add_26 : decode cX3_add 26 = .ok (.aload_n 0, 1) := by decide +kernel
theorem dX3_add_27 : decode cX3_add 27 = .ok (.getfield 18, 3) := by decide +kernel
theorem dX3_add_30 : decode cX3_add 30 = .ok (.iload 5, 2) := by decide +kernel
theorem dX3_add_32 : decode cX3_add 32 = .ok (.iload_n 3, 1) := by decide +kernel
theorem dX3_add_33 : decode cX3_add 33 = .ok (.invokestatic 65, 3) := by decide +kernel
theorem dX3_add_36 : decode cX3_add 36 = .ok (.aload_n 0, 1) := by decide +kernel
theorem dX3_add_37 : decode cX3_add 37 = .ok (.getfield 21, 3) := by decide +kernel
theorem dX3_add_40 : decode cX3_add 40 = .ok (.iload 5, 2) := by decide +kernel
theorem dX3_add_42 : decode cX3_add 42 = .ok (.iload 4, 2) := by decide +kernel
theorem dX3_add_44 : decode cX3_add 44 = .ok (.invokestatic 65, 3) := by decide +kernel
theorem dX3_add_47 : decode cX3_add 47 = .ok (.aload_n 0, 1) := by decide +kernel
theorem dX3_add_48 : decode cX3_add 48 = .ok (.dup, 1) := by decide +kernel
theorem dX3_add_49 : decode cX3_add 49 = .ok (.getfield 45, 3) := by decide +kernel
theorem dX3_add_52 : decode cX3_add 52 = .ok (.iconst 1, 1) := by decide +kernel
theorem dX3_add_53 : decode cX3_add 53 = .ok (.iadd, 1) := by decide +kernel
theorem dX3_add_54 : decode cX3_add 54 = .ok (.putfield 45, 3) := by decide +kernel
theorem dX3_add_57 : decode cX3_add 57 = .ok (.aload_n 0, 1) := by decide +kernel
theorem dX3_add_58 : decode cX3_add 58 = .ok (.iload_n 1, 1) := by decide +kernel
theorem dX3_add_59 : decode cX3_add 59 = .ok (.invokevirtual 69, 3) := by decide +kernel
theorem dX3_add_62 : decode cX3_add 62 = .ok (.iload 5, 2) := by decide +kernel
theorem dX3_add_64 : decode cX3_add 64 = .ok (.ireturn, 1) := by decide +kernel
theorem dX3_putTranslation_0 : decode cX3_putTranslation 0 = .ok (.aload_n 0, 1) := by decide +kernel
theorem dX3_putTranslation_1 : decode cX3_putTranslation 1 = .ok (.getfield 24, 3) := by decide +kernel
theorem dX3_putTranslation_4 : decode cX3_putTranslation 4 = .ok (.iload_n 1, 1) := by decide +kernel
theorem dX3_putTranslation_5 : decode cX3_putTranslation 5 = .ok (.iload_n 2, 1) := by decide +kernel
theorem dX3_putTranslation_6 : decode cX3_putTranslation 6 = .ok (.invokestatic 73, 3) := by decide +kernel
theorem dX3_putTranslation_9 : decode cX3_putTranslation 9 = .ok (.iload_n 3, 1) := by decide +kernel
theorem dX3_putTranslation_10 : decode cX3_putTranslation 10 = .ok (.invokestatic 65, 3) := by decide +kernel
theorem dX3_putTranslation_13 : decode cX3_putTranslation 13 = .ok (.aload_n 0, 1) := by decide +kernel
theorem dX3_putTranslation_14 : decode cX3_putTranslation 14 = .ok (.getfield 27, 3) := by decide +kernel
theorem dX3_putTranslation_17 : decode cX3_putTranslation 17 = .ok (.iload_n 1, 1) := by decide +kernel
theorem dX3_putTranslation_18 : decode cX3_putTranslation 18 = .ok (.iload_n 2, 1) := by decide +kernel
theorem dX3_putTranslation_19 : decode cX3_putTranslation 19 = .ok (.invokestatic 73, 3) := by decide +kernel
theorem dX3_putTranslation_22 : decode cX3_putTranslation 22 = .ok (.iload 4, 2) := by decide +kernel
theorem dX3_putTranslation_24 : decode cX3_putTranslation 24 = .ok (.invokestatic 65, 3) := by decide +kernel
theorem dX3_putTranslation_27 : decode cX3_putTranslation 27 = .ok (.return_, 1) := by decide +kernel
theorem dX3_putStamina_0 : decode cX3_putStamina 0 = .ok (.aload_n 0, 1) := by decide +kernel
theorem dX3_putStamina_1 : decode cX3_putStamina 1 = .ok (.getfield 33, 3) := by decide +kernel
theorem dX3_putStamina_4 : decode cX3_putStamina 4 = .ok (.iload_n 1, 1) := by decide +kernel
theorem dX3_putStamina_5 : decode cX3_putStamina 5 = .ok (.iload_n 2, 1) := by decide +kernel
theorem dX3_putStamina_6 : decode cX3_putStamina 6 = .ok (.invokestatic 73, 3) := by decide +kernel
theorem dX3_putStamina_9 : decode cX3_putStamina 9 = .ok (.iload_n 3, 1) := by decide +kernel
theorem dX3_putStamina_10 : decode cX3_putStamina 10 = .ok (.invokestatic 65, 3) := by decide +kernel
theorem dX3_putStamina_13 : decode cX3_putStamina 13 = .ok (.return_, 1) := by decide +kernel
theorem dX3_take_0 : decode cX3_take 0 = .ok (.aload_n 0, 1) := by decide +kernel
theorem dX3_take_1 : decode cX3_take 1 = .ok (.iload_n 1, 1) := by decide +kernel
theorem dX3_take_2 : decode cX3_take 2 = .ok (.invokevirtual 77, 3) := by decide +kernel
theorem dX3_take_5 : decode cX3_take 5 = .ok (.iload_n 2, 1) := by decide +kernel
theorem dX3_take_6 : decode cX3_take 6 = .ok (.invokestatic 73, 3) := by decide +kernel
theorem dX3_take_9 : decode cX3_take 9 = .ok (.istore_n 3, 1) := by decide +kernel
theorem dX3_take_10 : decode cX3_take 10 = .ok (.aload_n 0, 1) := by decide +kernel
theorem dX3_take_11 : decode cX3_take 11 = .ok (.getfield 36, 3) := by decide +kernel
theorem dX3_take_14 : decode cX3_take 14 = .ok (.iload_n 3, 1) := by decide +kernel
theorem dX3_take_15 : decode cX3_take 15 = .ok (.aload_n 0, 1) := by decide +kernel
theorem dX3_take_16 : decode cX3_take 16 = .ok (.getfield 36, 3) := by decide +kernel
theorem dX3_take_19 : decode cX3_take 19 = .ok (.iload_n 3, 1) := by decide +kernel
theorem dX3_take_20 : decode cX3_take 20 = .ok (.invokestatic 81, 3) := by decide +kernel
theorem dX3_take_23 : decode cX3_take 23 = .ok (.aload_n 0, 1) := by decide +kernel
theorem dX3_take_24 : decode cX3_take 24 = .ok (.iload_n 1, 1) := by decide +kernel
theorem dX3_take_25 : decode cX3_take 25 = .ok (.iload_n 2, 1) := by decide +kernel
theorem dX3_take_26 : decode cX3_take 26 = .ok (.invokevirtual 85, 3) := by decide +kernel
theorem dX3_take_29 : decode cX3_take 29 = .ok (.iadd, 1) := by decide +kernel
theorem dX3_take_30 : decode cX3_take 30 = .ok (.invokestatic 65, 3) := by decide +kernel
theorem dX3_take_33 : decode cX3_take 33 = .ok (.aload_n 0, 1) := by decide +kernel
theorem dX3_take_34 : decode cX3_take 34 = .ok (.getfield 30, 3) := by decide +kernel
theorem dX3_take_37 : decode cX3_take 37 = .ok (.iload_n 1, 1) := by decide +kernel
theorem dX3_take_38 : decode cX3_take 38 = .ok (.iload_n 2, 1) := by decide +kernel
theorem dX3_take_39 : decode cX3_take 39 = .ok (.invokestatic 73, 3) := by decide +kernel
theorem dX3_take_42 : decode cX3_take 42 = .ok (.aload_n 0, 1) := by decide +kernel
theorem dX3_take_43 : decode cX3_take 43 = .ok (.getfield 53, 3) := by decide +kernel
theorem dX3_take_46 : decode cX3_take 46 = .ok (.iconst 1, 1) := by decide +kernel
theorem dX3_take_47 : decode cX3_take 47 = .ok (.iadd, 1) := by decide +kernel
theorem dX3_take_48 : decode cX3_take 48 = .ok (.invokestatic 65, 3) := by decide +kernel
theorem dX3_take_51 : decode cX3_take 51 = .ok (.aload_n 0, 1) := by decide +kernel
theorem dX3_take_52 : decode cX3_take 52 = .ok (.dup, 1) := by decide +kernel
theorem dX3_take_53 : decode cX3_take 53 = .ok (.getfield 56, 3) := by decide +kernel
theorem dX3_take_56 : decode cX3_take 56 = .ok (.iconst 1, 1) := by decide +kernel
theorem dX3_take_57 : decode cX3_take 57 = .ok (.iadd, 1) := by decide +kernel
theorem dX3_take_58 : decode cX3_take 58 = .ok (.putfield 56, 3) := by decide +kernel
theorem dX3_take_61 : decode cX3_take 61 = .ok (.return_, 1) := by decide +kernel
theorem dX3_dropTaken_0 : decode cX3_dropTaken 0 = .ok (.aload_n 0, 1) := by decide +kernel
theorem dX3_dropTaken_1 : decode cX3_dropTaken 1 = .ok (.getfield 30, 3) := by decide +kernel
theorem dX3_dropTaken_4 : decode cX3_dropTaken 4 = .ok (.iload_n 1, 1) := by decide +kernel
theorem dX3_dropTaken_5 : decode cX3_dropTaken 5 = .ok (.iload_n 2, 1) := by decide +kernel
theorem dX3_dropTaken_6 : decode cX3_dropTaken 6 = .ok (.invokestatic 73, 3) := by decide +kernel
theorem dX3_dropTaken_9 : decode cX3_dropTaken 9 = .ok (.iconst 0, 1) := by decide +kernel
theorem dX3_dropTaken_10 : decode cX3_dropTaken 10 = .ok (.invokestatic 65, 3) := by decide +kernel
theorem dX3_dropTaken_13 : decode cX3_dropTaken 13 = .ok (.aload_n 0, 1) := by decide +kernel
theorem dX3_dropTaken_14 : decode cX3_dropTaken 14 = .ok (.dup, 1) := by decide +kernel
theorem dX3_dropTaken_15 : decode cX3_dropTaken 15 = .ok (.getfield 59, 3) := by decide +kernel
theorem dX3_dropTaken_18 : decode cX3_dropTaken 18 = .ok (.iconst 1, 1) := by decide +kernel
theorem dX3_dropTaken_19 : decode cX3_dropTaken 19 = .ok (.iadd, 1) := by decide +kernel
theorem dX3_dropTaken_20 : decode cX3_dropTaken 20 = .ok (.putfield 59, 3) := by decide +kernel
theorem dX3_dropTaken_23 : decode cX3_dropTaken 23 = .ok (.aload_n 0, 1) := by decide +kernel
theorem dX3_dropTaken_24 : decode cX3_dropTaken 24 = .ok (.aload_n 0, 1) := by decide +kernel
theorem dX3_dropTaken_25 : decode cX3_dropTaken 25 = .ok (.iload_n 1, 1) := by decide +kernel
theorem dX3_dropTaken_26 : decode cX3_dropTaken 26 = .ok (.invokevirtual 88, 3) := by decide +kernel
theorem dX3_dropTaken_29 : decode cX3_dropTaken 29 = .ok (.iload_n 2, 1) := by decide +kernel
theorem dX3_dropTaken_30 : decode cX3_dropTaken 30 = .ok (.invokevirtual 91, 3) := by decide +kernel
theorem dX3_dropTaken_33 : decode cX3_dropTaken 33 = .ok (.return_, 1) := by decide +kernel
theorem dX3_beginSession_0 : decode cX3_beginSession 0 = .ok (.aload_n 0, 1) := by decide +kernel
theorem dX3_beginSession_1 : decode cX3_beginSession 1 = .ok (.dup, 1) := by decide +kernel
theorem dX3_beginSession_2 : decode cX3_beginSession 2 = .ok (.getfield 53, 3) := by decide +kernel
theorem dX3_beginSession_5 : decode cX3_beginSession 5 = .ok (.iconst 1, 1) := by decide +kernel
theorem dX3_beginSession_6 : decode cX3_beginSession 6 = .ok (.iadd, 1) := by decide +kernel
theorem dX3_beginSession_7 : decode cX3_beginSession 7 = .ok (.putfield 53, 3) := by decide +kernel
theorem dX3_beginSession_10 : decode cX3_beginSession 10 = .ok (.iconst 0, 1) := by decide +kernel
theorem dX3_beginSession_11 : decode cX3_beginSession 11 = .ok (.istore_n 1, 1) := by decide +kernel
theorem dX3_beginSession_12 : decode cX3_beginSession 12 = .ok (.iload_n 1, 1) := by decide +kernel
theorem dX3_beginSession_13 : decode cX3_beginSession 13 = .ok (.aload_n 0, 1) := by decide +kernel
theorem dX3_beginSession_14 : decode cX3_beginSession 14 = .ok (.getfield 36, 3) := by decide +kernel
theorem dX3_beginSession_17 : decode cX3_beginSession 17 = .ok (.arraylength, 1) := by decide +kernel
theorem dX3_beginSession_18 : decode cX3_beginSession 18 = .ok (.if_icmp .ge 16, 3) := by decide +kernel
theorem dX3_beginSession_21 : decode cX3_beginSession 21 = .ok (.aload_n 0, 1) := by decide +kernel
theorem dX3_beginSession_22 : decode cX3_beginSession 22 = .ok (.getfield 36, 3) := by decide +kernel
theorem dX3_beginSession_25 : decode cX3_beginSession 25 = .ok (.iload_n 1, 1) := by decide +kernel
theorem dX3_beginSession_26 : decode cX3_beginSession 26 = .ok (.iconst 0, 1) := by decide +kernel
theorem dX3_beginSession_27 : decode cX3_beginSession 27 = .ok (.iastore, 1) := by decide +kernel
theorem dX3_beginSession_28 : decode cX3_beginSession 28 = .ok (.iinc 1 1, 3) := by decide +kernel
theorem dX3_beginSession_31 : decode cX3_beginSession 31 = .ok (.goto (-19), 3) := by decide +kernel
theorem dX3_beginSession_34 : decode cX3_beginSession 34 = .ok (.return_, 1) := by decide +kernel
theorem dX3_putMix_0 : decode cX3_putMix 0 = .ok (.aload_n 0, 1) := by decide +kernel
theorem dX3_putMix_1 : decode cX3_putMix 1 = .ok (.getfield 39, 3) := by decide +kernel
theorem dX3_putMix_4 : decode cX3_putMix 4 = .ok (.iload_n 1, 1) := by decide +kernel
theorem dX3_putMix_5 : decode cX3_putMix 5 = .ok (.iload_n 2, 1) := by decide +kernel
theorem dX3_putMix_6 : decode cX3_putMix 6 = .ok (.invokestatic 73, 3) := by decide +kernel
theorem dX3_putMix_9 : decode cX3_putMix 9 = .ok (.iconst 1, 1) := by decide +kernel
theorem dX3_putMix_10 : decode cX3_putMix 10 = .ok (.invokestatic 65, 3) := by decide +kernel
theorem dX3_putMix_13 : decode cX3_putMix 13 = .ok (.aload_n 0, 1) := by decide +kernel
theorem dX3_putMix_14 : decode cX3_putMix 14 = .ok (.dup, 1) := by decide +kernel
theorem dX3_putMix_15 : decode cX3_putMix 15 = .ok (.getfield 62, 3) := by decide +kernel
theorem dX3_putMix_18 : decode cX3_putMix 18 = .ok (.iconst 1, 1) := by decide +kernel
theorem dX3_putMix_19 : decode cX3_putMix 19 = .ok (.iadd, 1) := by decide +kernel
theorem dX3_putMix_20 : decode cX3_putMix 20 = .ok (.putfield 62, 3) := by decide +kernel
theorem dX3_putMix_23 : decode cX3_putMix 23 = .ok (.return_, 1) := by decide +kernel
theorem dX3_unmixEverywhere_0 : decode cX3_unmixEverywhere 0 = .ok (.iconst 0, 1) := by decide +kernel
theorem dX3_unmixEverywhere_1 : decode cX3_unmixEverywhere 1 = .ok (.istore_n 2, 1) := by decide +kernel
theorem dX3_unmixEverywhere_2 : decode cX3_unmixEverywhere 2 = .ok (.iload_n 2, 1) := by decide +kernel
theorem dX3_unmixEverywhere_3 : decode cX3_unmixEverywhere 3 = .ok (.iconst 3, 1) := by decide +kernel
theorem dX3_unmixEverywhere_4 : decode cX3_unmixEverywhere 4 = .ok (.if_icmp .ge 15, 3) := by decide +kernel
theorem dX3_unmixEverywhere_7 : decode cX3_unmixEverywhere 7 = .ok (.aload_n 0, 1) := by decide +kernel
theorem dX3_unmixEverywhere_8 : decode cX3_unmixEverywhere 8 = .ok (.iload_n 1, 1) := by decide +kernel
theorem dX3_unmixEverywhere_9 : decode cX3_unmixEverywhere 9 = .ok (.iload_n 2, 1) := by decide +kernel
theorem dX3_unmixEverywhere_10 : decode cX3_unmixEverywhere 10 = .ok (.invokevirtual 91, 3) := by decide +kernel
theorem dX3_unmixEverywhere_13 : decode cX3_unmixEverywhere 13 = .ok (.iinc 2 1, 3) := by decide +kernel
theorem dX3_unmixEverywhere_16 : decode cX3_unmixEverywhere 16 = .ok (.goto (-14), 3) := by decide +kernel
theorem dX3_unmixEverywhere_19 : decode cX3_unmixEverywhere 19 = .ok (.return_, 1) := by decide +kernel
theorem dX3_unmix_0 : decode cX3_unmix 0 = .ok (.aload_n 0, 1) := by decide +kernel
theorem dX3_unmix_1 : decode cX3_unmix 1 = .ok (.getfield 39, 3) := by decide +kernel
theorem dX3_unmix_4 : decode cX3_unmix 4 = .ok (.iload_n 1, 1) := by decide +kernel
theorem dX3_unmix_5 : decode cX3_unmix 5 = .ok (.iload_n 2, 1) := by decide +kernel
theorem dX3_unmix_6 : decode cX3_unmix 6 = .ok (.invokestatic 73, 3) := by decide +kernel
theorem dX3_unmix_9 : decode cX3_unmix 9 = .ok (.iconst 0, 1) := by decide +kernel
theorem dX3_unmix_10 : decode cX3_unmix 10 = .ok (.invokestatic 65, 3) := by decide +kernel
theorem dX3_unmix_13 : decode cX3_unmix 13 = .ok (.aload_n 0, 1) := by decide +kernel
theorem dX3_unmix_14 : decode cX3_unmix 14 = .ok (.getfield 42, 3) := by decide +kernel
theorem dX3_unmix_17 : decode cX3_unmix 17 = .ok (.iload_n 1, 1) := by decide +kernel
theorem dX3_unmix_18 : decode cX3_unmix 18 = .ok (.iload_n 2, 1) := by decide +kernel
theorem dX3_unmix_19 : decode cX3_unmix 19 = .ok (.invokestatic 73, 3) := by decide +kernel
theorem dX3_unmix_22 : decode cX3_unmix 22 = .ok (.iconst 0, 1) := by decide +kernel
theorem dX3_unmix_23 : decode cX3_unmix 23 = .ok (.invokestatic 65, 3) := by decide +kernel
theorem dX3_unmix_26 : decode cX3_unmix 26 = .ok (.return_, 1) := by decide +kernel
theorem dX3_putSignature_0 : decode cX3_putSignature 0 = .ok (.iload_n 2, 1) := by decide +kernel
theorem dX3_putSignature_1 : decode cX3_putSignature 1 = .ok (.iload_n 3, 1) := by decide +kernel
theorem dX3_putSignature_2 : decode cX3_putSignature 2 = .ok (.invokestatic 73, 3) := by decide +kernel
theorem dX3_putSignature_5 : decode cX3_putSignature 5 = .ok (.istore 4, 2) := by decide +kernel
theorem dX3_putSignature_7 : decode cX3_putSignature 7 = .ok (.aload_n 0, 1) := by decide +kernel
theorem dX3_putSignature_8 : decode cX3_putSignature 8 = .ok (.getfield 42, 3) := by decide +kernel
theorem dX3_putSignature_11 : decode cX3_putSignature 11 = .ok (.iload 4, 2) := by decide +kernel
theorem dX3_putSignature_13 : decode cX3_putSignature 13 = .ok (.aload_n 0, 1) := by decide +kernel
theorem dX3_putSignature_14 : decode cX3_putSignature 14 = .ok (.getfield 42, 3) := by decide +kernel
theorem dX3_putSignature_17 : decode cX3_putSignature 17 = .ok (.iload 4, 2) := by decide +kernel
theorem dX3_putSignature_19 : decode cX3_putSignature 19 = .ok (.invokestatic 81, 3) := by decide +kernel
theorem dX3_putSignature_22 : decode cX3_putSignature 22 = .ok (.iconst 1, 1) := by decide +kernel
theorem dX3_putSignature_23 : decode cX3_putSignature 23 = .ok (.iload_n 1, 1) := by decide +kernel
theorem dX3_putSignature_24 : decode cX3_putSignature 24 = .ok (.ishl, 1) := by decide +kernel
theorem dX3_putSignature_25 : decode cX3_putSignature 25 = .ok (.ior, 1) := by decide +kernel
theorem dX3_putSignature_26 : decode cX3_putSignature 26 = .ok (.invokestatic 65, 3) := by decide +kernel
theorem dX3_putSignature_29 : decode cX3_putSignature 29 = .ok (.return_, 1) := by decide +kernel
theorem dX3_reelAt_0 : decode cX3_reelAt 0 = .ok (.aload_n 0, 1) := by decide +kernel
theorem dX3_reelAt_1 : decode cX3_reelAt 1 = .ok (.getfield 9, 3) := by decide +kernel
theorem dX3_reelAt_4 : decode cX3_reelAt 4 = .ok (.iload_n 1, 1) := by decide +kernel
theorem dX3_reelAt_5 : decode cX3_reelAt 5 = .ok (.invokestatic 81, 3) := by decide +kernel
theorem dX3_reelAt_8 : decode cX3_reelAt 8 = .ok (.ireturn, 1) := by decide +kernel
theorem dX3_speakerAt_0 : decode cX3_speakerAt 0 = .ok (.aload_n 0, 1) := by decide +kernel
theorem dX3_speakerAt_1 : decode cX3_speakerAt 1 = .ok (.getfield 15, 3) := by decide +kernel
theorem dX3_speakerAt_4 : decode cX3_speakerAt 4 = .ok (.iload_n 1, 1) := by decide +kernel
theorem dX3_speakerAt_5 : decode cX3_speakerAt 5 = .ok (.invokestatic 81, 3) := by decide +kernel
theorem dX3_speakerAt_8 : decode cX3_speakerAt 8 = .ok (.ireturn, 1) := by decide +kernel
theorem dX3_lipsAt_0 : decode cX3_lipsAt 0 = .ok (.aload_n 0, 1) := by decide +kernel
theorem dX3_lipsAt_1 : decode cX3_lipsAt 1 = .ok (.getfield 18, 3) := by decide +kernel
theorem dX3_lipsAt_4 : decode cX3_lipsAt 4 = .ok (.iload_n 1, 1) := by decide +kernel
theorem dX3_lipsAt_5 : decode cX3_lipsAt 5 = .ok (.invokestatic 81, 3) := by decide +kernel
theorem dX3_lipsAt_8 : decode cX3_lipsAt 8 = .ok (.ireturn, 1) := by decide +kernel
theorem dX3_sighAt_0 : decode cX3_sighAt 0 = .ok (.aload_n 0, 1) := by decide +kernel
theorem dX3_sighAt_1 : decode cX3_sighAt 1 = .ok (.getfield 21, 3) := by decide +kernel
theorem dX3_sighAt_4 : decode cX3_sighAt 4 = .ok (.iload_n 1, 1) := by decide +kernel
theorem dX3_sighAt_5 : decode cX3_sighAt 5 = .ok (.invokestatic 81, 3) := by decide +kernel
theorem dX3_sighAt_8 : decode cX3_sighAt 8 = .ok (.ireturn, 1) := by decide +kernel
theorem dX3_framesAt_0 : decode cX3_framesAt 0 = .ok (.aload_n 0, 1) := by decide +kernel
theorem dX3_framesAt_1 : decode cX3_framesAt 1 = .ok (.getfield 24, 3) := by decide +kernel
theorem dX3_framesAt_4 : decode cX3_framesAt 4 = .ok (.iload_n 1, 1) := by decide +kernel
theorem dX3_framesAt_5 : decode cX3_framesAt 5 = .ok (.iload_n 2, 1) := by decide +kernel
theorem dX3_framesAt_6 : decode cX3_framesAt 6 = .ok (.invokestatic 73, 3) := by decide +kernel
theorem dX3_framesAt_9 : decode cX3_framesAt 9 = .ok (.invokestatic 81, 3) := by decide +kernel
theorem dX3_framesAt_12 : decode cX3_framesAt 12 = .ok (.ireturn, 1) := by decide +kernel
theorem dX3_hasTranslation_0 : decode cX3_hasTranslation 0 = .ok (.aload_n 0, 1) := by decide +kernel
theorem dX3_hasTranslation_1 : decode cX3_hasTranslation 1 = .ok (.iload_n 1, 1) := by decide +kernel
theorem dX3_hasTranslation_2 : decode cX3_hasTranslation 2 = .ok (.iload_n 2, 1) := by decide +kernel
theorem dX3_hasTranslation_3 : decode cX3_hasTranslation 3 = .ok (.invokevirtual 95, 3) := by decide +kernel
theorem dX3_hasTranslation_6 : decode cX3_hasTranslation 6 = .ok (.ifCond .le 7, 3) := by decide +kernel
theorem dX3_hasTranslation_9 : decode cX3_hasTranslation 9 = .ok (.iconst 1, 1) := by decide +kernel
theorem dX3_hasTranslation_10 : decode cX3_hasTranslation 10 = .ok (.goto 4, 3) := by decide +kernel
theorem dX3_hasTranslation_13 : decode cX3_hasTranslation 13 = .ok (.iconst 0, 1) := by decide +kernel
theorem dX3_hasTranslation_14 : decode cX3_hasTranslation 14 = .ok (.ireturn, 1) := by decide +kernel
theorem dX3_annexedAt_0 : decode cX3_annexedAt 0 = .ok (.aload_n 0, 1) := by decide +kernel
theorem dX3_annexedAt_1 : decode cX3_annexedAt 1 = .ok (.getfield 27, 3) := by decide +kernel
theorem dX3_annexedAt_4 : decode cX3_annexedAt 4 = .ok (.iload_n 1, 1) := by decide +kernel
theorem dX3_annexedAt_5 : decode cX3_annexedAt 5 = .ok (.iload_n 2, 1) := by decide +kernel
theorem dX3_annexedAt_6 : decode cX3_annexedAt 6 = .ok (.invokestatic 73, 3) := by decide +kernel
theorem dX3_annexedAt_9 : decode cX3_annexedAt 9 = .ok (.invokestatic 81, 3) := by decide +kernel
theorem dX3_annexedAt_12 : decode cX3_annexedAt 12 = .ok (.ireturn, 1) := by decide +kernel
theorem dX3_isTaken_0 : decode cX3_isTaken 0 = .ok (.aload_n 0, 1) := by decide +kernel
theorem dX3_isTaken_1 : decode cX3_isTaken 1 = .ok (.getfield 30, 3) := by decide +kernel
theorem dX3_isTaken_4 : decode cX3_isTaken 4 = .ok (.iload_n 1, 1) := by decide +kernel
theorem dX3_isTaken_5 : decode cX3_isTaken 5 = .ok (.iload_n 2, 1) := by decide +kernel
theorem dX3_isTaken_6 : decode cX3_isTaken 6 = .ok (.invokestatic 73, 3) := by decide +kernel
theorem dX3_isTaken_9 : decode cX3_isTaken 9 = .ok (.invokestatic 81, 3) := by decide +kernel
theorem dX3_isTaken_12 : decode cX3_isTaken 12 = .ok (.ifCond .le 7, 3) := by decide +kernel
theorem dX3_isTaken_15 : decode cX3_isTaken 15 = .ok (.iconst 1, 1) := by decide +kernel
theorem dX3_isTaken_16 : decode cX3_isTaken 16 = .ok (.goto 4, 3) := by decide +kernel
theorem dX3_isTaken_19 : decode cX3_isTaken 19 = .ok (.iconst 0, 1) := by decide +kernel
theorem dX3_isTaken_20 : decode cX3_isTaken 20 = .ok (.ireturn, 1) := by decide +kernel
theorem dX3_takenIn_0 : decode cX3_takenIn 0 = .ok (.aload_n 0, 1) := by decide +kernel
theorem dX3_takenIn_1 : decode cX3_takenIn 1 = .ok (.getfield 30, 3) := by decide +kernel
theorem dX3_takenIn_4 : decode cX3_takenIn 4 = .ok (.iload_n 1, 1) := by decide +kernel
theorem dX3_takenIn_5 : decode cX3_takenIn 5 = .ok (.iload_n 2, 1) := by decide +kernel
theorem dX3_takenIn_6 : decode cX3_takenIn 6 = .ok (.invokestatic 73, 3) := by decide +kernel
theorem dX3_takenIn_9 : decode cX3_takenIn 9 = .ok (.invokestatic 81, 3) := by decide +kernel
theorem dX3_takenIn_12 : decode cX3_takenIn 12 = .ok (.iconst 1, 1) := by decide +kernel
theorem dX3_takenIn_13 : decode cX3_takenIn 13 = .ok (.isub, 1) := by decide +kernel
theorem dX3_takenIn_14 : decode cX3_takenIn 14 = .ok (.ireturn, 1) := by decide +kernel
theorem dX3_isRecordedAnywhere_0 : decode cX3_isRecordedAnywhere 0 = .ok (.iconst 0, 1) := by decide +kernel
theorem dX3_isRecordedAnywhere_1 : decode cX3_isRecordedAnywhere 1 = .ok (.istore_n 2, 1) := by decide +kernel
theorem dX3_isRecordedAnywhere_2 : decode cX3_isRecordedAnywhere 2 = .ok (.iload_n 2, 1) := by decide +kernel
theorem dX3_isRecordedAnywhere_3 : decode cX3_isRecordedAnywhere 3 = .ok (.iconst 3, 1) := by decide +kernel
theorem dX3_isRecordedAnywhere_4 : decode cX3_isRecordedAnywhere 4 = .ok (.if_icmp .ge 20, 3) := by decide +kernel
theorem dX3_isRecordedAnywhere_7 : decode cX3_isRecordedAnywhere 7 = .ok (.aload_n 0, 1) := by decide +kernel
theorem dX3_isRecordedAnywhere_8 : decode cX3_isRecordedAnywhere 8 = .ok (.iload_n 1, 1) := by decide +kernel
theorem dX3_isRecordedAnywhere_9 : decode cX3_isRecordedAnywhere 9 = .ok (.iload_n 2, 1) := by decide +kernel
theorem dX3_isRecordedAnywhere_10 : decode cX3_isRecordedAnywhere 10 = .ok (.invokevirtual 98, 3) := by decide +kernel
theorem dX3_isRecordedAnywhere_13 : decode cX3_isRecordedAnywhere 13 = .ok (.ifCond .eq 5, 3) := by decide +kernel
theorem dX3_isRecordedAnywhere_16 : decode cX3_isRecordedAnywhere 16 = .ok (.iconst 1, 1) := by decide +kernel
theorem dX3_isRecordedAnywhere_17 : decode cX3_isRecordedAnywhere 17 = .ok (.ireturn, 1) := by decide +kernel
theorem dX3_isRecordedAnywhere_18 : decode cX3_isRecordedAnywhere 18 = .ok (.iinc 2 1, 3) := by decide +kernel
theorem dX3_isRecordedAnywhere_21 : decode cX3_isRecordedAnywhere 21 = .ok (.goto (-19), 3) := by decide +kernel
theorem dX3_isRecordedAnywhere_24 : decode cX3_isRecordedAnywhere 24 = .ok (.iconst 0, 1) := by decide +kernel
theorem dX3_isRecordedAnywhere_25 : decode cX3_isRecordedAnywhere 25 = .ok (.ireturn, 1) := by decide +kernel
theorem dX3_spokenAt_0 : decode cX3_spokenAt 0 = .ok (.aload_n 0, 1) := by decide +kernel
theorem dX3_spokenAt_1 : decode cX3_spokenAt 1 = .ok (.getfield 24, 3) := by decide +kernel
theorem dX3_spokenAt_4 : decode cX3_spokenAt 4 = .ok (.iload_n 1, 1) := by decide +kernel
theorem dX3_spokenAt_5 : decode cX3_spokenAt 5 = .ok (.iload_n 2, 1) := by decide +kernel
theorem dX3_spokenAt_6 : decode cX3_spokenAt 6 = .ok (.invokestatic 73, 3) := by decide +kernel
theorem dX3_spokenAt_9 : decode cX3_spokenAt 9 = .ok (.invokestatic 81, 3) := by decide +kernel
theorem dX3_spokenAt_12 : decode cX3_spokenAt 12 = .ok (.aload_n 0, 1) := by decide +kernel
theorem dX3_spokenAt_13 : decode cX3_spokenAt 13 = .ok (.getfield 21, 3) := by decide +kernel
theorem dX3_spokenAt_16 : decode cX3_spokenAt 16 = .ok (.iload_n 1, 1) := by decide +kernel
theorem dX3_spokenAt_17 : decode cX3_spokenAt 17 = .ok (.invokestatic 81, 3) := by decide +kernel
theorem dX3_spokenAt_20 : decode cX3_spokenAt 20 = .ok (.iadd, 1) := by decide +kernel
theorem dX3_spokenAt_21 : decode cX3_spokenAt 21 = .ok (.ireturn, 1) := by decide +kernel
theorem dX3_roomAt_0 : decode cX3_roomAt 0 = .ok (.aload_n 0, 1) := by decide +kernel
theorem dX3_roomAt_1 : decode cX3_roomAt 1 = .ok (.getfield 18, 3) := by decide +kernel
theorem dX3_roomAt_4 : decode cX3_roomAt 4 = .ok (.iload_n 1, 1) := by decide +kernel
theorem dX3_roomAt_5 : decode cX3_roomAt 5 = .ok (.invokestatic 81, 3) := by decide +kernel
theorem dX3_roomAt_8 : decode cX3_roomAt 8 = .ok (.aload_n 0, 1) := by decide +kernel
theorem dX3_roomAt_9 : decode cX3_roomAt 9 = .ok (.iload_n 1, 1) := by decide +kernel
theorem dX3_roomAt_10 : decode cX3_roomAt 10 = .ok (.iload_n 2, 1) := by decide +kernel
theorem dX3_roomAt_11 : decode cX3_roomAt 11 = .ok (.invokevirtual 85, 3) := by decide +kernel
theorem dX3_roomAt_14 : decode cX3_roomAt 14 = .ok (.isub, 1) := by decide +kernel
theorem dX3_roomAt_15 : decode cX3_roomAt 15 = .ok (.ireturn, 1) := by decide +kernel
theorem dX3_hasFit_0 : decode cX3_hasFit 0 = .ok (.aload_n 0, 1) := by decide +kernel
theorem dX3_hasFit_1 : decode cX3_hasFit 1 = .ok (.getfield 24, 3) := by decide +kernel
theorem dX3_hasFit_4 : decode cX3_hasFit 4 = .ok (.iload_n 1, 1) := by decide +kernel
theorem dX3_hasFit_5 : decode cX3_hasFit 5 = .ok (.iload_n 2, 1) := by decide +kernel
theorem dX3_hasFit_6 : decode cX3_hasFit 6 = .ok (.invokestatic 73, 3) := by decide +kernel
theorem dX3_hasFit_9 : decode cX3_hasFit 9 = .ok (.invokestatic 81, 3) := by decide +kernel
theorem dX3_hasFit_12 : decode cX3_hasFit 12 = .ok (.istore_n 3, 1) := by decide +kernel
theorem dX3_hasFit_13 : decode cX3_hasFit 13 = .ok (.iload_n 3, 1) := by decide +kernel
theorem dX3_hasFit_14 : decode cX3_hasFit 14 = .ok (.ifCond .le 28, 3) := by decide +kernel
theorem dX3_hasFit_17 : decode cX3_hasFit 17 = .ok (.iload_n 3, 1) := by decide +kernel
theorem dX3_hasFit_18 : decode cX3_hasFit 18 = .ok (.aload_n 0, 1) := by decide +kernel
theorem dX3_hasFit_19 : decode cX3_hasFit 19 = .ok (.getfield 21, 3) := by decide +kernel
theorem dX3_hasFit_22 : decode cX3_hasFit 22 = .ok (.iload_n 1, 1) := by decide +kernel
theorem dX3_hasFit_23 : decode cX3_hasFit 23 = .ok (.invokestatic 81, 3) := by decide +kernel
theorem dX3_hasFit_26 : decode cX3_hasFit 26 = .ok (.iadd, 1) := by decide +kernel
theorem dX3_hasFit_27 : decode cX3_hasFit 27 = .ok (.aload_n 0, 1) := by decide +kernel
theorem dX3_hasFit_28 : decode cX3_hasFit 28 = .ok (.getfield 18, 3) := by decide +kernel
theorem dX3_hasFit_31 : decode cX3_hasFit 31 = .ok (.iload_n 1, 1) := by decide +kernel
theorem dX3_hasFit_32 : decode cX3_hasFit 32 = .ok (.invokestatic 81, 3) := by decide +kernel
theorem dX3_hasFit_35 : decode cX3_hasFit 35 = .ok (.if_icmp .gt 7, 3) := by decide +kernel
theorem dX3_hasFit_38 : decode cX3_hasFit 38 = .ok (.iconst 1, 1) := by decide +kernel
theorem dX3_hasFit_39 : decode cX3_hasFit 39 = .ok (.goto 4, 3) := by decide +kernel
theorem dX3_hasFit_42 : decode cX3_hasFit 42 = .ok (.iconst 0, 1) := by decide +kernel
theorem dX3_hasFit_43 : decode cX3_hasFit 43 = .ok (.ireturn, 1) := by decide +kernel
theorem dX3_hundredthsAt_0 : decode cX3_hundredthsAt 0 = .ok (.aload_n 0, 1) := by decide +kernel
theorem dX3_hundredthsAt_1 : decode cX3_hundredthsAt 1 = .ok (.iload_n 1, 1) := by decide +kernel
theorem dX3_hundredthsAt_2 : decode cX3_hundredthsAt 2 = .ok (.invokevirtual 102, 3) := by decide +kernel
theorem dX3_hundredthsAt_5 : decode cX3_hundredthsAt 5 = .ok (.istore_n 3, 1) := by decide +kernel
theorem dX3_hundredthsAt_6 : decode cX3_hundredthsAt 6 = .ok (.iload_n 3, 1) := by decide +kernel
theorem dX3_hundredthsAt_7 : decode cX3_hundredthsAt 7 = .ok (.ifCond .le 17, 3) := by decide +kernel
theorem dX3_hundredthsAt_10 : decode cX3_hundredthsAt 10 = .ok (.aload_n 0, 1) := by decide +kernel
theorem dX3_hundredthsAt_11 : decode cX3_hundredthsAt 11 = .ok (.iload_n 1, 1) := by decide +kernel
theorem dX3_hundredthsAt_12 : decode cX3_hundredthsAt 12 = .ok (.iload_n 2, 1) := by decide +kernel
theorem dX3_hundredthsAt_13 : decode cX3_hundredthsAt 13 = .ok (.invokevirtual 85, 3) := by decide +kernel
theorem dX3_hundredthsAt_16 : decode cX3_hundredthsAt 16 = .ok (.bipush 100, 2) := by decide +kernel
theorem dX3_hundredthsAt_18 : decode cX3_hundredthsAt 18 = .ok (.imul, 1) := by decide +kernel
theorem dX3_hundredthsAt_19 : decode cX3_hundredthsAt 19 = .ok (.iload_n 3, 1) := by decide +kernel
theorem dX3_hundredthsAt_20 : decode cX3_hundredthsAt 20 = .ok (.idiv, 1) := by decide +kernel
theorem dX3_hundredthsAt_21 : decode cX3_hundredthsAt 21 = .ok (.goto 4, 3) := by decide +kernel
theorem dX3_hundredthsAt_24 : decode cX3_hundredthsAt 24 = .ok (.iconst 0, 1) := by decide +kernel
theorem dX3_hundredthsAt_25 : decode cX3_hundredthsAt 25 = .ok (.ireturn, 1) := by decide +kernel
theorem dX3_isReady_0 : decode cX3_isReady 0 = .ok (.aload_n 0, 1) := by decide +kernel
theorem dX3_isReady_1 : decode cX3_isReady 1 = .ok (.iload_n 1, 1) := by decide +kernel
theorem dX3_isReady_2 : decode cX3_isReady 2 = .ok (.iload_n 2, 1) := by decide +kernel
theorem dX3_isReady_3 : decode cX3_isReady 3 = .ok (.invokevirtual 105, 3) := by decide +kernel
theorem dX3_isReady_6 : decode cX3_isReady 6 = .ok (.ifCond .eq 16, 3) := by decide +kernel
theorem dX3_isReady_9 : decode cX3_isReady 9 = .ok (.aload_n 0, 1) := by decide +kernel
theorem dX3_isReady_10 : decode cX3_isReady 10 = .ok (.iload_n 1, 1) := by decide +kernel
theorem dX3_isReady_11 : decode cX3_isReady 11 = .ok (.iload_n 2, 1) := by decide +kernel
theorem dX3_isReady_12 : decode cX3_isReady 12 = .ok (.invokevirtual 98, 3) := by decide +kernel
theorem dX3_isReady_15 : decode cX3_isReady 15 = .ok (.ifCond .ne 7, 3) := by decide +kernel
theorem dX3_isReady_18 : decode cX3_isReady 18 = .ok (.iconst 1, 1) := by decide +kernel
theorem dX3_isReady_19 : decode cX3_isReady 19 = .ok (.goto 4, 3) := by decide +kernel
theorem dX3_isReady_22 : decode cX3_isReady 22 = .ok (.iconst 0, 1) := by decide +kernel
theorem dX3_isReady_23 : decode cX3_isReady 23 = .ok (.ireturn, 1) := by decide +kernel
theorem dX3_reasonAt_0 : decode cX3_reasonAt 0 = .ok (.aload_n 0, 1) := by decide +kernel
theorem dX3_reasonAt_1 : decode cX3_reasonAt 1 = .ok (.iload_n 1, 1) := by decide +kernel
theorem dX3_reasonAt_2 : decode cX3_reasonAt 2 = .ok (.iload_n 2, 1) := by decide +kernel
theorem dX3_reasonAt_3 : decode cX3_reasonAt 3 = .ok (.invokevirtual 108, 3) := by decide +kernel
theorem dX3_reasonAt_6 : decode cX3_reasonAt 6 = .ok (.ifCond .ne 5, 3) := by decide +kernel
theorem dX3_reasonAt_9 : decode cX3_reasonAt 9 = .ok (.iconst 1, 1) := by decide +kernel
theorem dX3_reasonAt_10 : decode cX3_reasonAt 10 = .ok (.ireturn, 1) := by decide +kernel
theorem dX3_reasonAt_11 : decode cX3_reasonAt 11 = .ok (.aload_n 0, 1) := by decide +kernel
theorem dX3_reasonAt_12 : decode cX3_reasonAt 12 = .ok (.iload_n 1, 1) := by decide +kernel
theorem dX3_reasonAt_13 : decode cX3_reasonAt 13 = .ok (.iload_n 2, 1) := by decide +kernel
theorem dX3_reasonAt_14 : decode cX3_reasonAt 14 = .ok (.invokevirtual 98, 3) := by decide +kernel
theorem dX3_reasonAt_17 : decode cX3_reasonAt 17 = .ok (.ifCond .eq 5, 3) := by decide +kernel
theorem dX3_reasonAt_20 : decode cX3_reasonAt 20 = .ok (.iconst 2, 1) := by decide +kernel
theorem dX3_reasonAt_21 : decode cX3_reasonAt 21 = .ok (.ireturn, 1) := by decide +kernel
theorem dX3_reasonAt_22 : decode cX3_reasonAt 22 = .ok (.aload_n 0, 1) := by decide +kernel
theorem dX3_reasonAt_23 : decode cX3_reasonAt 23 = .ok (.iload_n 1, 1) := by decide +kernel
theorem dX3_reasonAt_24 : decode cX3_reasonAt 24 = .ok (.iload_n 2, 1) := by decide +kernel
theorem dX3_reasonAt_25 : decode cX3_reasonAt 25 = .ok (.invokevirtual 105, 3) := by decide +kernel
theorem dX3_reasonAt_28 : decode cX3_reasonAt 28 = .ok (.ifCond .ne 5, 3) := by decide +kernel
theorem dX3_reasonAt_31 : decode cX3_reasonAt 31 = .ok (.iconst 3, 1) := by decide +kernel
theorem dX3_reasonAt_32 : decode cX3_reasonAt 32 = .ok (.ireturn, 1) := by decide +kernel
theorem dX3_reasonAt_33 : decode cX3_reasonAt 33 = .ok (.aload_n 0, 1) := by decide +kernel
theorem dX3_reasonAt_34 : decode cX3_reasonAt 34 = .ok (.aload_n 0, 1) := by decide +kernel
theorem dX3_reasonAt_35 : decode cX3_reasonAt 35 = .ok (.iload_n 1, 1) := by decide +kernel
theorem dX3_reasonAt_36 : decode cX3_reasonAt 36 = .ok (.invokevirtual 77, 3) := by decide +kernel
theorem dX3_reasonAt_39 : decode cX3_reasonAt 39 = .ok (.iload_n 2, 1) := by decide +kernel
theorem dX3_reasonAt_40 : decode cX3_reasonAt 40 = .ok (.invokevirtual 111, 3) := by decide +kernel
theorem dX3_reasonAt_43 : decode cX3_reasonAt 43 = .ok (.aload_n 0, 1) := by decide +kernel
theorem dX3_reasonAt_44 : decode cX3_reasonAt 44 = .ok (.iload_n 1, 1) := by decide +kernel
theorem dX3_reasonAt_45 : decode cX3_reasonAt 45 = .ok (.iload_n 2, 1) := by decide +kernel
theorem dX3_reasonAt_46 : decode cX3_reasonAt 46 = .ok (.invokevirtual 85, 3) := by decide +kernel
theorem dX3_reasonAt_49 : decode cX3_reasonAt 49 = .ok (.if_icmp .ge 7, 3) := by decide +kernel
theorem dX3_reasonAt_52 : decode cX3_reasonAt 52 = .ok (.iconst 1, 1) := by decide +kernel
theorem dX3_reasonAt_53 : decode cX3_reasonAt 53 = .ok (.goto 4, 3) := by decide +kernel
theorem dX3_reasonAt_56 : decode cX3_reasonAt 56 = .ok (.iconst 0, 1) := by decide +kernel
theorem dX3_reasonAt_57 : decode cX3_reasonAt 57 = .ok (.istore_n 3, 1) := by decide +kernel
theorem dX3_reasonAt_58 : decode cX3_reasonAt 58 = .ok (.iload_n 3, 1) := by decide +kernel
theorem dX3_reasonAt_59 : decode cX3_reasonAt 59 = .ok (.ifCond .eq 7, 3) := by decide +kernel
theorem dX3_reasonAt_62 : decode cX3_reasonAt 62 = .ok (.iconst 4, 1) := by decide +kernel
theorem dX3_reasonAt_63 : decode cX3_reasonAt 63 = .ok (.goto 4, 3) := by decide +kernel
theorem dX3_reasonAt_66 : decode cX3_reasonAt 66 = .ok (.iconst 0, 1) := by decide +kernel
theorem dX3_reasonAt_67 : decode cX3_reasonAt 67 = .ok (.ireturn, 1) := by decide +kernel
theorem dX3_canAnnex_0 : decode cX3_canAnnex 0 = .ok (.aload_n 0, 1) := by decide +kernel
theorem dX3_canAnnex_1 : decode cX3_canAnnex 1 = .ok (.iload_n 1, 1) := by decide +kernel
theorem dX3_canAnnex_2 : decode cX3_canAnnex 2 = .ok (.iload_n 2, 1) := by decide +kernel
theorem dX3_canAnnex_3 : decode cX3_canAnnex 3 = .ok (.invokevirtual 108, 3) := by decide +kernel
theorem dX3_canAnnex_6 : decode cX3_canAnnex 6 = .ok (.ifCond .eq 40, 3) := by decide +kernel
theorem dX3_canAnnex_9 : decode cX3_canAnnex 9 = .ok (.aload_n 0, 1) := by decide +kernel
theorem dX3_canAnnex_10 : decode cX3_canAnnex 10 = .ok (.iload_n 1, 1) := by decide +kernel
theorem dX3_canAnnex_11 : decode cX3_canAnnex 11 = .ok (.iload_n 2, 1) := by decide +kernel
theorem dX3_canAnnex_12 : decode cX3_canAnnex 12 = .ok (.invokevirtual 98, 3) := by decide +kernel
theorem dX3_canAnnex_15 : decode cX3_canAnnex 15 = .ok (.ifCond .ne 31, 3) := by decide +kernel
theorem dX3_canAnnex_18 : decode cX3_canAnnex 18 = .ok (.aload_n 0, 1) := by decide +kernel
theorem dX3_canAnnex_19 : decode cX3_canAnnex 19 = .ok (.iload_n 1, 1) := by decide +kernel
theorem dX3_canAnnex_20 : decode cX3_canAnnex 20 = .ok (.iload_n 2, 1) := by decide +kernel
theorem dX3_canAnnex_21 : decode cX3_canAnnex 21 = .ok (.invokevirtual 95, 3) := by decide +kernel
theorem dX3_canAnnex_24 : decode cX3_canAnnex 24 = .ok (.iload_n 3, 1) := by decide +kernel
theorem dX3_canAnnex_25 : decode cX3_canAnnex 25 = .ok (.isub, 1) := by decide +kernel
theorem dX3_canAnnex_26 : decode cX3_canAnnex 26 = .ok (.iconst 1, 1) := by decide +kernel
theorem dX3_canAnnex_27 : decode cX3_canAnnex 27 = .ok (.if_icmp .lt 19, 3) := by decide +kernel
theorem dX3_canAnnex_30 : decode cX3_canAnnex 30 = .ok (.aload_n 0, 1) := by decide +kernel
theorem dX3_canAnnex_31 : decode cX3_canAnnex 31 = .ok (.iload_n 2, 1) := by decide +kernel
theorem dX3_canAnnex_32 : decode cX3_canAnnex 32 = .ok (.invokevirtual 114, 3) := by decide +kernel
theorem dX3_canAnnex_35 : decode cX3_canAnnex 35 = .ok (.iload_n 3, 1) := by decide +kernel
theorem dX3_canAnnex_36 : decode cX3_canAnnex 36 = .ok (.iadd, 1) := by decide +kernel
theorem dX3_canAnnex_37 : decode cX3_canAnnex 37 = .ok (.bipush 99, 2) := by decide +kernel
theorem dX3_canAnnex_39 : decode cX3_canAnnex 39 = .ok (.if_icmp .gt 7, 3) := by decide +kernel
theorem dX3_canAnnex_42 : decode cX3_canAnnex 42 = .ok (.iconst 1, 1) := by decide +kernel
theorem dX3_canAnnex_43 : decode cX3_canAnnex 43 = .ok (.goto 4, 3) := by decide +kernel
theorem dX3_canAnnex_46 : decode cX3_canAnnex 46 = .ok (.iconst 0, 1) := by decide +kernel
theorem dX3_canAnnex_47 : decode cX3_canAnnex 47 = .ok (.ireturn, 1) := by decide +kernel
theorem dX3_leastAnnexAt_0 : decode cX3_leastAnnexAt 0 = .ok (.iconst 0, 1) := by decide +kernel
theorem dX3_leastAnnexAt_1 : decode cX3_leastAnnexAt 1 = .ok (.aload_n 0, 1) := by decide +kernel
theorem dX3_leastAnnexAt_2 : decode cX3_leastAnnexAt 2 = .ok (.iload_n 1, 1) := by decide +kernel
theorem dX3_leastAnnexAt_3 : decode cX3_leastAnnexAt 3 = .ok (.iload_n 2, 1) := by decide +kernel
theorem dX3_leastAnnexAt_4 : decode cX3_leastAnnexAt 4 = .ok (.invokevirtual 117, 3) := by decide +kernel
theorem dX3_leastAnnexAt_7 : decode cX3_leastAnnexAt 7 = .ok (.ineg, 1) := by decide +kernel
theorem dX3_leastAnnexAt_8 : decode cX3_leastAnnexAt 8 = .ok (.invokestatic 120, 3) := by decide +kernel
theorem dX3_leastAnnexAt_11 : decode cX3_leastAnnexAt 11 = .ok (.istore_n 3, 1) := by decide +kernel
theorem dX3_leastAnnexAt_12 : decode cX3_leastAnnexAt 12 = .ok (.aload_n 0, 1) := by decide +kernel
theorem dX3_leastAnnexAt_13 : decode cX3_leastAnnexAt 13 = .ok (.iload_n 1, 1) := by decide +kernel
theorem dX3_leastAnnexAt_14 : decode cX3_leastAnnexAt 14 = .ok (.iload_n 2, 1) := by decide +kernel
theorem dX3_leastAnnexAt_15 : decode cX3_leastAnnexAt 15 = .ok (.invokevirtual 95, 3) := by decide +kernel
theorem dX3_leastAnnexAt_18 : decode cX3_leastAnnexAt 18 = .ok (.iload_n 3, 1) := by decide +kernel
theorem dX3_leastAnnexAt_19 : decode cX3_leastAnnexAt 19 = .ok (.isub, 1) := by decide +kernel
theorem dX3_leastAnnexAt_20 : decode cX3_leastAnnexAt 20 = .ok (.iconst 1, 1) := by decide +kernel
theorem dX3_leastAnnexAt_21 : decode cX3_leastAnnexAt 21 = .ok (.if_icmp .lt 7, 3) := by decide +kernel
theorem dX3_leastAnnexAt_24 : decode cX3_leastAnnexAt 24 = .ok (.iload_n 3, 1) := by decide +kernel
theorem dX3_leastAnnexAt_25 : decode cX3_leastAnnexAt 25 = .ok (.goto 4, 3) := by decide +kernel
theorem dX3_leastAnnexAt_28 : decode cX3_leastAnnexAt 28 = .ok (.iconst (-1), 1) := by decide +kernel
theorem dX3_leastAnnexAt_29 : decode cX3_leastAnnexAt 29 = .ok (.ireturn, 1) := by decide +kernel
theorem dX3_longestSighAt_0 : decode cX3_longestSighAt 0 = .ok (.bipush 20, 2) := by decide +kernel
theorem dX3_longestSighAt_2 : decode cX3_longestSighAt 2 = .ok (.aload_n 0, 1) := by decide +kernel
theorem dX3_longestSighAt_3 : decode cX3_longestSighAt 3 = .ok (.iload_n 1, 1) := by decide +kernel
theorem dX3_longestSighAt_4 : decode cX3_longestSighAt 4 = .ok (.invokevirtual 102, 3) := by decide +kernel
theorem dX3_longestSighAt_7 : decode cX3_longestSighAt 7 = .ok (.invokestatic 125, 3) := by decide +kernel
theorem dX3_longestSighAt_10 : decode cX3_longestSighAt 10 = .ok (.istore_n 2, 1) := by decide +kernel
theorem dX3_longestSighAt_11 : decode cX3_longestSighAt 11 = .ok (.iconst 0, 1) := by decide +kernel
theorem dX3_longestSighAt_12 : decode cX3_longestSighAt 12 = .ok (.istore_n 3, 1) := by decide +kernel
theorem dX3_longestSighAt_13 : decode cX3_longestSighAt 13 = .ok (.iload_n 3, 1) := by decide +kernel
theorem dX3_longestSighAt_14 : decode cX3_longestSighAt 14 = .ok (.iconst 3, 1) := by decide +kernel
theorem dX3_longestSighAt_15 : decode cX3_longestSighAt 15 = .ok (.if_icmp .ge 26, 3) := by decide +kernel
theorem dX3_longestSighAt_18 : decode cX3_longestSighAt 18 = .ok (.iload_n 2, 1) := by decide +kernel
theorem dX3_longestSighAt_19 : decode cX3_longestSighAt 19 = .ok (.aload_n 0, 1) := by decide +kernel
theorem dX3_longestSighAt_20 : decode cX3_longestSighAt 20 = .ok (.iload_n 1, 1) := by decide +kernel
theorem dX3_longestSighAt_21 : decode cX3_longestSighAt 21 = .ok (.invokevirtual 102, 3) := by decide +kernel
theorem dX3_longestSighAt_24 : decode cX3_longestSighAt 24 = .ok (.aload_n 0, 1) := by decide +kernel
theorem dX3_longestSighAt_25 : decode cX3_longestSighAt 25 = .ok (.iload_n 1, 1) := by decide +kernel
theorem dX3_longestSighAt_26 : decode cX3_longestSighAt 26 = .ok (.iload_n 3, 1) := by decide +kernel
theorem dX3_longestSighAt_27 : decode cX3_longestSighAt 27 = .ok (.invokevirtual 95, 3) := by decide +kernel
theorem dX3_longestSighAt_30 : decode cX3_longestSighAt 30 = .ok (.isub, 1) := by decide +kernel
theorem dX3_longestSighAt_31 : decode cX3_longestSighAt 31 = .ok (.invokestatic 125, 3) := by decide +kernel
theorem dX3_longestSighAt_34 : decode cX3_longestSighAt 34 = .ok (.istore_n 2, 1) := by decide +kernel
theorem dX3_longestSighAt_35 : decode cX3_longestSighAt 35 = .ok (.iinc 3 1, 3) := by decide +kernel
theorem dX3_longestSighAt_38 : decode cX3_longestSighAt 38 = .ok (.goto (-25), 3) := by decide +kernel
theorem dX3_longestSighAt_41 : decode cX3_longestSighAt 41 = .ok (.iload_n 2, 1) := by decide +kernel
theorem dX3_longestSighAt_42 : decode cX3_longestSighAt 42 = .ok (.ifCond .lt 7, 3) := by decide +kernel
theorem dX3_longestSighAt_45 : decode cX3_longestSighAt 45 = .ok (.iload_n 2, 1) := by decide +kernel
theorem dX3_longestSighAt_46 : decode cX3_longestSighAt 46 = .ok (.goto 4, 3) := by decide +kernel
theorem dX3_longestSighAt_49 : decode cX3_longestSighAt 49 = .ok (.iconst (-1), 1) := by decide +kernel
theorem dX3_longestSighAt_50 : decode cX3_longestSighAt 50 = .ok (.ireturn, 1) := by decide +kernel
theorem dX3_staminaAt_0 : decode cX3_staminaAt 0 = .ok (.aload_n 0, 1) := by decide +kernel
theorem dX3_staminaAt_1 : decode cX3_staminaAt 1 = .ok (.getfield 33, 3) := by decide +kernel
theorem dX3_staminaAt_4 : decode cX3_staminaAt 4 = .ok (.iload_n 1, 1) := by decide +kernel
theorem dX3_staminaAt_5 : decode cX3_staminaAt 5 = .ok (.iload_n 2, 1) := by decide +kernel
theorem dX3_staminaAt_6 : decode cX3_staminaAt 6 = .ok (.invokestatic 73, 3) := by decide +kernel
theorem dX3_staminaAt_9 : decode cX3_staminaAt 9 = .ok (.invokestatic 81, 3) := by decide +kernel
theorem dX3_staminaAt_12 : decode cX3_staminaAt 12 = .ok (.ireturn, 1) := by decide +kernel
theorem dX3_usedBy_0 : decode cX3_usedBy 0 = .ok (.aload_n 0, 1) := by decide +kernel
theorem dX3_usedBy_1 : decode cX3_usedBy 1 = .ok (.getfield 36, 3) := by decide +kernel
theorem dX3_usedBy_4 : decode cX3_usedBy 4 = .ok (.iload_n 1, 1) := by decide +kernel
theorem dX3_usedBy_5 : decode cX3_usedBy 5 = .ok (.iload_n 2, 1) := by decide +kernel
theorem dX3_usedBy_6 : decode cX3_usedBy 6 = .ok (.invokestatic 73, 3) := by decide +kernel
theorem dX3_usedBy_9 : decode cX3_usedBy 9 = .ok (.invokestatic 81, 3) := by decide +kernel
theorem dX3_usedBy_12 : decode cX3_usedBy 12 = .ok (.ireturn, 1) := by decide +kernel
theorem dX3_strengthAt_0 : decode cX3_strengthAt 0 = .ok (.aload_n 0, 1) := by decide +kernel
theorem dX3_strengthAt_1 : decode cX3_strengthAt 1 = .ok (.iload_n 1, 1) := by decide +kernel
theorem dX3_strengthAt_2 : decode cX3_strengthAt 2 = .ok (.iload_n 2, 1) := by decide +kernel
theorem dX3_strengthAt_3 : decode cX3_strengthAt 3 = .ok (.invokevirtual 128, 3) := by decide +kernel
theorem dX3_strengthAt_6 : decode cX3_strengthAt 6 = .ok (.aload_n 0, 1) := by decide +kernel
theorem dX3_strengthAt_7 : decode cX3_strengthAt 7 = .ok (.iload_n 1, 1) := by decide +kernel
theorem dX3_strengthAt_8 : decode cX3_strengthAt 8 = .ok (.iload_n 2, 1) := by decide +kernel
theorem dX3_strengthAt_9 : decode cX3_strengthAt 9 = .ok (.invokevirtual 131, 3) := by decide +kernel
theorem dX3_strengthAt_12 : decode cX3_strengthAt 12 = .ok (.isub, 1) := by decide +kernel
theorem dX3_strengthAt_13 : decode cX3_strengthAt 13 = .ok (.ireturn, 1) := by decide +kernel
theorem dX3_takenFramesOf_0 : decode cX3_takenFramesOf 0 = .ok (.iconst 0, 1) := by decide +kernel
theorem dX3_takenFramesOf_1 : decode cX3_takenFramesOf 1 = .ok (.istore_n 3, 1) := by decide +kernel
theorem dX3_takenFramesOf_2 : decode cX3_takenFramesOf 2 = .ok (.iconst 0, 1) := by decide +kernel
theorem dX3_takenFramesOf_3 : decode cX3_takenFramesOf 3 = .ok (.istore 4, 2) := by decide +kernel
theorem dX3_takenFramesOf_5 : decode cX3_takenFramesOf 5 = .ok (.iload 4, 2) := by decide +kernel
theorem dX3_takenFramesOf_7 : decode cX3_takenFramesOf 7 = .ok (.aload_n 0, 1) := by decide +kernel
theorem dX3_takenFramesOf_8 : decode cX3_takenFramesOf 8 = .ok (.getfield 45, 3) := by decide +kernel
theorem dX3_takenFramesOf_11 : decode cX3_takenFramesOf 11 = .ok (.if_icmp .ge 39, 3) := by decide +kernel
theorem dX3_takenFramesOf_14 : decode cX3_takenFramesOf 14 = .ok (.aload_n 0, 1) := by decide +kernel
theorem dX3_takenFramesOf_15 : decode cX3_takenFramesOf 15 = .ok (.iload 4, 2) := by decide +kernel
theorem dX3_takenFramesOf_17 : decode cX3_takenFramesOf 17 = .ok (.invokevirtual 77, 3) := by decide +kernel
theorem dX3_takenFramesOf_20 : decode cX3_takenFramesOf 20 = .ok (.iload_n 1, 1) := by decide +kernel
theorem dX3_takenFramesOf_21 : decode cX3_takenFramesOf 21 = .ok (.if_icmp .ne 23, 3) := by decide +kernel
theorem dX3_takenFramesOf_24 : decode cX3_takenFramesOf 24 = .ok (.aload_n 0, 1) := by decide +kernel
theorem dX3_takenFramesOf_25 : decode cX3_takenFramesOf 25 = .ok (.iload 4, 2) := by decide +kernel
theorem dX3_takenFramesOf_27 : decode cX3_takenFramesOf 27 = .ok (.iload_n 2, 1) := by decide +kernel
theorem dX3_takenFramesOf_28 : decode cX3_takenFramesOf 28 = .ok (.invokevirtual 98, 3) := by decide +kernel
theorem dX3_takenFramesOf_31 : decode cX3_takenFramesOf 31 = .ok (.ifCond .eq 13, 3) := by decide +kernel
theorem dX3_takenFramesOf_34 : decode cX3_takenFramesOf 34 = .ok (.iload_n 3, 1) := by decide +kernel
theorem dX3_takenFramesOf_35 : decode cX3_takenFramesOf 35 = .ok (.aload_n 0, 1) := by decide +kernel
theorem dX3_takenFramesOf_36 : decode cX3_takenFramesOf 36 = .ok (.iload 4, 2) := by decide +kernel
theorem dX3_takenFramesOf_38 : decode cX3_takenFramesOf 38 = .ok (.iload_n 2, 1) := by decide +kernel
theorem dX3_takenFramesOf_39 : decode cX3_takenFramesOf 39 = .ok (.invokevirtual 85, 3) := by decide +kernel
theorem dX3_takenFramesOf_42 : decode cX3_takenFramesOf 42 = .ok (.iadd, 1) := by decide +kernel
theorem dX3_takenFramesOf_43 : decode cX3_takenFramesOf 43 = .ok (.istore_n 3, 1) := by decide +kernel
theorem dX3_takenFramesOf_44 : decode cX3_takenFramesOf 44 = .ok (.iinc 4 1, 3) := by decide +kernel
theorem dX3_takenFramesOf_47 : decode cX3_takenFramesOf 47 = .ok (.goto (-42), 3) := by decide +kernel
theorem dX3_takenFramesOf_50 : decode cX3_takenFramesOf 50 = .ok (.iload_n 3, 1) := by decide +kernel
theorem dX3_takenFramesOf_51 : decode cX3_takenFramesOf 51 = .ok (.ireturn, 1) := by decide +kernel
theorem dX3_readyOfVoice_0 : decode cX3_readyOfVoice 0 = .ok (.iconst 0, 1) := by decide +kernel
theorem dX3_readyOfVoice_1 : decode cX3_readyOfVoice 1 = .ok (.istore_n 3, 1) := by decide +kernel
theorem dX3_readyOfVoice_2 : decode cX3_readyOfVoice 2 = .ok (.iconst 0, 1) := by decide +kernel
theorem dX3_readyOfVoice_3 : decode cX3_readyOfVoice 3 = .ok (.istore 4, 2) := by decide +kernel
theorem dX3_readyOfVoice_5 : decode cX3_readyOfVoice 5 = .ok (.iload 4, 2) := by decide +kernel
theorem dX3_readyOfVoice_7 : decode cX3_readyOfVoice 7 = .ok (.aload_n 0, 1) := by decide +kernel
theorem dX3_readyOfVoice_8 : decode cX3_readyOfVoice 8 = .ok (.getfield 45, 3) := by decide +kernel
theorem dX3_readyOfVoice_11 : decode cX3_readyOfVoice 11 = .ok (.if_icmp .ge 39, 3) := by decide +kernel
theorem dX3_readyOfVoice_14 : decode cX3_readyOfVoice 14 = .ok (.aload_n 0, 1) := by decide +kernel
theorem dX3_readyOfVoice_15 : decode cX3_readyOfVoice 15 = .ok (.iload 4, 2) := by decide +kernel
theorem dX3_readyOfVoice_17 : decode cX3_readyOfVoice 17 = .ok (.invokevirtual 77, 3) := by decide +kernel
theorem dX3_readyOfVoice_20 : decode cX3_readyOfVoice 20 = .ok (.iload_n 1, 1) := by decide +kernel
theorem dX3_readyOfVoice_21 : decode cX3_readyOfVoice 21 = .ok (.if_icmp .ne 23, 3) := by decide +kernel
theorem dX3_readyOfVoice_24 : decode cX3_readyOfVoice 24 = .ok (.aload_n 0, 1) := by decide +kernel
theorem dX3_readyOfVoice_25 : decode cX3_readyOfVoice 25 = .ok (.iload 4, 2) := by decide +kernel
theorem dX3_readyOfVoice_27 : decode cX3_readyOfVoice 27 = .ok (.iload_n 2, 1) := by decide +kernel
theorem dX3_readyOfVoice_28 : decode cX3_readyOfVoice 28 = .ok (.invokevirtual 134, 3) := by decide +kernel
theorem dX3_readyOfVoice_31 : decode cX3_readyOfVoice 31 = .ok (.ifCond .eq 13, 3) := by decide +kernel
theorem dX3_readyOfVoice_34 : decode cX3_readyOfVoice 34 = .ok (.iload_n 3, 1) := by decide +kernel
theorem dX3_readyOfVoice_35 : decode cX3_readyOfVoice 35 = .ok (.aload_n 0, 1) := by decide +kernel
theorem dX3_readyOfVoice_36 : decode cX3_readyOfVoice 36 = .ok (.iload 4, 2) := by decide +kernel
theorem dX3_readyOfVoice_38 : decode cX3_readyOfVoice 38 = .ok (.iload_n 2, 1) := by decide +kernel
theorem dX3_readyOfVoice_39 : decode cX3_readyOfVoice 39 = .ok (.invokevirtual 85, 3) := by decide +kernel
theorem dX3_readyOfVoice_42 : decode cX3_readyOfVoice 42 = .ok (.iadd, 1) := by decide +kernel
theorem dX3_readyOfVoice_43 : decode cX3_readyOfVoice 43 = .ok (.istore_n 3, 1) := by decide +kernel
theorem dX3_readyOfVoice_44 : decode cX3_readyOfVoice 44 = .ok (.iinc 4 1, 3) := by decide +kernel
theorem dX3_readyOfVoice_47 : decode cX3_readyOfVoice 47 = .ok (.goto (-42), 3) := by decide +kernel
theorem dX3_readyOfVoice_50 : decode cX3_readyOfVoice 50 = .ok (.iload_n 3, 1) := by decide +kernel
theorem dX3_readyOfVoice_51 : decode cX3_readyOfVoice 51 = .ok (.ireturn, 1) := by decide +kernel
theorem dX3_fillPlan_0 : decode cX3_fillPlan 0 = .ok (.aload_n 1, 1) := by decide +kernel
theorem dX3_fillPlan_1 : decode cX3_fillPlan 1 = .ok (.ifnonnull 4, 3) := by decide +kernel
theorem dX3_fillPlan_4 : decode cX3_fillPlan 4 = .ok (.return_, 1) := by decide +kernel
theorem dX3_fillPlan_5 : decode cX3_fillPlan 5 = .ok (.aload_n 1, 1) := by decide +kernel
theorem dX3_fillPlan_6 : decode cX3_fillPlan 6 = .ok (.aload_n 0, 1) := by decide +kernel
theorem dX3_fillPlan_7 : decode cX3_fillPlan 7 = .ok (.iload_n 2, 1) := by decide +kernel
theorem dX3_fillPlan_8 : decode cX3_fillPlan 8 = .ok (.iload_n 3, 1) := by decide +kernel
theorem dX3_fillPlan_9 : decode cX3_fillPlan 9 = .ok (.invokevirtual 111, 3) := by decide +kernel
theorem dX3_fillPlan_12 : decode cX3_fillPlan 12 = .ok (.aload_n 0, 1) := by decide +kernel
theorem dX3_fillPlan_13 : decode cX3_fillPlan 13 = .ok (.iload_n 2, 1) := by decide +kernel
theorem dX3_fillPlan_14 : decode cX3_fillPlan 14 = .ok (.iload_n 3, 1) := by decide +kernel
theorem dX3_fillPlan_15 : decode cX3_fillPlan 15 = .ok (.invokevirtual 128, 3) := by decide +kernel
theorem dX3_fillPlan_18 : decode cX3_fillPlan 18 = .ok (.invokevirtual 137, 3) := by decide +kernel
theorem dX3_fillPlan_21 : decode cX3_fillPlan 21 = .ok (.iconst 0, 1) := by decide +kernel
theorem dX3_fillPlan_22 : decode cX3_fillPlan 22 = .ok (.istore 4, 2) := by decide +kernel
theorem dX3_fillPlan_24 : decode cX3_fillPlan 24 = .ok (.iload 4, 2) := by decide +kernel
theorem dX3_fillPlan_26 : decode cX3_fillPlan 26 = .ok (.aload_n 0, 1) := by decide +kernel
theorem dX3_fillPlan_27 : decode cX3_fillPlan 27 = .ok (.getfield 45, 3) := by decide +kernel
theorem dX3_fillPlan_30 : decode cX3_fillPlan 30 = .ok (.if_icmp .ge 40, 3) := by decide +kernel
theorem dX3_fillPlan_33 : decode cX3_fillPlan 33 = .ok (.aload_n 0, 1) := by decide +kernel
theorem dX3_fillPlan_34 : decode cX3_fillPlan 34 = .ok (.iload 4, 2) := by decide +kernel
theorem dX3_fillPlan_36 : decode cX3_fillPlan 36 = .ok (.invokevirtual 77, 3) := by decide +kernel
theorem dX3_fillPlan_39 : decode cX3_fillPlan 39 = .ok (.iload_n 2, 1) := by decide +kernel
theorem dX3_fillPlan_40 : decode cX3_fillPlan 40 = .ok (.if_icmp .ne 24, 3) := by decide +kernel
theorem dX3_fillPlan_43 : decode cX3_fillPlan 43 = .ok (.aload_n 0, 1) := by decide +kernel
theorem dX3_fillPlan_44 : decode cX3_fillPlan 44 = .ok (.iload 4, 2) := by decide +kernel
theorem dX3_fillPlan_46 : decode cX3_fillPlan 46 = .ok (.iload_n 3, 1) := by decide +kernel
theorem dX3_fillPlan_47 : decode cX3_fillPlan 47 = .ok (.invokevirtual 134, 3) := by decide +kernel
theorem dX3_fillPlan_50 : decode cX3_fillPlan 50 = .ok (.ifCond .eq 14, 3) := by decide +kernel
theorem dX3_fillPlan_53 : decode cX3_fillPlan 53 = .ok (.aload_n 1, 1) := by decide +kernel
theorem dX3_fillPlan_54 : decode cX3_fillPlan 54 = .ok (.aload_n 0, 1) := by decide +kernel
theorem dX3_fillPlan_55 : decode cX3_fillPlan 55 = .ok (.iload 4, 2) := by decide +kernel
theorem dX3_fillPlan_57 : decode cX3_fillPlan 57 = .ok (.iload_n 3, 1) := by decide +kernel
theorem dX3_fillPlan_58 : decode cX3_fillPlan 58 = .ok (.invokevirtual 85, 3) := by decide +kernel
theorem dX3_fillPlan_61 : decode cX3_fillPlan 61 = .ok (.invokevirtual 142, 3) := by decide +kernel
theorem dX3_fillPlan_64 : decode cX3_fillPlan 64 = .ok (.iinc 4 1, 3) := by decide +kernel
theorem dX3_fillPlan_67 : decode cX3_fillPlan 67 = .ok (.goto (-43), 3) := by decide +kernel
theorem dX3_fillPlan_70 : decode cX3_fillPlan 70 = .ok (.return_, 1) := by decide +kernel
theorem dX3_mostLipsState_0 : decode cX3_mostLipsState 0 = .ok (.iconst 0, 1) := by decide +kernel
theorem dX3_mostLipsState_1 : decode cX3_mostLipsState 1 = .ok (.istore_n 1, 1) := by decide +kernel
theorem dX3_mostLipsState_2 : decode cX3_mostLipsState 2 = .ok (.iconst 1, 1) := by decide +kernel
theorem dX3_mostLipsState_3 : decode cX3_mostLipsState 3 = .ok (.istore_n 2, 1) := by decide +kernel
theorem dX3_mostLipsState_4 : decode cX3_mostLipsState 4 = .ok (.iload_n 2, 1) := by decide +kernel
theorem dX3_mostLipsState_5 : decode cX3_mostLipsState 5 = .ok (.iconst 5, 1) := by decide +kernel
theorem dX3_mostLipsState_6 : decode cX3_mostLipsState 6 = .ok (.if_icmp .ge 24, 3) := by decide +kernel
theorem dX3_mostLipsState_9 : decode cX3_mostLipsState 9 = .ok (.aload_n 0, 1) := by decide +kernel
theorem dX3_mostLipsState_10 : decode cX3_mostLipsState 10 = .ok (.iload_n 2, 1) := by decide +kernel
theorem dX3_mostLipsState_11 : decode cX3_mostLipsState 11 = .ok (.invokevirtual 145, 3) := by decide +kernel
theorem dX3_mostLipsState_14 : decode cX3_mostLipsState 14 = .ok (.aload_n 0, 1) := by decide +kernel
theorem dX3_mostLipsState_15 : decode cX3_mostLipsState 15 = .ok (.iload_n 1, 1) := by decide +kernel
theorem dX3_mostLipsState_16 : decode cX3_mostLipsState 16 = .ok (.invokevirtual 145, 3) := by decide +kernel
theorem dX3_mostLipsState_19 : decode cX3_mostLipsState 19 = .ok (.if_icmp .le 5, 3) := by decide +kernel
theorem dX3_mostLipsState_22 : decode cX3_mostLipsState 22 = .ok (.iload_n 2, 1) := by decide +kernel
theorem dX3_mostLipsState_23 : decode cX3_mostLipsState 23 = .ok (.istore_n 1, 1) := by decide +kernel
theorem dX3_mostLipsState_24 : decode cX3_mostLipsState 24 = .ok (.iinc 2 1, 3) := by decide +kernel
theorem dX3_mostLipsState_27 : decode cX3_mostLipsState 27 = .ok (.goto (-23), 3) := by decide +kernel
theorem dX3_mostLipsState_30 : decode cX3_mostLipsState 30 = .ok (.iload_n 1, 1) := by decide +kernel
theorem dX3_mostLipsState_31 : decode cX3_mostLipsState 31 = .ok (.ireturn, 1) := by decide +kernel
theorem dX3_lipsBy_0 : decode cX3_lipsBy 0 = .ok (.iconst 0, 1) := by decide +kernel
theorem dX3_lipsBy_1 : decode cX3_lipsBy 1 = .ok (.istore_n 2, 1) := by decide +kernel
theorem dX3_lipsBy_2 : decode cX3_lipsBy 2 = .ok (.iconst 0, 1) := by decide +kernel
theorem dX3_lipsBy_3 : decode cX3_lipsBy 3 = .ok (.istore_n 3, 1) := by decide +kernel
theorem dX3_lipsBy_4 : decode cX3_lipsBy 4 = .ok (.iload_n 3, 1) := by decide +kernel
theorem dX3_lipsBy_5 : decode cX3_lipsBy 5 = .ok (.aload_n 0, 1) := by decide +kernel
theorem dX3_lipsBy_6 : decode cX3_lipsBy 6 = .ok (.getfield 45, 3) := by decide +kernel
theorem dX3_lipsBy_9 : decode cX3_lipsBy 9 = .ok (.if_icmp .ge 26, 3) := by decide +kernel
theorem dX3_lipsBy_12 : decode cX3_lipsBy 12 = .ok (.aload_n 0, 1) := by decide +kernel
theorem dX3_lipsBy_13 : decode cX3_lipsBy 13 = .ok (.iload_n 3, 1) := by decide +kernel
theorem dX3_lipsBy_14 : decode cX3_lipsBy 14 = .ok (.invokevirtual 77, 3) := by decide +kernel
theorem dX3_lipsBy_17 : decode cX3_lipsBy 17 = .ok (.iload_n 1, 1) := by decide +kernel
theorem dX3_lipsBy_18 : decode cX3_lipsBy 18 = .ok (.if_icmp .ne 11, 3) := by decide +kernel
theorem dX3_lipsBy_21 : decode cX3_lipsBy 21 = .ok (.iload_n 2, 1) := by decide +kernel
theorem dX3_lipsBy_22 : decode cX3_lipsBy 22 = .ok (.aload_n 0, 1) := by decide +kernel
theorem dX3_lipsBy_23 : decode cX3_lipsBy 23 = .ok (.iload_n 3, 1) := by decide +kernel
theorem dX3_lipsBy_24 : decode cX3_lipsBy 24 = .ok (.invokevirtual 102, 3) := by decide +kernel
theorem dX3_lipsBy_27 : decode cX3_lipsBy 27 = .ok (.iadd, 1) := by decide +kernel
theorem dX3_lipsBy_28 : decode cX3_lipsBy 28 = .ok (.istore_n 2, 1) := by decide +kernel
theorem dX3_lipsBy_29 : decode cX3_lipsBy 29 = .ok (.iinc 3 1, 3) := by decide +kernel
theorem dX3_lipsBy_32 : decode cX3_lipsBy 32 = .ok (.goto (-28), 3) := by decide +kernel
theorem dX3_lipsBy_35 : decode cX3_lipsBy 35 = .ok (.iload_n 2, 1) := by decide +kernel
theorem dX3_lipsBy_36 : decode cX3_lipsBy 36 = .ok (.ireturn, 1) := by decide +kernel
theorem dX3_clausesOn_0 : decode cX3_clausesOn 0 = .ok (.iconst 0, 1) := by decide +kernel
theorem dX3_clausesOn_1 : decode cX3_clausesOn 1 = .ok (.istore_n 2, 1) := by decide +kernel
theorem dX3_clausesOn_2 : decode cX3_clausesOn 2 = .ok (.iconst 0, 1) := by decide +kernel
theorem dX3_clausesOn_3 : decode cX3_clausesOn 3 = .ok (.istore_n 3, 1) := by decide +kernel
theorem dX3_clausesOn_4 : decode cX3_clausesOn 4 = .ok (.iload_n 3, 1) := by decide +kernel
theorem dX3_clausesOn_5 : decode cX3_clausesOn 5 = .ok (.aload_n 0, 1) := by decide +kernel
theorem dX3_clausesOn_6 : decode cX3_clausesOn 6 = .ok (.getfield 45, 3) := by decide +kernel
theorem dX3_clausesOn_9 : decode cX3_clausesOn 9 = .ok (.if_icmp .ge 21, 3) := by decide +kernel
theorem dX3_clausesOn_12 : decode cX3_clausesOn 12 = .ok (.aload_n 0, 1) := by decide +kernel
theorem dX3_clausesOn_13 : decode cX3_clausesOn 13 = .ok (.iload_n 3, 1) := by decide +kernel
theorem dX3_clausesOn_14 : decode cX3_clausesOn 14 = .ok (.invokevirtual 88, 3) := by decide +kernel
theorem dX3_clausesOn_17 : decode cX3_clausesOn 17 = .ok (.iload_n 1, 1) := by decide +kernel
theorem dX3_clausesOn_18 : decode cX3_clausesOn 18 = .ok (.if_icmp .ne 6, 3) := by decide +kernel
theorem dX3_clausesOn_21 : decode cX3_clausesOn 21 = .ok (.iinc 2 1, 3) := by decide +kernel
theorem dX3_clausesOn_24 : decode cX3_clausesOn 24 = .ok (.iinc 3 1, 3) := by decide +kernel
theorem dX3_clausesOn_27 : decode cX3_clausesOn 27 = .ok (.goto (-23), 3) := by decide +kernel
theorem dX3_clausesOn_30 : decode cX3_clausesOn 30 = .ok (.iload_n 2, 1) := by decide +kernel
theorem dX3_clausesOn_31 : decode cX3_clausesOn 31 = .ok (.ireturn, 1) := by decide +kernel
theorem dX3_lipsOn_0 : decode cX3_lipsOn 0 = .ok (.iconst 0, 1) := by decide +kernel
theorem dX3_lipsOn_1 : decode cX3_lipsOn 1 = .ok (.istore_n 2, 1) := by decide +kernel
theorem dX3_lipsOn_2 : decode cX3_lipsOn 2 = .ok (.iconst 0, 1) := by decide +kernel
theorem dX3_lipsOn_3 : decode cX3_lipsOn 3 = .ok (.istore_n 3, 1) := by decide +kernel
theorem dX3_lipsOn_4 : decode cX3_lipsOn 4 = .ok (.iload_n 3, 1) := by decide +kernel
theorem dX3_lipsOn_5 : decode cX3_lipsOn 5 = .ok (.aload_n 0, 1) := by decide +kernel
theorem dX3_lipsOn_6 : decode cX3_lipsOn 6 = .ok (.getfield 45, 3) := by decide +kernel
theorem dX3_lipsOn_9 : decode cX3_lipsOn 9 = .ok (.if_icmp .ge 26, 3) := by decide +kernel
theorem dX3_lipsOn_12 : decode cX3_lipsOn 12 = .ok (.aload_n 0, 1) := by decide +kernel
theorem dX3_lipsOn_13 : decode cX3_lipsOn 13 = .ok (.iload_n 3, 1) := by decide +kernel
theorem dX3_lipsOn_14 : decode cX3_lipsOn 14 = .ok (.invokevirtual 88, 3) := by decide +kernel
theorem dX3_lipsOn_17 : decode cX3_lipsOn 17 = .ok (.iload_n 1, 1) := by decide +kernel
theorem dX3_lipsOn_18 : decode cX3_lipsOn 18 = .ok (.if_icmp .ne 11, 3) := by decide +kernel
theorem dX3_lipsOn_21 : decode cX3_lipsOn 21 = .ok (.iload_n 2, 1) := by decide +kernel
theorem dX3_lipsOn_22 : decode cX3_lipsOn 22 = .ok (.aload_n 0, 1) := by decide +kernel
theorem dX3_lipsOn_23 : decode cX3_lipsOn 23 = .ok (.iload_n 3, 1) := by decide +kernel
theorem dX3_lipsOn_24 : decode cX3_lipsOn 24 = .ok (.invokevirtual 102, 3) := by decide +kernel
theorem dX3_lipsOn_27 : decode cX3_lipsOn 27 = .ok (.iadd, 1) := by decide +kernel
theorem dX3_lipsOn_28 : decode cX3_lipsOn 28 = .ok (.istore_n 2, 1) := by decide +kernel
theorem dX3_lipsOn_29 : decode cX3_lipsOn 29 = .ok (.iinc 3 1, 3) := by decide +kernel
theorem dX3_lipsOn_32 : decode cX3_lipsOn 32 = .ok (.goto (-28), 3) := by decide +kernel
theorem dX3_lipsOn_35 : decode cX3_lipsOn 35 = .ok (.iload_n 2, 1) := by decide +kernel
theorem dX3_lipsOn_36 : decode cX3_lipsOn 36 = .ok (.ireturn, 1) := by decide +kernel
theorem dX3_silenceIn_0 : decode cX3_silenceIn 0 = .ok (.iconst 0, 1) := by decide +kernel
theorem dX3_silenceIn_1 : decode cX3_silenceIn 1 = .ok (.istore_n 3, 1) := by decide +kernel
theorem dX3_silenceIn_2 : decode cX3_silenceIn 2 = .ok (.iconst 0, 1) := by decide +kernel
theorem dX3_silenceIn_3 : decode cX3_silenceIn 3 = .ok (.istore 4, 2) := by decide +kernel
theorem dX3_silenceIn_5 : decode cX3_silenceIn 5 = .ok (.iload 4, 2) := by decide +kernel
theorem dX3_silenceIn_7 : decode cX3_silenceIn 7 = .ok (.aload_n 0, 1) := by decide +kernel
theorem dX3_silenceIn_8 : decode cX3_silenceIn 8 = .ok (.getfield 45, 3) := by decide +kernel
theorem dX3_silenceIn_11 : decode cX3_silenceIn 11 = .ok (.if_icmp .ge 29, 3) := by decide +kernel
theorem dX3_silenceIn_14 : decode cX3_silenceIn 14 = .ok (.aload_n 0, 1) := by decide +kernel
theorem dX3_silenceIn_15 : decode cX3_silenceIn 15 = .ok (.iload 4, 2) := by decide +kernel
theorem dX3_silenceIn_17 : decode cX3_silenceIn 17 = .ok (.invokevirtual 88, 3) := by decide +kernel
theorem dX3_silenceIn_20 : decode cX3_silenceIn 20 = .ok (.iload_n 1, 1) := by decide +kernel
theorem dX3_silenceIn_21 : decode cX3_silenceIn 21 = .ok (.if_icmp .ne 13, 3) := by decide +kernel
theorem dX3_silenceIn_24 : decode cX3_silenceIn 24 = .ok (.iload_n 3, 1) := by decide +kernel
theorem dX3_silenceIn_25 : decode cX3_silenceIn 25 = .ok (.aload_n 0, 1) := by decide +kernel
theorem dX3_silenceIn_26 : decode cX3_silenceIn 26 = .ok (.iload 4, 2) := by decide +kernel
theorem dX3_silenceIn_28 : decode cX3_silenceIn 28 = .ok (.iload_n 2, 1) := by decide +kernel
theorem dX3_silenceIn_29 : decode cX3_silenceIn 29 = .ok (.invokevirtual 117, 3) := by decide +kernel
theorem dX3_silenceIn_32 : decode cX3_silenceIn 32 = .ok (.iadd, 1) := by decide +kernel
theorem dX3_silenceIn_33 : decode cX3_silenceIn 33 = .ok (.istore_n 3, 1) := by decide +kernel
theorem dX3_silenceIn_34 : decode cX3_silenceIn 34 = .ok (.iinc 4 1, 3) := by decide +kernel
theorem dX3_silenceIn_37 : decode cX3_silenceIn 37 = .ok (.goto (-32), 3) := by decide +kernel
theorem dX3_silenceIn_40 : decode cX3_silenceIn 40 = .ok (.iload_n 3, 1) := by decide +kernel
theorem dX3_silenceIn_41 : decode cX3_silenceIn 41 = .ok (.ireturn, 1) := by decide +kernel
theorem dX3_isHeardIn_0 : decode cX3_isHeardIn 0 = .ok (.iconst 0, 1) := by decide +kernel
theorem dX3_isHeardIn_1 : decode cX3_isHeardIn 1 = .ok (.istore_n 3, 1) := by decide +kernel
theorem dX3_isHeardIn_2 : decode cX3_isHeardIn 2 = .ok (.iload_n 3, 1) := by decide +kernel
theorem dX3_isHeardIn_3 : decode cX3_isHeardIn 3 = .ok (.aload_n 0, 1) := by decide +kernel
theorem dX3_isHeardIn_4 : decode cX3_isHeardIn 4 = .ok (.getfield 45, 3) := by decide +kernel
theorem dX3_isHeardIn_7 : decode cX3_isHeardIn 7 = .ok (.if_icmp .ge 29, 3) := by decide +kernel
theorem dX3_isHeardIn_10 : decode cX3_isHeardIn 10 = .ok (.aload_n 0, 1) := by decide +kernel
theorem dX3_isHeardIn_11 : decode cX3_isHeardIn 11 = .ok (.iload_n 3, 1) := by decide +kernel
theorem dX3_isHeardIn_12 : decode cX3_isHeardIn 12 = .ok (.invokevirtual 88, 3) := by decide +kernel
theorem dX3_isHeardIn_15 : decode cX3_isHeardIn 15 = .ok (.iload_n 2, 1) := by decide +kernel
theorem dX3_isHeardIn_16 : decode cX3_isHeardIn 16 = .ok (.if_icmp .ne 14, 3) := by decide +kernel
theorem dX3_isHeardIn_19 : decode cX3_isHeardIn 19 = .ok (.aload_n 0, 1) := by decide +kernel
theorem dX3_isHeardIn_20 : decode cX3_isHeardIn 20 = .ok (.iload_n 3, 1) := by decide +kernel
theorem dX3_isHeardIn_21 : decode cX3_isHeardIn 21 = .ok (.invokevirtual 77, 3) := by decide +kernel
theorem dX3_isHeardIn_24 : decode cX3_isHeardIn 24 = .ok (.iload_n 1, 1) := by decide +kernel
theorem dX3_isHeardIn_25 : decode cX3_isHeardIn 25 = .ok (.if_icmp .ne 5, 3) := by decide +kernel
theorem dX3_isHeardIn_28 : decode cX3_isHeardIn 28 = .ok (.iconst 1, 1) := by decide +kernel
theorem dX3_isHeardIn_29 : decode cX3_isHeardIn 29 = .ok (.ireturn, 1) := by decide +kernel
theorem dX3_isHeardIn_30 : decode cX3_isHeardIn 30 = .ok (.iinc 3 1, 3) := by decide +kernel
theorem dX3_isHeardIn_33 : decode cX3_isHeardIn 33 = .ok (.goto (-31), 3) := by decide +kernel
theorem dX3_isHeardIn_36 : decode cX3_isHeardIn 36 = .ok (.iconst 0, 1) := by decide +kernel
theorem dX3_isHeardIn_37 : decode cX3_isHeardIn 37 = .ok (.ireturn, 1) := by decide +kernel
theorem dX3_isWholeReel_0 : decode cX3_isWholeReel 0 = .ok (.iconst 0, 1) := by decide +kernel
theorem dX3_isWholeReel_1 : decode cX3_isWholeReel 1 = .ok (.istore_n 3, 1) := by decide +kernel
theorem dX3_isWholeReel_2 : decode cX3_isWholeReel 2 = .ok (.iload_n 3, 1) := by decide +kernel
theorem dX3_isWholeReel_3 : decode cX3_isWholeReel 3 = .ok (.aload_n 0, 1) := by decide +kernel
theorem dX3_isWholeReel_4 : decode cX3_isWholeReel 4 = .ok (.getfield 45, 3) := by decide +kernel
theorem dX3_isWholeReel_7 : decode cX3_isWholeReel 7 = .ok (.if_icmp .ge 29, 3) := by decide +kernel
theorem dX3_isWholeReel_10 : decode cX3_isWholeReel 10 = .ok (.aload_n 0, 1) := by decide +kernel
theorem dX3_isWholeReel_11 : decode cX3_isWholeReel 11 = .ok (.iload_n 3, 1) := by decide +kernel
theorem dX3_isWholeReel_12 : decode cX3_isWholeReel 12 = .ok (.invokevirtual 88, 3) := by decide +kernel
theorem dX3_isWholeReel_15 : decode cX3_isWholeReel 15 = .ok (.iload_n 1, 1) := by decide +kernel
theorem dX3_isWholeReel_16 : decode cX3_isWholeReel 16 = .ok (.if_icmp .ne 14, 3) := by decide +kernel
theorem dX3_isWholeReel_19 : decode cX3_isWholeReel 19 = .ok (.aload_n 0, 1) := by decide +kernel
theorem dX3_isWholeReel_20 : decode cX3_isWholeReel 20 = .ok (.iload_n 3, 1) := by decide +kernel
theorem dX3_isWholeReel_21 : decode cX3_isWholeReel 21 = .ok (.iload_n 2, 1) := by decide +kernel
theorem dX3_isWholeReel_22 : decode cX3_isWholeReel 22 = .ok (.invokevirtual 98, 3) := by decide +kernel
theorem dX3_isWholeReel_25 : decode cX3_isWholeReel 25 = .ok (.ifCond .ne 5, 3) := by decide +kernel
theorem dX3_isWholeReel_28 : decode cX3_isWholeReel 28 = .ok (.iconst 0, 1) := by decide +kernel
theorem dX3_isWholeReel_29 : decode cX3_isWholeReel 29 = .ok (.ireturn, 1) := by decide +kernel
theorem dX3_isWholeReel_30 : decode cX3_isWholeReel 30 = .ok (.iinc 3 1, 3) := by decide +kernel
theorem dX3_isWholeReel_33 : decode cX3_isWholeReel 33 = .ok (.goto (-31), 3) := by decide +kernel
theorem dX3_isWholeReel_36 : decode cX3_isWholeReel 36 = .ok (.aload_n 0, 1) := by decide +kernel
theorem dX3_isWholeReel_37 : decode cX3_isWholeReel 37 = .ok (.iload_n 1, 1) := by decide +kernel
theorem dX3_isWholeReel_38 : decode cX3_isWholeReel 38 = .ok (.invokevirtual 148, 3) := by decide +kernel
theorem dX3_isWholeReel_41 : decode cX3_isWholeReel 41 = .ok (.ifCond .le 7, 3) := by decide +kernel
theorem dX3_isWholeReel_44 : decode cX3_isWholeReel 44 = .ok (.iconst 1, 1) := by decide +kernel
theorem dX3_isWholeReel_45 : decode cX3_isWholeReel 45 = .ok (.goto 4, 3) := by decide +kernel
theorem dX3_isWholeReel_48 : decode cX3_isWholeReel 48 = .ok (.iconst 0, 1) := by decide +kernel
theorem dX3_isWholeReel_49 : decode cX3_isWholeReel 49 = .ok (.ireturn, 1) := by decide +kernel
theorem dX3_hasMix_0 : decode cX3_hasMix 0 = .ok (.aload_n 0, 1) := by decide +kernel
theorem dX3_hasMix_1 : decode cX3_hasMix 1 = .ok (.getfield 39, 3) := by decide +kernel
theorem dX3_hasMix_4 : decode cX3_hasMix 4 = .ok (.iload_n 1, 1) := by decide +kernel
theorem dX3_hasMix_5 : decode cX3_hasMix 5 = .ok (.iload_n 2, 1) := by decide +kernel
theorem dX3_hasMix_6 : decode cX3_hasMix 6 = .ok (.invokestatic 73, 3) := by decide +kernel
theorem dX3_hasMix_9 : decode cX3_hasMix 9 = .ok (.invokestatic 81, 3) := by decide +kernel
theorem dX3_hasMix_12 : decode cX3_hasMix 12 = .ok (.iconst 1, 1) := by decide +kernel
theorem dX3_hasMix_13 : decode cX3_hasMix 13 = .ok (.if_icmp .ne 7, 3) := by decide +kernel
theorem dX3_hasMix_16 : decode cX3_hasMix 16 = .ok (.iconst 1, 1) := by decide +kernel
theorem dX3_hasMix_17 : decode cX3_hasMix 17 = .ok (.goto 4, 3) := by decide +kernel
theorem dX3_hasMix_20 : decode cX3_hasMix 20 = .ok (.iconst 0, 1) := by decide +kernel
theorem dX3_hasMix_21 : decode cX3_hasMix 21 = .ok (.ireturn, 1) := by decide +kernel
theorem dX3_hasSignature_0 : decode cX3_hasSignature 0 = .ok (.aload_n 0, 1) := by decide +kernel
theorem dX3_hasSignature_1 : decode cX3_hasSignature 1 = .ok (.getfield 42, 3) := by decide +kernel
theorem dX3_hasSignature_4 : decode cX3_hasSignature 4 = .ok (.iload_n 2, 1) := by decide +kernel
theorem dX3_hasSignature_5 : decode cX3_hasSignature 5 = .ok (.iload_n 3, 1) := by decide +kernel
theorem dX3_hasSignature_6 : decode cX3_hasSignature 6 = .ok (.invokestatic 73, 3) := by decide +kernel
theorem dX3_hasSignature_9 : decode cX3_hasSignature 9 = .ok (.invokestatic 81, 3) := by decide +kernel
theorem dX3_hasSignature_12 : decode cX3_hasSignature 12 = .ok (.iload_n 1, 1) := by decide +kernel
theorem dX3_hasSignature_13 : decode cX3_hasSignature 13 = .ok (.ishr, 1) := by decide +kernel
theorem dX3_hasSignature_14 : decode cX3_hasSignature 14 = .ok (.iconst 1, 1) := by decide +kernel
theorem dX3_hasSignature_15 : decode cX3_hasSignature 15 = .ok (.iand, 1) := by decide +kernel
theorem dX3_hasSignature_16 : decode cX3_hasSignature 16 = .ok (.iconst 1, 1) := by decide +kernel
theorem dX3_hasSignature_17 : decode cX3_hasSignature 17 = .ok (.if_icmp .ne 7, 3) := by decide +kernel
theorem dX3_hasSignature_20 : decode cX3_hasSignature 20 = .ok (.iconst 1, 1) := by decide +kernel
theorem dX3_hasSignature_21 : decode cX3_hasSignature 21 = .ok (.goto 4, 3) := by decide +kernel
theorem dX3_hasSignature_24 : decode cX3_hasSignature 24 = .ok (.iconst 0, 1) := by decide +kernel
theorem dX3_hasSignature_25 : decode cX3_hasSignature 25 = .ok (.ireturn, 1) := by decide +kernel
theorem dX3_signaturesAt_0 : decode cX3_signaturesAt 0 = .ok (.aload_n 0, 1) := by decide +kernel
theorem dX3_signaturesAt_1 : decode cX3_signaturesAt 1 = .ok (.getfield 42, 3) := by decide +kernel
theorem dX3_signaturesAt_4 : decode cX3_signaturesAt 4 = .ok (.iload_n 1, 1) := by decide +kernel
theorem dX3_signaturesAt_5 : decode cX3_signaturesAt 5 = .ok (.iload_n 2, 1) := by decide +kernel
theorem dX3_signaturesAt_6 : decode cX3_signaturesAt 6 = .ok (.invokestatic 73, 3) := by decide +kernel
theorem dX3_signaturesAt_9 : decode cX3_signaturesAt 9 = .ok (.invokestatic 81, 3) := by decide +kernel
theorem dX3_signaturesAt_12 : decode cX3_signaturesAt 12 = .ok (.invokestatic 151, 3) := by decide +kernel
theorem dX3_signaturesAt_15 : decode cX3_signaturesAt 15 = .ok (.ireturn, 1) := by decide +kernel
theorem dX3_signaturesMissing_0 : decode cX3_signaturesMissing 0 = .ok (.iconst 0, 1) := by decide +kernel
theorem dX3_signaturesMissing_1 : decode cX3_signaturesMissing 1 = .ok (.istore_n 3, 1) := by decide +kernel
theorem dX3_signaturesMissing_2 : decode cX3_signaturesMissing 2 = .ok (.iconst 0, 1) := by decide +kernel
theorem dX3_signaturesMissing_3 : decode cX3_signaturesMissing 3 = .ok (.istore 4, 2) := by decide +kernel
theorem dX3_signaturesMissing_5 : decode cX3_signaturesMissing 5 = .ok (.iload 4, 2) := by decide +kernel
theorem dX3_signaturesMissing_7 : decode cX3_signaturesMissing 7 = .ok (.iconst 5, 1) := by decide +kernel
theorem dX3_signaturesMissing_8 : decode cX3_signaturesMissing 8 = .ok (.if_icmp .ge 33, 3) := by decide +kernel
theorem dX3_signaturesMissing_11 : decode cX3_signaturesMissing 11 = .ok (.aload_n 0, 1) := by decide +kernel
theorem dX3_signaturesMissing_12 : decode cX3_signaturesMissing 12 = .ok (.iload 4, 2) := by decide +kernel
theorem dX3_signaturesMissing_14 : decode cX3_signaturesMissing 14 = .ok (.iload_n 1, 1) := by decide +kernel
theorem dX3_signaturesMissing_15 : decode cX3_signaturesMissing 15 = .ok (.invokevirtual 156, 3) := by decide +kernel
theorem dX3_signaturesMissing_18 : decode cX3_signaturesMissing 18 = .ok (.ifCond .eq 17, 3) := by decide +kernel
theorem dX3_signaturesMissing_21 : decode cX3_signaturesMissing 21 = .ok (.aload_n 0, 1) := by decide +kernel
theorem dX3_signaturesMissing_22 : decode cX3_signaturesMissing 22 = .ok (.iload 4, 2) := by decide +kernel
theorem dX3_signaturesMissing_24 : decode cX3_signaturesMissing 24 = .ok (.iload_n 1, 1) := by decide +kernel
theorem dX3_signaturesMissing_25 : decode cX3_signaturesMissing 25 = .ok (.iload_n 2, 1) := by decide +kernel
theorem dX3_signaturesMissing_26 : decode cX3_signaturesMissing 26 = .ok (.invokevirtual 159, 3) := by decide +kernel
theorem dX3_signaturesMissing_29 : decode cX3_signaturesMissing 29 = .ok (.ifCond .ne 6, 3) := by decide +kernel
theorem dX3_signaturesMissing_32 : decode cX3_signaturesMissing 32 = .ok (.iinc 3 1, 3) := by decide +kernel
theorem dX3_signaturesMissing_35 : decode cX3_signaturesMissing 35 = .ok (.iinc 4 1, 3) := by decide +kernel
theorem dX3_signaturesMissing_38 : decode cX3_signaturesMissing 38 = .ok (.goto (-33), 3) := by decide +kernel
theorem dX3_signaturesMissing_41 : decode cX3_signaturesMissing 41 = .ok (.iload_n 3, 1) := by decide +kernel
theorem dX3_signaturesMissing_42 : decode cX3_signaturesMissing 42 = .ok (.ireturn, 1) := by decide +kernel
theorem dX3_annexTotal_0 : decode cX3_annexTotal 0 = .ok (.iconst 0, 1) := by decide +kernel
theorem dX3_annexTotal_1 : decode cX3_annexTotal 1 = .ok (.istore_n 2, 1) := by decide +kernel
theorem dX3_annexTotal_2 : decode cX3_annexTotal 2 = .ok (.iconst 0, 1) := by decide +kernel
theorem dX3_annexTotal_3 : decode cX3_annexTotal 3 = .ok (.istore_n 3, 1) := by decide +kernel
theorem dX3_annexTotal_4 : decode cX3_annexTotal 4 = .ok (.iload_n 3, 1) := by decide +kernel
theorem dX3_annexTotal_5 : decode cX3_annexTotal 5 = .ok (.aload_n 0, 1) := by decide +kernel
theorem dX3_annexTotal_6 : decode cX3_annexTotal 6 = .ok (.getfield 45, 3) := by decide +kernel
theorem dX3_annexTotal_9 : decode cX3_annexTotal 9 = .ok (.if_icmp .ge 18, 3) := by decide +kernel
theorem dX3_annexTotal_12 : decode cX3_annexTotal 12 = .ok (.iload_n 2, 1) := by decide +kernel
theorem dX3_annexTotal_13 : decode cX3_annexTotal 13 = .ok (.aload_n 0, 1) := by decide +kernel
theorem dX3_annexTotal_14 : decode cX3_annexTotal 14 = .ok (.iload_n 3, 1) := by decide +kernel
theorem dX3_annexTotal_15 : decode cX3_annexTotal 15 = .ok (.iload_n 1, 1) := by decide +kernel
theorem dX3_annexTotal_16 : decode cX3_annexTotal 16 = .ok (.invokevirtual 163, 3) := by decide +kernel
theorem dX3_annexTotal_19 : decode cX3_annexTotal 19 = .ok (.iadd, 1) := by decide +kernel
theorem dX3_annexTotal_20 : decode cX3_annexTotal 20 = .ok (.istore_n 2, 1) := by decide +kernel
theorem dX3_annexTotal_21 : decode cX3_annexTotal 21 = .ok (.iinc 3 1, 3) := by decide +kernel
theorem dX3_annexTotal_24 : decode cX3_annexTotal 24 = .ok (.goto (-20), 3) := by decide +kernel
theorem dX3_annexTotal_27 : decode cX3_annexTotal 27 = .ok (.iload_n 2, 1) := by decide +kernel
theorem dX3_annexTotal_28 : decode cX3_annexTotal 28 = .ok (.ireturn, 1) := by decide +kernel
theorem dX3_takenTotal_0 : decode cX3_takenTotal 0 = .ok (.iconst 0, 1) := by decide +kernel
theorem dX3_takenTotal_1 : decode cX3_takenTotal 1 = .ok (.istore_n 2, 1) := by decide +kernel
theorem dX3_takenTotal_2 : decode cX3_takenTotal 2 = .ok (.iconst 0, 1) := by decide +kernel
theorem dX3_takenTotal_3 : decode cX3_takenTotal 3 = .ok (.istore_n 3, 1) := by decide +kernel
theorem dX3_takenTotal_4 : decode cX3_takenTotal 4 = .ok (.iload_n 3, 1) := by decide +kernel
theorem dX3_takenTotal_5 : decode cX3_takenTotal 5 = .ok (.aload_n 0, 1) := by decide +kernel
theorem dX3_takenTotal_6 : decode cX3_takenTotal 6 = .ok (.getfield 45, 3) := by decide +kernel
theorem dX3_takenTotal_9 : decode cX3_takenTotal 9 = .ok (.if_icmp .ge 21, 3) := by decide +kernel
theorem dX3_takenTotal_12 : decode cX3_takenTotal 12 = .ok (.aload_n 0, 1) := by decide +kernel
theorem dX3_takenTotal_13 : decode cX3_takenTotal 13 = .ok (.iload_n 3, 1) := by decide +kernel
theorem dX3_takenTotal_14 : decode cX3_takenTotal 14 = .ok (.iload_n 1, 1) := by decide +kernel
theorem dX3_takenTotal_15 : decode cX3_takenTotal 15 = .ok (.invokevirtual 98, 3) := by decide +kernel
theorem dX3_takenTotal_18 : decode cX3_takenTotal 18 = .ok (.ifCond .eq 6, 3) := by decide +kernel
theorem dX3_takenTotal_21 : decode cX3_takenTotal 21 = .ok (.iinc 2 1, 3) := by decide +kernel
theorem dX3_takenTotal_24 : decode cX3_takenTotal 24 = .ok (.iinc 3 1, 3) := by decide +kernel
theorem dX3_takenTotal_27 : decode cX3_takenTotal 27 = .ok (.goto (-23), 3) := by decide +kernel
theorem dX3_takenTotal_30 : decode cX3_takenTotal 30 = .ok (.iload_n 2, 1) := by decide +kernel
theorem dX3_takenTotal_31 : decode cX3_takenTotal 31 = .ok (.ireturn, 1) := by decide +kernel
theorem dX3_readyTotal_0 : decode cX3_readyTotal 0 = .ok (.iconst 0, 1) := by decide +kernel
theorem dX3_readyTotal_1 : decode cX3_readyTotal 1 = .ok (.istore_n 2, 1) := by decide +kernel
theorem dX3_readyTotal_2 : decode cX3_readyTotal 2 = .ok (.iconst 0, 1) := by decide +kernel
theorem dX3_readyTotal_3 : decode cX3_readyTotal 3 = .ok (.istore_n 3, 1) := by decide +kernel
theorem dX3_readyTotal_4 : decode cX3_readyTotal 4 = .ok (.iload_n 3, 1) := by decide +kernel
theorem dX3_readyTotal_5 : decode cX3_readyTotal 5 = .ok (.aload_n 0, 1) := by decide +kernel
theorem dX3_readyTotal_6 : decode cX3_readyTotal 6 = .ok (.getfield 45, 3) := by decide +kernel
theorem dX3_readyTotal_9 : decode cX3_readyTotal 9 = .ok (.if_icmp .ge 27, 3) := by decide +kernel
theorem dX3_readyTotal_12 : decode cX3_readyTotal 12 = .ok (.aload_n 0, 1) := by decide +kernel
theorem dX3_readyTotal_13 : decode cX3_readyTotal 13 = .ok (.iload_n 3, 1) := by decide +kernel
theorem dX3_readyTotal_14 : decode cX3_readyTotal 14 = .ok (.iload_n 1, 1) := by decide +kernel
theorem dX3_readyTotal_15 : decode cX3_readyTotal 15 = .ok (.invokevirtual 134, 3) := by decide +kernel
theorem dX3_readyTotal_18 : decode cX3_readyTotal 18 = .ok (.ifCond .eq 12, 3) := by decide +kernel
theorem dX3_readyTotal_21 : decode cX3_readyTotal 21 = .ok (.iload_n 2, 1) := by decide +kernel
theorem dX3_readyTotal_22 : decode cX3_readyTotal 22 = .ok (.aload_n 0, 1) := by decide +kernel
theorem dX3_readyTotal_23 : decode cX3_readyTotal 23 = .ok (.iload_n 3, 1) := by decide +kernel
theorem dX3_readyTotal_24 : decode cX3_readyTotal 24 = .ok (.iload_n 1, 1) := by decide +kernel
theorem dX3_readyTotal_25 : decode cX3_readyTotal 25 = .ok (.invokevirtual 85, 3) := by decide +kernel
theorem dX3_readyTotal_28 : decode cX3_readyTotal 28 = .ok (.iadd, 1) := by decide +kernel
theorem dX3_readyTotal_29 : decode cX3_readyTotal 29 = .ok (.istore_n 2, 1) := by decide +kernel
theorem dX3_readyTotal_30 : decode cX3_readyTotal 30 = .ok (.iinc 3 1, 3) := by decide +kernel
theorem dX3_readyTotal_33 : decode cX3_readyTotal 33 = .ok (.goto (-29), 3) := by decide +kernel
theorem dX3_readyTotal_36 : decode cX3_readyTotal 36 = .ok (.iload_n 2, 1) := by decide +kernel
theorem dX3_readyTotal_37 : decode cX3_readyTotal 37 = .ok (.ireturn, 1) := by decide +kernel
theorem dX3_readyOfAllVoices_0 : decode cX3_readyOfAllVoices 0 = .ok (.iconst 0, 1) := by decide +kernel
theorem dX3_readyOfAllVoices_1 : decode cX3_readyOfAllVoices 1 = .ok (.istore_n 2, 1) := by decide +kernel
theorem dX3_readyOfAllVoices_2 : decode cX3_readyOfAllVoices 2 = .ok (.iconst 0, 1) := by decide +kernel
theorem dX3_readyOfAllVoices_3 : decode cX3_readyOfAllVoices 3 = .ok (.istore_n 3, 1) := by decide +kernel
theorem dX3_readyOfAllVoices_4 : decode cX3_readyOfAllVoices 4 = .ok (.iload_n 3, 1) := by decide +kernel
theorem dX3_readyOfAllVoices_5 : decode cX3_readyOfAllVoices 5 = .ok (.iconst 5, 1) := by decide +kernel
theorem dX3_readyOfAllVoices_6 : decode cX3_readyOfAllVoices 6 = .ok (.if_icmp .ge 18, 3) := by decide +kernel
theorem dX3_readyOfAllVoices_9 : decode cX3_readyOfAllVoices 9 = .ok (.iload_n 2, 1) := by decide +kernel
theorem dX3_readyOfAllVoices_10 : decode cX3_readyOfAllVoices 10 = .ok (.aload_n 0, 1) := by decide +kernel
theorem dX3_readyOfAllVoices_11 : decode cX3_readyOfAllVoices 11 = .ok (.iload_n 3, 1) := by decide +kernel
theorem dX3_readyOfAllVoices_12 : decode cX3_readyOfAllVoices 12 = .ok (.iload_n 1, 1) := by decide +kernel
theorem dX3_readyOfAllVoices_13 : decode cX3_readyOfAllVoices 13 = .ok (.invokevirtual 166, 3) := by decide +kernel
theorem dX3_readyOfAllVoices_16 : decode cX3_readyOfAllVoices 16 = .ok (.iadd, 1) := by decide +kernel
theorem dX3_readyOfAllVoices_17 : decode cX3_readyOfAllVoices 17 = .ok (.istore_n 2, 1) := by decide +kernel
theorem dX3_readyOfAllVoices_18 : decode cX3_readyOfAllVoices 18 = .ok (.iinc 3 1, 3) := by decide +kernel
theorem dX3_readyOfAllVoices_21 : decode cX3_readyOfAllVoices 21 = .ok (.goto (-17), 3) := by decide +kernel
theorem dX3_readyOfAllVoices_24 : decode cX3_readyOfAllVoices 24 = .ok (.iload_n 2, 1) := by decide +kernel
theorem dX3_readyOfAllVoices_25 : decode cX3_readyOfAllVoices 25 = .ok (.ireturn, 1) := by decide +kernel
theorem dX3_hasRatification_0 : decode cX3_hasRatification 0 = .ok (.iconst 0, 1) := by decide +kernel
theorem dX3_hasRatification_1 : decode cX3_hasRatification 1 = .ok (.istore_n 2, 1) := by decide +kernel
theorem dX3_hasRatification_2 : decode cX3_hasRatification 2 = .ok (.iload_n 2, 1) := by decide +kernel
theorem dX3_hasRatification_3 : decode cX3_hasRatification 3 = .ok (.iconst 4, 1) := by decide +kernel
theorem dX3_hasRatification_4 : decode cX3_hasRatification 4 = .ok (.if_icmp .ge 47, 3) := by decide +kernel
theorem dX3_hasRatification_7 : decode cX3_hasRatification 7 = .ok (.aload_n 0, 1) := by decide +kernel
theorem dX3_hasRatification_8 : decode cX3_hasRatification 8 = .ok (.iload_n 2, 1) := by decide +kernel
theorem dX3_hasRatification_9 : decode cX3_hasRatification 9 = .ok (.iload_n 1, 1) := by decide +kernel
theorem dX3_hasRatification_10 : decode cX3_hasRatification 10 = .ok (.invokevirtual 169, 3) := by decide +kernel
theorem dX3_hasRatification_13 : decode cX3_hasRatification 13 = .ok (.ifCond .eq 16, 3) := by decide +kernel
theorem dX3_hasRatification_16 : decode cX3_hasRatification 16 = .ok (.aload_n 0, 1) := by decide +kernel
theorem dX3_hasRatification_17 : decode cX3_hasRatification 17 = .ok (.iload_n 2, 1) := by decide +kernel
theorem dX3_hasRatification_18 : decode cX3_hasRatification 18 = .ok (.iload_n 1, 1) := by decide +kernel
theorem dX3_hasRatification_19 : decode cX3_hasRatification 19 = .ok (.invokevirtual 172, 3) := by decide +kernel
theorem dX3_hasRatification_22 : decode cX3_hasRatification 22 = .ok (.ifCond .ne 7, 3) := by decide +kernel
theorem dX3_hasRatification_25 : decode cX3_hasRatification 25 = .ok (.iconst 1, 1) := by decide +kernel
theorem dX3_hasRatification_26 : decode cX3_hasRatification 26 = .ok (.goto 4, 3) := by decide +kernel
theorem dX3_hasRatification_29 : decode cX3_hasRatification 29 = .ok (.iconst 0, 1) := by decide +kernel
theorem dX3_hasRatification_30 : decode cX3_hasRatification 30 = .ok (.istore_n 3, 1) := by decide +kernel
theorem dX3_hasRatification_31 : decode cX3_hasRatification 31 = .ok (.aload_n 0, 1) := by decide +kernel
theorem dX3_hasRatification_32 : decode cX3_hasRatification 32 = .ok (.iload_n 2, 1) := by decide +kernel
theorem dX3_hasRatification_33 : decode cX3_hasRatification 33 = .ok (.invokevirtual 148, 3) := by decide +kernel
theorem dX3_hasRatification_36 : decode cX3_hasRatification 36 = .ok (.ifCond .le 9, 3) := by decide +kernel
theorem dX3_hasRatification_39 : decode cX3_hasRatification 39 = .ok (.iload_n 3, 1) := by decide +kernel
theorem dX3_hasRatification_40 : decode cX3_hasRatification 40 = .ok (.ifCond .ne 5, 3) := by decide +kernel
theorem dX3_hasRatification_43 : decode cX3_hasRatification 43 = .ok (.iconst 0, 1) := by decide +kernel
theorem dX3_hasRatification_44 : decode cX3_hasRatification 44 = .ok (.ireturn, 1) := by decide +kernel
theorem dX3_hasRatification_45 : decode cX3_hasRatification 45 = .ok (.iinc 2 1, 3) := by decide +kernel
theorem dX3_hasRatification_48 : decode cX3_hasRatification 48 = .ok (.goto (-46), 3) := by decide +kernel
theorem dX3_hasRatification_51 : decode cX3_hasRatification 51 = .ok (.aload_n 0, 1) := by decide +kernel
theorem dX3_hasRatification_52 : decode cX3_hasRatification 52 = .ok (.getfield 45, 3) := by decide +kernel
theorem dX3_hasRatification_55 : decode cX3_hasRatification 55 = .ok (.ifCond .le 7, 3) := by decide +kernel
theorem dX3_hasRatification_58 : decode cX3_hasRatification 58 = .ok (.iconst 1, 1) := by decide +kernel
theorem dX3_hasRatification_59 : decode cX3_hasRatification 59 = .ok (.goto 4, 3) := by decide +kernel
theorem dX3_hasRatification_62 : decode cX3_hasRatification 62 = .ok (.iconst 0, 1) := by decide +kernel
theorem dX3_hasRatification_63 : decode cX3_hasRatification 63 = .ok (.ireturn, 1) := by decide +kernel
theorem dX3_misfitTotal_0 : decode cX3_misfitTotal 0 = .ok (.iconst 0, 1) := by decide +kernel
theorem dX3_misfitTotal_1 : decode cX3_misfitTotal 1 = .ok (.istore_n 2, 1) := by decide +kernel
theorem dX3_misfitTotal_2 : decode cX3_misfitTotal 2 = .ok (.iconst 0, 1) := by decide +kernel
theorem dX3_misfitTotal_3 : decode cX3_misfitTotal 3 = .ok (.istore_n 3, 1) := by decide +kernel
theorem dX3_misfitTotal_4 : decode cX3_misfitTotal 4 = .ok (.iload_n 3, 1) := by decide +kernel
theorem dX3_misfitTotal_5 : decode cX3_misfitTotal 5 = .ok (.aload_n 0, 1) := by decide +kernel
theorem dX3_misfitTotal_6 : decode cX3_misfitTotal 6 = .ok (.getfield 45, 3) := by decide +kernel
theorem dX3_misfitTotal_9 : decode cX3_misfitTotal 9 = .ok (.if_icmp .ge 30, 3) := by decide +kernel
theorem dX3_misfitTotal_12 : decode cX3_misfitTotal 12 = .ok (.aload_n 0, 1) := by decide +kernel
theorem dX3_misfitTotal_13 : decode cX3_misfitTotal 13 = .ok (.iload_n 3, 1) := by decide +kernel
theorem dX3_misfitTotal_14 : decode cX3_misfitTotal 14 = .ok (.iload_n 1, 1) := by decide +kernel
theorem dX3_misfitTotal_15 : decode cX3_misfitTotal 15 = .ok (.invokevirtual 108, 3) := by decide +kernel
theorem dX3_misfitTotal_18 : decode cX3_misfitTotal 18 = .ok (.ifCond .eq 15, 3) := by decide +kernel
theorem dX3_misfitTotal_21 : decode cX3_misfitTotal 21 = .ok (.aload_n 0, 1) := by decide +kernel
theorem dX3_misfitTotal_22 : decode cX3_misfitTotal 22 = .ok (.iload_n 3, 1) := by decide +kernel
theorem dX3_misfitTotal_23 : decode cX3_misfitTotal 23 = .ok (.iload_n 1, 1) := by decide +kernel
theorem dX3_misfitTotal_24 : decode cX3_misfitTotal 24 = .ok (.invokevirtual 105, 3) := by decide +kernel
theorem dX3_misfitTotal_27 : decode cX3_misfitTotal 27 = .ok (.ifCond .ne 6, 3) := by decide +kernel
theorem dX3_misfitTotal_30 : decode cX3_misfitTotal 30 = .ok (.iinc 2 1, 3) := by decide +kernel
theorem dX3_misfitTotal_33 : decode cX3_misfitTotal 33 = .ok (.iinc 3 1, 3) := by decide +kernel
theorem dX3_misfitTotal_36 : decode cX3_misfitTotal 36 = .ok (.goto (-32), 3) := by decide +kernel
theorem dX3_misfitTotal_39 : decode cX3_misfitTotal 39 = .ok (.iload_n 2, 1) := by decide +kernel
theorem dX3_misfitTotal_40 : decode cX3_misfitTotal 40 = .ok (.ireturn, 1) := by decide +kernel
theorem dX3_meanHundredths_0 : decode cX3_meanHundredths 0 = .ok (.iconst 0, 1) := by decide +kernel
theorem dX3_meanHundredths_1 : decode cX3_meanHundredths 1 = .ok (.istore_n 2, 1) := by decide +kernel
theorem dX3_meanHundredths_2 : decode cX3_meanHundredths 2 = .ok (.iconst 0, 1) := by decide +kernel
theorem dX3_meanHundredths_3 : decode cX3_meanHundredths 3 = .ok (.istore_n 3, 1) := by decide +kernel
theorem dX3_meanHundredths_4 : decode cX3_meanHundredths 4 = .ok (.iconst 0, 1) := by decide +kernel
theorem dX3_meanHundredths_5 : decode cX3_meanHundredths 5 = .ok (.istore 4, 2) := by decide +kernel
theorem dX3_meanHundredths_7 : decode cX3_meanHundredths 7 = .ok (.iload 4, 2) := by decide +kernel
theorem dX3_meanHundredths_9 : decode cX3_meanHundredths 9 = .ok (.aload_n 0, 1) := by decide +kernel
theorem dX3_meanHundredths_10 : decode cX3_meanHundredths 10 = .ok (.getfield 45, 3) := by decide +kernel
theorem dX3_meanHundredths_13 : decode cX3_meanHundredths 13 = .ok (.if_icmp .ge 32, 3) := by decide +kernel
theorem dX3_meanHundredths_16 : decode cX3_meanHundredths 16 = .ok (.aload_n 0, 1) := by decide +kernel
theorem dX3_meanHundredths_17 : decode cX3_meanHundredths 17 = .ok (.iload 4, 2) := by decide +kernel
theorem dX3_meanHundredths_19 : decode cX3_meanHundredths 19 = .ok (.iload_n 1, 1) := by decide +kernel
theorem dX3_meanHundredths_20 : decode cX3_meanHundredths 20 = .ok (.invokevirtual 108, 3) := by decide +kernel
theorem dX3_meanHundredths_23 : decode cX3_meanHundredths 23 = .ok (.ifCond .eq 16, 3) := by decide +kernel
theorem dX3_meanHundredths_26 : decode cX3_meanHundredths 26 = .ok (.iload_n 2, 1) := by decide +kernel
theorem dX3_meanHundredths_27 : decode cX3_meanHundredths 27 = .ok (.aload_n 0, 1) := by decide +kernel
theorem dX3_meanHundredths_28 : decode cX3_meanHundredths 28 = .ok (.iload 4, 2) := by decide +kernel
theorem dX3_meanHundredths_30 : decode cX3_meanHundredths 30 = .ok (.iload_n 1, 1) := by decide +kernel
theorem dX3_meanHundredths_31 : decode cX3_meanHundredths 31 = .ok (.invokevirtual 175, 3) := by decide +kernel
theorem dX3_meanHundredths_34 : decode cX3_meanHundredths 34 = .ok (.iadd, 1) := by decide +kernel
theorem dX3_meanHundredths_35 : decode cX3_meanHundredths 35 = .ok (.istore_n 2, 1) := by decide +kernel
theorem dX3_meanHundredths_36 : decode cX3_meanHundredths 36 = .ok (.iinc 3 1, 3) := by decide +kernel
theorem dX3_meanHundredths_39 : decode cX3_meanHundredths 39 = .ok (.iinc 4 1, 3) := by decide +kernel
theorem dX3_meanHundredths_42 : decode cX3_meanHundredths 42 = .ok (.goto (-35), 3) := by decide +kernel
theorem dX3_meanHundredths_45 : decode cX3_meanHundredths 45 = .ok (.iload_n 3, 1) := by decide +kernel
theorem dX3_meanHundredths_46 : decode cX3_meanHundredths 46 = .ok (.ifCond .le 11, 3) := by decide +kernel
theorem dX3_meanHundredths_49 : decode cX3_meanHundredths 49 = .ok (.iload_n 2, 1) := by decide +kernel
theorem dX3_meanHundredths_50 : decode cX3_meanHundredths 50 = .ok (.i2d, 1) := by decide +kernel
theorem dX3_meanHundredths_51 : decode cX3_meanHundredths 51 = .ok (.iload_n 3, 1) := by decide +kernel
theorem dX3_meanHundredths_52 : decode cX3_meanHundredths 52 = .ok (.i2d, 1) := by decide +kernel
theorem dX3_meanHundredths_53 : decode cX3_meanHundredths 53 = .ok (.ddiv, 1) := by decide +kernel
theorem dX3_meanHundredths_54 : decode cX3_meanHundredths 54 = .ok (.goto 4, 3) := by decide +kernel
theorem dX3_meanHundredths_57 : decode cX3_meanHundredths 57 = .ok (.dconst 0, 1) := by decide +kernel
theorem dX3_meanHundredths_58 : decode cX3_meanHundredths 58 = .ok (.dreturn, 1) := by decide +kernel
theorem dX3_longestToTake_0 : decode cX3_longestToTake 0 = .ok (.iconst (-1), 1) := by decide +kernel
theorem dX3_longestToTake_1 : decode cX3_longestToTake 1 = .ok (.istore_n 2, 1) := by decide +kernel
theorem dX3_longestToTake_2 : decode cX3_longestToTake 2 = .ok (.iconst 0, 1) := by decide +kernel
theorem dX3_longestToTake_3 : decode cX3_longestToTake 3 = .ok (.istore_n 3, 1) := by decide +kernel
theorem dX3_longestToTake_4 : decode cX3_longestToTake 4 = .ok (.iload_n 3, 1) := by decide +kernel
theorem dX3_longestToTake_5 : decode cX3_longestToTake 5 = .ok (.aload_n 0, 1) := by decide +kernel
theorem dX3_longestToTake_6 : decode cX3_longestToTake 6 = .ok (.getfield 45, 3) := by decide +kernel
theorem dX3_longestToTake_9 : decode cX3_longestToTake 9 = .ok (.if_icmp .ge 40, 3) := by decide +kernel
theorem dX3_longestToTake_12 : decode cX3_longestToTake 12 = .ok (.aload_n 0, 1) := by decide +kernel
theorem dX3_longestToTake_13 : decode cX3_longestToTake 13 = .ok (.iload_n 3, 1) := by decide +kernel
theorem dX3_longestToTake_14 : decode cX3_longestToTake 14 = .ok (.iload_n 1, 1) := by decide +kernel
theorem dX3_longestToTake_15 : decode cX3_longestToTake 15 = .ok (.invokevirtual 178, 3) := by decide +kernel
theorem dX3_longestToTake_18 : decode cX3_longestToTake 18 = .ok (.ifCond .ne 25, 3) := by decide +kernel
theorem dX3_longestToTake_21 : decode cX3_longestToTake 21 = .ok (.iload_n 2, 1) := by decide +kernel
theorem dX3_longestToTake_22 : decode cX3_longestToTake 22 = .ok (.iconst (-1), 1) := by decide +kernel
theorem dX3_longestToTake_23 : decode cX3_longestToTake 23 = .ok (.if_icmp .eq 18, 3) := by decide +kernel
theorem dX3_longestToTake_26 : decode cX3_longestToTake 26 = .ok (.aload_n 0, 1) := by decide +kernel
theorem dX3_longestToTake_27 : decode cX3_longestToTake 27 = .ok (.iload_n 3, 1) := by decide +kernel
theorem dX3_longestToTake_28 : decode cX3_longestToTake 28 = .ok (.iload_n 1, 1) := by decide +kernel
theorem dX3_longestToTake_29 : decode cX3_longestToTake 29 = .ok (.invokevirtual 85, 3) := by decide +kernel
theorem dX3_longestToTake_32 : decode cX3_longestToTake 32 = .ok (.aload_n 0, 1) := by decide +kernel
theorem dX3_longestToTake_33 : decode cX3_longestToTake 33 = .ok (.iload_n 2, 1) := by decide +kernel
theorem dX3_longestToTake_34 : decode cX3_longestToTake 34 = .ok (.iload_n 1, 1) := by decide +kernel
theorem dX3_longestToTake_35 : decode cX3_longestToTake 35 = .ok (.invokevirtual 85, 3) := by decide +kernel
theorem dX3_longestToTake_38 : decode cX3_longestToTake 38 = .ok (.if_icmp .le 5, 3) := by decide +kernel
theorem dX3_longestToTake_41 : decode cX3_longestToTake 41 = .ok (.iload_n 3, 1) := by decide +kernel
theorem dX3_longestToTake_42 : decode cX3_longestToTake 42 = .ok (.istore_n 2, 1) := by decide +kernel
theorem dX3_longestToTake_43 : decode cX3_longestToTake 43 = .ok (.iinc 3 1, 3) := by decide +kernel
theorem dX3_longestToTake_46 : decode cX3_longestToTake 46 = .ok (.goto (-42), 3) := by decide +kernel
theorem dX3_longestToTake_49 : decode cX3_longestToTake 49 = .ok (.iload_n 2, 1) := by decide +kernel
theorem dX3_longestToTake_50 : decode cX3_longestToTake 50 = .ok (.ireturn, 1) := by decide +kernel
theorem dX3_mostTakenTongue_0 : decode cX3_mostTakenTongue 0 = .ok (.iconst 0, 1) := by decide +kernel
theorem dX3_mostTakenTongue_1 : decode cX3_mostTakenTongue 1 = .ok (.istore_n 1, 1) := by decide +kernel
theorem dX3_mostTakenTongue_2 : decode cX3_mostTakenTongue 2 = .ok (.iconst 1, 1) := by decide +kernel
theorem dX3_mostTakenTongue_3 : decode cX3_mostTakenTongue 3 = .ok (.istore_n 2, 1) := by decide +kernel
theorem dX3_mostTakenTongue_4 : decode cX3_mostTakenTongue 4 = .ok (.iload_n 2, 1) := by decide +kernel
theorem dX3_mostTakenTongue_5 : decode cX3_mostTakenTongue 5 = .ok (.iconst 3, 1) := by decide +kernel
theorem dX3_mostTakenTongue_6 : decode cX3_mostTakenTongue 6 = .ok (.if_icmp .ge 24, 3) := by decide +kernel
theorem dX3_mostTakenTongue_9 : decode cX3_mostTakenTongue 9 = .ok (.aload_n 0, 1) := by decide +kernel
theorem dX3_mostTakenTongue_10 : decode cX3_mostTakenTongue 10 = .ok (.iload_n 2, 1) := by decide +kernel
theorem dX3_mostTakenTongue_11 : decode cX3_mostTakenTongue 11 = .ok (.invokevirtual 181, 3) := by decide +kernel
theorem dX3_mostTakenTongue_14 : decode cX3_mostTakenTongue 14 = .ok (.aload_n 0, 1) := by decide +kernel
theorem dX3_mostTakenTongue_15 : decode cX3_mostTakenTongue 15 = .ok (.iload_n 1, 1) := by decide +kernel
theorem dX3_mostTakenTongue_16 : decode cX3_mostTakenTongue 16 = .ok (.invokevirtual 181, 3) := by decide +kernel
theorem dX3_mostTakenTongue_19 : decode cX3_mostTakenTongue 19 = .ok (.if_icmp .le 5, 3) := by decide +kernel
theorem dX3_mostTakenTongue_22 : decode cX3_mostTakenTongue 22 = .ok (.iload_n 2, 1) := by decide +kernel
theorem dX3_mostTakenTongue_23 : decode cX3_mostTakenTongue 23 = .ok (.istore_n 1, 1) := by decide +kernel
theorem dX3_mostTakenTongue_24 : decode cX3_mostTakenTongue 24 = .ok (.iinc 2 1, 3) := by decide +kernel
theorem dX3_mostTakenTongue_27 : decode cX3_mostTakenTongue 27 = .ok (.goto (-23), 3) := by decide +kernel
theorem dX3_mostTakenTongue_30 : decode cX3_mostTakenTongue 30 = .ok (.iload_n 1, 1) := by decide +kernel
theorem dX3_mostTakenTongue_31 : decode cX3_mostTakenTongue 31 = .ok (.ireturn, 1) := by decide +kernel
