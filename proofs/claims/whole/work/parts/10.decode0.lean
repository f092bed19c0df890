theorem dX0_init_0 : decode cX0_init 0 = .ok (.aload_n 0, 1) := by decide +kernel
theorem dX0_init_1 : decode cX0_init 1 = .ok (.invokespecial 5, 3) := by decide +kernel
theorem dX0_init_4 : decode cX0_init 4 = .ok (.aload_n 0, 1) := by decide +kernel
theorem dX0_init_5 : decode cX0_init 5 = .ok (.sipush 256, 3) := by decide +kernel
theorem dX0_init_8 : decode cX0_init 8 = .ok (.newarray .int, 2) := by decide +kernel
theorem dX0_init_10 : decode cX0_init 10 = .ok (.putfield 11, 3) := by decide +kernel
theorem dX0_init_13 : decode cX0_init 13 = .ok (.aload_n 0, 1) := by decide +kernel
theorem dX0_init_14 : decode cX0_init 14 = .ok (.bipush 85, 2) := by decide +kernel
theorem dX0_init_16 : decode cX0_init 16 = .ok (.newarray .int, 2) := by decide +kernel
theorem dX0_init_18 : decode cX0_init 18 = .ok (.putfield 15, 3) := by decide +kernel
theorem dX0_init_21 : decode cX0_init 21 = .ok (.aload_n 0, 1) := by decide +kernel
theorem dX0_init_22 : decode cX0_init 22 = .ok (.bipush 85, 2) := by decide +kernel
theorem dX0_init_24 : decode cX0_init 24 = .ok (.newarray .int, 2) := by decide +kernel
theorem dX0_init_26 : decode cX0_init 26 = .ok (.putfield 18, 3) := by decide +kernel
theorem dX0_init_29 : decode cX0_init 29 = .ok (.aload_n 0, 1) := by decide +kernel
theorem dX0_init_30 : decode cX0_init 30 = .ok (.bipush 85, 2) := by decide +kernel
theorem dX0_init_32 : decode cX0_init 32 = .ok (.newarray .int, 2) := by decide +kernel
theorem dX0_init_34 : decode cX0_init 34 = .ok (.putfield 21, 3) := by decide +kernel
theorem dX0_init_37 : decode cX0_init 37 = .ok (.aload_n 0, 1) := by decide +kernel
theorem dX0_init_38 : decode cX0_init 38 = .ok (.bipush 85, 2) := by decide +kernel
theorem dX0_init_40 : decode cX0_init 40 = .ok (.newarray .int, 2) := by decide +kernel
theorem dX0_init_42 : decode cX0_init 42 = .ok (.putfield 24, 3) := by decide +kernel
theorem dX0_init_45 : decode cX0_init 45 = .ok (.aload_n 0, 1) := by decide +kernel
theorem dX0_init_46 : decode cX0_init 46 = .ok (.bipush 85, 2) := by decide +kernel
theorem dX0_init_48 : decode cX0_init 48 = .ok (.newarray .boolean, 2) := by decide +kernel
theorem dX0_init_50 : decode cX0_init 50 = .ok (.putfield 27, 3) := by decide +kernel
theorem dX0_init_53 : decode cX0_init 53 = .ok (.return_, 1) := by decide +kernel
theorem dX0_isCell_0 : decode cX0_isCell 0 = .ok (.iconst 1, 1) := by decide +kernel
theorem dX0_isCell_1 : decode cX0_isCell 1 = .ok (.iload_n 0, 1) := by decide +kernel
theorem dX0_isCell_2 : decode cX0_isCell 2 = .ok (.ishl, 1) := by decide +kernel
theorem dX0_isCell_3 : decode cX0_isCell 3 = .ok (.istore_n 3, 1) := by decide +kernel
theorem dX0_isCell_4 : decode cX0_isCell 4 = .ok (.iload_n 1, 1) := by decide +kernel
theorem dX0_isCell_5 : decode cX0_isCell 5 = .ok (.ifCond .lt 21, 3) := by decide +kernel
theorem dX0_isCell_8 : decode cX0_isCell 8 = .ok (.iload_n 1, 1) := by decide +kernel
theorem dX0_isCell_9 : decode cX0_isCell 9 = .ok (.iload_n 3, 1) := by decide +kernel
theorem dX0_isCell_10 : decode cX0_isCell 10 = .ok (.if_icmp .ge 16, 3) := by decide +kernel
theorem dX0_isCell_13 : decode cX0_isCell 13 = .ok (.iload_n 2, 1) := by decide +kernel
theorem dX0_isCell_14 : decode cX0_isCell 14 = .ok (.ifCond .lt 12, 3) := by decide +kernel
theorem dX0_isCell_17 : decode cX0_isCell 17 = .ok (.iload_n 2, 1) := by decide +kernel
theorem dX0_isCell_18 : decode cX0_isCell 18 = .ok (.iload_n 3, 1) := by decide +kernel
theorem dX0_isCell_19 : decode cX0_isCell 19 = .ok (.if_icmp .ge 7, 3) := by decide +kernel
theorem dX0_isCell_22 : decode cX0_isCell 22 = .ok (.iconst 1, 1) := by decide +kernel
theorem dX0_isCell_23 : decode cX0_isCell 23 = .ok (.goto 4, 3) := by decide +kernel
theorem dX0_isCell_26 : decode cX0_isCell 26 = .ok (.iconst 0, 1) := by decide +kernel
theorem dX0_isCell_27 : decode cX0_isCell 27 = .ok (.ireturn, 1) := by decide +kernel
theorem dX0_cutAnew_0 : decode cX0_cutAnew 0 = .ok (.aload_n 0, 1) := by decide +kernel
theorem dX0_cutAnew_1 : decode cX0_cutAnew 1 = .ok (.iload_n 1, 1) := by decide +kernel
theorem dX0_cutAnew_2 : decode cX0_cutAnew 2 = .ok (.putfield 31, 3) := by decide +kernel
theorem dX0_cutAnew_5 : decode cX0_cutAnew 5 = .ok (.aload_n 0, 1) := by decide +kernel
theorem dX0_cutAnew_6 : decode cX0_cutAnew 6 = .ok (.iconst 1, 1) := by decide +kernel
theorem dX0_cutAnew_7 : decode cX0_cutAnew 7 = .ok (.iload_n 1, 1) := by decide +kernel
theorem dX0_cutAnew_8 : decode cX0_cutAnew 8 = .ok (.ishl, 1) := by decide +kernel
theorem dX0_cutAnew_9 : decode cX0_cutAnew 9 = .ok (.putfield 35, 3) := by decide +kernel
theorem dX0_cutAnew_12 : decode cX0_cutAnew 12 = .ok (.aload_n 0, 1) := by decide +kernel
theorem dX0_cutAnew_13 : decode cX0_cutAnew 13 = .ok (.iload_n 2, 1) := by decide +kernel
theorem dX0_cutAnew_14 : decode cX0_cutAnew 14 = .ok (.putfield 38, 3) := by decide +kernel
theorem dX0_cutAnew_17 : decode cX0_cutAnew 17 = .ok (.aload_n 0, 1) := by decide +kernel
theorem dX0_cutAnew_18 : decode cX0_cutAnew 18 = .ok (.iload_n 3, 1) := by decide +kernel
theorem dX0_cutAnew_19 : decode cX0_cutAnew 19 = .ok (.putfield 41, 3) := by decide +kernel
theorem dX0_cutAnew_22 : decode cX0_cutAnew 22 = .ok (.aload_n 0, 1) := by decide +kernel
theorem dX0_cutAnew_23 : decode cX0_cutAnew 23 = .ok (.iconst 0, 1) := by decide +kernel
theorem dX0_cutAnew_24 : decode cX0_cutAnew 24 = .ok (.putfield 44, 3) := by decide +kernel
theorem dX0_cutAnew_27 : decode cX0_cutAnew 27 = .ok (.iconst 0, 1) := by decide +kernel
theorem dX0_cutAnew_28 : decode cX0_cutAnew 28 = .ok (.istore 4, 2) := by decide +kernel
theorem dX0_cutAnew_30 : decode cX0_cutAnew 30 = .ok (.iload 4, 2) := by decide +kernel
theorem dX0_cutAnew_32 : decode cX0_cutAnew 32 = .ok (.aload_n 0, 1) := by decide +kernel
theorem dX0_cutAnew_33 : decode cX0_cutAnew 33 = .ok (.getfield 11, 3) := by decide +kernel
theorem dX0_cutAnew_36 : decode cX0_cutAnew 36 = .ok (.arraylength, 1) := by decide +kernel
theorem dX0_cutAnew_37 : decode cX0_cutAnew 37 = .ok (.if_icmp .ge 18, 3) := by decide +kernel
theorem dX0_cutAnew_40 : decode cX0_cutAnew 40 = .ok (.aload_n 0, 1) := by decide +kernel
theorem dX0_cutAnew_41 : decode cX0_cutAnew 41 = .ok (.getfield 11, 3) := by decide +kernel
theorem dX0_cutAnew_44 : decode cX0_cutAnew 44 = .ok (.iload 4, 2) := by decide +kernel
theorem dX0_cutAnew_46 : decode cX0_cutAnew 46 = .ok (.bipush (-9), 2) := by decide +kernel
theorem dX0_cutAnew_48 : decode cX0_cutAnew 48 = .ok (.iastore, 1) := by decide +kernel
theorem dX0_cutAnew_49 : decode cX0_cutAnew 49 = .ok (.iinc 4 1, 3) := by decide +kernel
theorem dX0_cutAnew_52 : decode cX0_cutAnew 52 = .ok (.goto (-22), 3) := by decide +kernel
theorem dX0_cutAnew_55 : decode cX0_cutAnew 55 = .ok (.aload_n 0, 1) := by decide +kernel
theorem dX0_cutAnew_56 : decode cX0_cutAnew 56 = .ok (.iload_n 1, 1) := by decide +kernel
theorem dX0_cutAnew_57 : decode cX0_cutAnew 57 = .ok (.iconst 0, 1) := by decide +kernel
theorem dX0_cutAnew_58 : decode cX0_cutAnew 58 = .ok (.iconst 0, 1) := by decide +kernel
theorem dX0_cutAnew_59 : decode cX0_cutAnew 59 = .ok (.iload_n 2, 1) := by decide +kernel
theorem dX0_cutAnew_60 : decode cX0_cutAnew 60 = .ok (.iload_n 3, 1) := by decide +kernel
theorem dX0_cutAnew_61 : decode cX0_cutAnew 61 = .ok (.invokestatic 47, 3) := by decide +kernel
theorem dX0_cutAnew_64 : decode cX0_cutAnew 64 = .ok (.return_, 1) := by decide +kernel
theorem dX0_cutBlock_0 : decode cX0_cutBlock 0 = .ok (.iload_n 1, 1) := by decide +kernel
theorem dX0_cutBlock_1 : decode cX0_cutBlock 1 = .ok (.iconst 1, 1) := by decide +kernel
theorem dX0_cutBlock_2 : decode cX0_cutBlock 2 = .ok (.if_icmp .lt 8, 3) := by decide +kernel
theorem dX0_cutBlock_5 : decode cX0_cutBlock 5 = .ok (.iload_n 1, 1) := by decide +kernel
theorem dX0_cutBlock_6 : decode cX0_cutBlock 6 = .ok (.iconst 4, 1) := by decide +kernel
theorem dX0_cutBlock_7 : decode cX0_cutBlock 7 = .ok (.if_icmp .le 4, 3) := by decide +kernel
theorem dX0_cutBlock_10 : decode cX0_cutBlock 10 = .ok (.return_, 1) := by decide +kernel
theorem dX0_cutBlock_11 : decode cX0_cutBlock 11 = .ok (.iconst 1, 1) := by decide +kernel
theorem dX0_cutBlock_12 : decode cX0_cutBlock 12 = .ok (.iload_n 1, 1) := by decide +kernel
theorem dX0_cutBlock_13 : decode cX0_cutBlock 13 = .ok (.iconst 1, 1) := by decide +kernel
theorem dX0_cutBlock_14 : decode cX0_cutBlock 14 = .ok (.isub, 1) := by decide +kernel
theorem dX0_cutBlock_15 : decode cX0_cutBlock 15 = .ok (.ishl, 1) := by decide +kernel
theorem dX0_cutBlock_16 : decode cX0_cutBlock 16 = .ok (.istore 6, 2) := by decide +kernel
theorem dX0_cutBlock_18 : decode cX0_cutBlock 18 = .ok (.iload 4, 2) := by decide +kernel
theorem dX0_cutBlock_20 : decode cX0_cutBlock 20 = .ok (.iload_n 2, 1) := by decide +kernel
theorem dX0_cutBlock_21 : decode cX0_cutBlock 21 = .ok (.iload 6, 2) := by decide +kernel
theorem dX0_cutBlock_23 : decode cX0_cutBlock 23 = .ok (.iadd, 1) := by decide +kernel
theorem dX0_cutBlock_24 : decode cX0_cutBlock 24 = .ok (.if_icmp .lt 7, 3) := by decide +kernel
theorem dX0_cutBlock_27 : decode cX0_cutBlock 27 = .ok (.iconst 1, 1) := by decide +kernel
theorem dX0_cutBlock_28 : decode cX0_cutBlock 28 = .ok (.goto 4, 3) := by decide +kernel
theorem dX0_cutBlock_31 : decode cX0_cutBlock 31 = .ok (.iconst 0, 1) := by decide +kernel
theorem dX0_cutBlock_32 : decode cX0_cutBlock 32 = .ok (.iload 5, 2) := by decide +kernel
theorem dX0_cutBlock_34 : decode cX0_cutBlock 34 = .ok (.iload_n 3, 1) := by decide +kernel
theorem dX0_cutBlock_35 : decode cX0_cutBlock 35 = .ok (.iload 6, 2) := by decide +kernel
theorem dX0_cutBlock_37 : decode cX0_cutBlock 37 = .ok (.iadd, 1) := by decide +kernel
theorem dX0_cutBlock_38 : decode cX0_cutBlock 38 = .ok (.if_icmp .lt 7, 3) := by decide +kernel
theorem dX0_cutBlock_41 : decode cX0_cutBlock 41 = .ok (.iconst 2, 1) := by decide +kernel
theorem dX0_cutBlock_42 : decode cX0_cutBlock 42 = .ok (.goto 4, 3) := by decide +kernel
theorem dX0_cutBlock_45 : decode cX0_cutBlock 45 = .ok (.iconst 0, 1) := by decide +kernel
theorem dX0_cutBlock_46 : decode cX0_cutBlock 46 = .ok (.iadd, 1) := by decide +kernel
theorem dX0_cutBlock_47 : decode cX0_cutBlock 47 = .ok (.istore 7, 2) := by decide +kernel
theorem dX0_cutBlock_49 : decode cX0_cutBlock 49 = .ok (.aload_n 0, 1) := by decide +kernel
theorem dX0_cutBlock_50 : decode cX0_cutBlock 50 = .ok (.iload 7, 2) := by decide +kernel
theorem dX0_cutBlock_52 : decode cX0_cutBlock 52 = .ok (.iconst 2, 1) := by decide +kernel
theorem dX0_cutBlock_53 : decode cX0_cutBlock 53 = .ok (.iload 6, 2) := by decide +kernel
theorem dX0_cutBlock_55 : decode cX0_cutBlock 55 = .ok (.imul, 1) := by decide +kernel
theorem dX0_cutBlock_56 : decode cX0_cutBlock 56 = .ok (.iload_n 2, 1) := by decide +kernel
theorem dX0_cutBlock_57 : decode cX0_cutBlock 57 = .ok (.iload 6, 2) := by decide +kernel
theorem dX0_cutBlock_59 : decode cX0_cutBlock 59 = .ok (.iadd, 1) := by decide +kernel
theorem dX0_cutBlock_60 : decode cX0_cutBlock 60 = .ok (.iconst 1, 1) := by decide +kernel
theorem dX0_cutBlock_61 : decode cX0_cutBlock 61 = .ok (.isub, 1) := by decide +kernel
theorem dX0_cutBlock_62 : decode cX0_cutBlock 62 = .ok (.iload_n 3, 1) := by decide +kernel
theorem dX0_cutBlock_63 : decode cX0_cutBlock 63 = .ok (.iload 6, 2) := by decide +kernel
theorem dX0_cutBlock_65 : decode cX0_cutBlock 65 = .ok (.iadd, 1) := by decide +kernel
theorem dX0_cutBlock_66 : decode cX0_cutBlock 66 = .ok (.iconst 1, 1) := by decide +kernel
theorem dX0_cutBlock_67 : decode cX0_cutBlock 67 = .ok (.isub, 1) := by decide +kernel
theorem dX0_cutBlock_68 : decode cX0_cutBlock 68 = .ok (.invokevirtual 51, 3) := by decide +kernel
theorem dX0_cutBlock_71 : decode cX0_cutBlock 71 = .ok (.iconst 0, 1) := by decide +kernel
theorem dX0_cutBlock_72 : decode cX0_cutBlock 72 = .ok (.istore 8, 2) := by decide +kernel
theorem dX0_cutBlock_74 : decode cX0_cutBlock 74 = .ok (.iload 8, 2) := by decide +kernel
theorem dX0_cutBlock_76 : decode cX0_cutBlock 76 = .ok (.iconst 4, 1) := by decide +kernel
theorem dX0_cutBlock_77 : decode cX0_cutBlock 77 = .ok (.if_icmp .ge 92, 3) := by decide +kernel
theorem dX0_cutBlock_80 : decode cX0_cutBlock 80 = .ok (.iload 8, 2) := by decide +kernel
theorem dX0_cutBlock_82 : decode cX0_cutBlock 82 = .ok (.iconst 1, 1) := by decide +kernel
theorem dX0_cutBlock_83 : decode cX0_cutBlock 83 = .ok (.iand, 1) := by decide +kernel
theorem dX0_cutBlock_84 : decode cX0_cutBlock 84 = .ok (.istore 9, 2) := by decide +kernel
theorem dX0_cutBlock_86 : decode cX0_cutBlock 86 = .ok (.iload 8, 2) := by decide +kernel
theorem dX0_cutBlock_88 : decode cX0_cutBlock 88 = .ok (.iconst 1, 1) := by decide +kernel
theorem dX0_cutBlock_89 : decode cX0_cutBlock 89 = .ok (.ishr, 1) := by decide +kernel
theorem dX0_cutBlock_90 : decode cX0_cutBlock 90 = .ok (.istore 10, 2) := by decide +kernel
theorem dX0_cutBlock_92 : decode cX0_cutBlock 92 = .ok (.iload 8, 2) := by decide +kernel
theorem dX0_cutBlock_94 : decode cX0_cutBlock 94 = .ok (.iload 7, 2) := by decide +kernel
theorem dX0_cutBlock_96 : decode cX0_cutBlock 96 = .ok (.if_icmp .ne 8, 3) := by decide +kernel
theorem dX0_cutBlock_99 : decode cX0_cutBlock 99 = .ok (.iload 4, 2) := by decide +kernel
theorem dX0_cutBlock_101 : decode cX0_cutBlock 101 = .ok (.goto 12, 3) := by decide +kernel
theorem dX0_cutBlock_104 : decode cX0_cutBlock 104 = .ok (.iload_n 2, 1) := by decide +kernel
theorem dX0_cutBlock_105 : decode cX0_cutBlock 105 = .ok (.iload 6, 2) := by decide +kernel
theorem dX0_cutBlock_107 : decode cX0_cutBlock 107 = .ok (.iadd, 1) := by decide +kernel
theorem dX0_cutBlock_108 : decode cX0_cutBlock 108 = .ok (.iconst 1, 1) := by decide +kernel
theorem dX0_cutBlock_109 : decode cX0_cutBlock 109 = .ok (.isub, 1) := by decide +kernel
theorem dX0_cutBlock_110 : decode cX0_cutBlock 110 = .ok (.iload 9, 2) := by decide +kernel
theorem dX0_cutBlock_112 : decode cX0_cutBlock 112 = .ok (.iadd, 1) := by decide +kernel
theorem dX0_cutBlock_113 : decode cX0_cutBlock 113 = .ok (.istore 11, 2) := by decide +kernel
theorem dX0_cutBlock_115 : decode cX0_cutBlock 115 = .ok (.iload 8, 2) := by decide +kernel
theorem dX0_cutBlock_117 : decode cX0_cutBlock 117 = .ok (.iload 7, 2) := by decide +kernel
theorem dX0_cutBlock_119 : decode cX0_cutBlock 119 = .ok (.if_icmp .ne 8, 3) := by decide +kernel
theorem dX0_cutBlock_122 : decode cX0_cutBlock 122 = .ok (.iload 5, 2) := by decide +kernel
theorem dX0_cutBlock_124 : decode cX0_cutBlock 124 = .ok (.goto 12, 3) := by decide +kernel
theorem dX0_cutBlock_127 : decode cX0_cutBlock 127 = .ok (.iload_n 3, 1) := by decide +kernel
theorem dX0_cutBlock_128 : decode cX0_cutBlock 128 = .ok (.iload 6, 2) := by decide +kernel
theorem dX0_cutBlock_130 : decode cX0_cutBlock 130 = .ok (.iadd, 1) := by decide +kernel
theorem dX0_cutBlock_131 : decode cX0_cutBlock 131 = .ok (.iconst 1, 1) := by decide +kernel
theorem dX0_cutBlock_132 : decode cX0_cutBlock 132 = .ok (.isub, 1) := by decide +kernel
theorem dX0_cutBlock_133 : decode cX0_cutBlock 133 = .ok (.iload 10, 2) := by decide +kernel
theorem dX0_cutBlock_135 : decode cX0_cutBlock 135 = .ok (.iadd, 1) := by decide +kernel
theorem dX0_cutBlock_136 : decode cX0_cutBlock 136 = .ok (.istore 12, 2) := by decide +kernel
theorem dX0_cutBlock_138 : decode cX0_cutBlock 138 = .ok (.aload_n 0, 1) := by decide +kernel
theorem dX0_cutBlock_139 : decode cX0_cutBlock 139 = .ok (.iload_n 1, 1) := by decide +kernel
theorem dX0_cutBlock_140 : decode cX0_cutBlock 140 = .ok (.iconst 1, 1) := by decide +kernel
theorem dX0_cutBlock_141 : decode cX0_cutBlock 141 = .ok (.isub, 1) := by decide +kernel
theorem dX0_cutBlock_142 : decode cX0_cutBlock 142 = .ok (.iload_n 2, 1) := by decide +kernel
theorem dX0_cutBlock_143 : decode cX0_cutBlock 143 = .ok (.iload 9, 2) := by decide +kernel
theorem dX0_cutBlock_145 : decode cX0_cutBlock 145 = .ok (.iload 6, 2) := by decide +kernel
theorem dX0_cutBlock_147 : decode cX0_cutBlock 147 = .ok (.imul, 1) := by decide +kernel
theorem dX0_cutBlock_148 : decode cX0_cutBlock 148 = .ok (.iadd, 1) := by decide +kernel
theorem dX0_cutBlock_149 : decode cX0_cutBlock 149 = .ok (.iload_n 3, 1) := by decide +kernel
theorem dX0_cutBlock_150 : decode cX0_cutBlock 150 = .ok (.iload 10, 2) := by decide +kernel
theorem dX0_cutBlock_152 : decode cX0_cutBlock 152 = .ok (.iload 6, 2) := by decide +kernel
theorem dX0_cutBlock_154 : decode cX0_cutBlock 154 = .ok (.imul, 1) := by decide +kernel
theorem dX0_cutBlock_155 : decode cX0_cutBlock 155 = .ok (.iadd, 1) := by decide +kernel
theorem dX0_cutBlock_156 : decode cX0_cutBlock 156 = .ok (.iload 11, 2) := by decide +kernel
theorem dX0_cutBlock_158 : decode cX0_cutBlock 158 = .ok (.iload 12, 2) := by decide +kernel
theorem dX0_cutBlock_160 : decode cX0_cutBlock 160 = .ok (.invokestatic 47, 3) := by decide +kernel
theorem dX0_cutBlock_163 : decode cX0_cutBlock 163 = .ok (.iinc 8 1, 3) := by decide +kernel
theorem dX0_cutBlock_166 : decode cX0_cutBlock 166 = .ok (.goto (-92), 3) := by decide +kernel
theorem dX0_cutBlock_169 : decode cX0_cutBlock 169 = .ok (.return_, 1) := by decide +kernel
theorem dX0_lay_0 : decode cX0_lay 0 = .ok (.aload_n 0, 1) := by decide +kernel
theorem dX0_lay_1 : decode cX0_lay 1 = .ok (.getfield 44, 3) := by decide +kernel
theorem dX0_lay_4 : decode cX0_lay 4 = .ok (.bipush 85, 2) := by decide +kernel
theorem dX0_lay_6 : decode cX0_lay 6 = .ok (.if_icmp .lt 4, 3) := by decide +kernel
theorem dX0_lay_9 : decode cX0_lay 9 = .ok (.return_, 1) := by decide +kernel
theorem dX0_lay_10 : decode cX0_lay 10 = .ok (.aload_n 0, 1) := by decide +kernel
theorem dX0_lay_11 : decode cX0_lay 11 = .ok (.getfield 15, 3) := by decide +kernel
theorem dX0_lay_14 : decode cX0_lay 14 = .ok (.aload_n 0, 1) := by decide +kernel
theorem dX0_lay_15 : decode cX0_lay 15 = .ok (.getfield 44, 3) := by decide +kernel
theorem dX0_lay_18 : decode cX0_lay 18 = .ok (.iload_n 1, 1) := by decide +kernel
theorem dX0_lay_19 : decode cX0_lay 19 = .ok (.iastore, 1) := by decide +kernel
theorem dX0_lay_20 : decode cX0_lay 20 = .ok (.aload_n 0, 1) := by decide +kernel
theorem dX0_lay_21 : decode cX0_lay 21 = .ok (.getfield 18, 3) := by decide +kernel
theorem dX0_lay_24 : decode cX0_lay 24 = .ok (.aload_n 0, 1) := by decide +kernel
theorem dX0_lay_25 : decode cX0_lay 25 = .ok (.getfield 44, 3) := by decide +kernel
theorem dX0_lay_28 : decode cX0_lay 28 = .ok (.iload_n 2, 1) := by decide +kernel
theorem dX0_lay_29 : decode cX0_lay 29 = .ok (.iastore, 1) := by decide +kernel
theorem dX0_lay_30 : decode cX0_lay 30 = .ok (.aload_n 0, 1) := by decide +kernel
theorem dX0_lay_31 : decode cX0_lay 31 = .ok (.getfield 21, 3) := by decide +kernel
theorem dX0_lay_34 : decode cX0_lay 34 = .ok (.aload_n 0, 1) := by decide +kernel
theorem dX0_lay_35 : decode cX0_lay 35 = .ok (.getfield 44, 3) := by decide +kernel
theorem dX0_lay_38 : decode cX0_lay 38 = .ok (.iload_n 3, 1) := by decide +kernel
theorem dX0_lay_39 : decode cX0_lay 39 = .ok (.iastore, 1) := by decide +kernel
theorem dX0_lay_40 : decode cX0_lay 40 = .ok (.aload_n 0, 1) := by decide +kernel
theorem dX0_lay_41 : decode cX0_lay 41 = .ok (.getfield 24, 3) := by decide +kernel
theorem dX0_lay_44 : decode cX0_lay 44 = .ok (.aload_n 0, 1) := by decide +kernel
theorem dX0_lay_45 : decode cX0_lay 45 = .ok (.getfield 44, 3) := by decide +kernel
theorem dX0_lay_48 : decode cX0_lay 48 = .ok (.iload 4, 2) := by decide +kernel
theorem dX0_lay_50 : decode cX0_lay 50 = .ok (.iastore, 1) := by decide +kernel
theorem dX0_lay_51 : decode cX0_lay 51 = .ok (.iconst 0, 1) := by decide +kernel
theorem dX0_lay_52 : decode cX0_lay 52 = .ok (.istore 5, 2) := by decide +kernel
theorem dX0_lay_54 : decode cX0_lay 54 = .ok (.iload 5, 2) := by decide +kernel
theorem dX0_lay_56 : decode cX0_lay 56 = .ok (.iconst 4, 1) := by decide +kernel
theorem dX0_lay_57 : decode cX0_lay 57 = .ok (.if_icmp .ge 60, 3) := by decide +kernel
theorem dX0_lay_60 : decode cX0_lay 60 = .ok (.iload_n 3, 1) := by decide +kernel
theorem dX0_lay_61 : decode cX0_lay 61 = .ok (.iload 5, 2) := by decide +kernel
theorem dX0_lay_63 : decode cX0_lay 63 = .ok (.iconst 1, 1) := by decide +kernel
theorem dX0_lay_64 : decode cX0_lay 64 = .ok (.iand, 1) := by decide +kernel
theorem dX0_lay_65 : decode cX0_lay 65 = .ok (.iadd, 1) := by decide +kernel
theorem dX0_lay_66 : decode cX0_lay 66 = .ok (.istore 6, 2) := by decide +kernel
theorem dX0_lay_68 : decode cX0_lay 68 = .ok (.iload 4, 2) := by decide +kernel
theorem dX0_lay_70 : decode cX0_lay 70 = .ok (.iload 5, 2) := by decide +kernel
theorem dX0_lay_72 : decode cX0_lay 72 = .ok (.iconst 1, 1) := by decide +kernel
theorem dX0_lay_73 : decode cX0_lay 73 = .ok (.ishr, 1) := by decide +kernel
theorem dX0_lay_74 : decode cX0_lay 74 = .ok (.iadd, 1) := by decide +kernel
theorem dX0_lay_75 : decode cX0_lay 75 = .ok (.istore 7, 2) := by decide +kernel
theorem dX0_lay_77 : decode cX0_lay 77 = .ok (.iload 5, 2) := by decide +kernel
theorem dX0_lay_79 : decode cX0_lay 79 = .ok (.iload_n 1, 1) := by decide +kernel
theorem dX0_lay_80 : decode cX0_lay 80 = .ok (.if_icmp .eq 31, 3) := by decide +kernel
theorem dX0_lay_83 : decode cX0_lay 83 = .ok (.aload_n 0, 1) := by decide +kernel
theorem dX0_lay_84 : decode cX0_lay 84 = .ok (.iload 6, 2) := by decide +kernel
theorem dX0_lay_86 : decode cX0_lay 86 = .ok (.iload 7, 2) := by decide +kernel
theorem dX0_lay_88 : decode cX0_lay 88 = .ok (.invokevirtual 55, 3) := by decide +kernel
theorem dX0_lay_91 : decode cX0_lay 91 = .ok (.ifCond .eq 20, 3) := by decide +kernel
theorem dX0_lay_94 : decode cX0_lay 94 = .ok (.aload_n 0, 1) := by decide +kernel
theorem dX0_lay_95 : decode cX0_lay 95 = .ok (.getfield 11, 3) := by decide +kernel
theorem dX0_lay_98 : decode cX0_lay 98 = .ok (.iload 7, 2) := by decide +kernel
theorem dX0_lay_100 : decode cX0_lay 100 = .ok (.bipush 16, 2) := by decide +kernel
theorem dX0_lay_102 : decode cX0_lay 102 = .ok (.imul, 1) := by decide +kernel
theorem dX0_lay_103 : decode cX0_lay 103 = .ok (.iload 6, 2) := by decide +kernel
theorem dX0_lay_105 : decode cX0_lay 105 = .ok (.iadd, 1) := by decide +kernel
theorem dX0_lay_106 : decode cX0_lay 106 = .ok (.aload_n 0, 1) := by decide +kernel
theorem dX0_lay_107 : decode cX0_lay 107 = .ok (.getfield 44, 3) := by decide +kernel
theorem dX0_lay_110 : decode cX0_lay 110 = .ok (.iastore, 1) := by decide +kernel
theorem dX0_lay_111 : decode cX0_lay 111 = .ok (.iinc 5 1, 3) := by decide +kernel
theorem dX0_lay_114 : decode cX0_lay 114 = .ok (.goto (-60), 3) := by decide +kernel
theorem dX0_lay_117 : decode cX0_lay 117 = .ok (.aload_n 0, 1) := by decide +kernel
theorem dX0_lay_118 : decode cX0_lay 118 = .ok (.dup, 1) := by decide +kernel
theorem dX0_lay_119 : decode cX0_lay 119 = .ok (.getfield 44, 3) := by decide +kernel
theorem dX0_lay_122 : decode cX0_lay 122 = .ok (.iconst 1, 1) := by decide +kernel
theorem dX0_lay_123 : decode cX0_lay 123 = .ok (.iadd, 1) := by decide +kernel
theorem dX0_lay_124 : decode cX0_lay 124 = .ok (.putfield 44, 3) := by decide +kernel
theorem dX0_lay_127 : decode cX0_lay 127 = .ok (.return_, 1) := by decide +kernel
theorem dX0_has_0 : decode cX0_has 0 = .ok (.aload_n 0, 1) := by decide +kernel
theorem dX0_has_1 : decode cX0_has 1 = .ok (.getfield 31, 3) := by decide +kernel
theorem dX0_has_4 : decode cX0_has 4 = .ok (.iload_n 1, 1) := by decide +kernel
theorem dX0_has_5 : decode cX0_has 5 = .ok (.iload_n 2, 1) := by decide +kernel
theorem dX0_has_6 : decode cX0_has 6 = .ok (.invokestatic 59, 3) := by decide +kernel
theorem dX0_has_9 : decode cX0_has 9 = .ok (.ireturn, 1) := by decide +kernel
theorem dX0_hasPiece_0 : decode cX0_hasPiece 0 = .ok (.iload_n 1, 1) := by decide +kernel
theorem dX0_hasPiece_1 : decode cX0_hasPiece 1 = .ok (.ifCond .lt 15, 3) := by decide +kernel
theorem dX0_hasPiece_4 : decode cX0_hasPiece 4 = .ok (.iload_n 1, 1) := by decide +kernel
theorem dX0_hasPiece_5 : decode cX0_hasPiece 5 = .ok (.aload_n 0, 1) := by decide +kernel
theorem dX0_hasPiece_6 : decode cX0_hasPiece 6 = .ok (.getfield 44, 3) := by decide +kernel
theorem dX0_hasPiece_9 : decode cX0_hasPiece 9 = .ok (.if_icmp .ge 7, 3) := by decide +kernel
theorem dX0_hasPiece_12 : decode cX0_hasPiece 12 = .ok (.iconst 1, 1) := by decide +kernel
theorem dX0_hasPiece_13 : decode cX0_hasPiece 13 = .ok (.goto 4, 3) := by decide +kernel
theorem dX0_hasPiece_16 : decode cX0_hasPiece 16 = .ok (.iconst 0, 1) := by decide +kernel
theorem dX0_hasPiece_17 : decode cX0_hasPiece 17 = .ok (.ireturn, 1) := by decide +kernel
theorem dX0_pieceAt_0 : decode cX0_pieceAt 0 = .ok (.aload_n 0, 1) := by decide +kernel
theorem dX0_pieceAt_1 : decode cX0_pieceAt 1 = .ok (.iload_n 1, 1) := by decide +kernel
theorem dX0_pieceAt_2 : decode cX0_pieceAt 2 = .ok (.iload_n 2, 1) := by decide +kernel
theorem dX0_pieceAt_3 : decode cX0_pieceAt 3 = .ok (.invokevirtual 55, 3) := by decide +kernel
theorem dX0_pieceAt_6 : decode cX0_pieceAt 6 = .ok (.ifCond .eq 17, 3) := by decide +kernel
theorem dX0_pieceAt_9 : decode cX0_pieceAt 9 = .ok (.aload_n 0, 1) := by decide +kernel
theorem dX0_pieceAt_10 : decode cX0_pieceAt 10 = .ok (.getfield 11, 3) := by decide +kernel
theorem dX0_pieceAt_13 : decode cX0_pieceAt 13 = .ok (.iload_n 2, 1) := by decide +kernel
theorem dX0_pieceAt_14 : decode cX0_pieceAt 14 = .ok (.bipush 16, 2) := by decide +kernel
theorem dX0_pieceAt_16 : decode cX0_pieceAt 16 = .ok (.imul, 1) := by decide +kernel
theorem dX0_pieceAt_17 : decode cX0_pieceAt 17 = .ok (.iload_n 1, 1) := by decide +kernel
theorem dX0_pieceAt_18 : decode cX0_pieceAt 18 = .ok (.iadd, 1) := by decide +kernel
theorem dX0_pieceAt_19 : decode cX0_pieceAt 19 = .ok (.iaload, 1) := by decide +kernel
theorem dX0_pieceAt_20 : decode cX0_pieceAt 20 = .ok (.goto 5, 3) := by decide +kernel
theorem dX0_pieceAt_23 : decode cX0_pieceAt 23 = .ok (.bipush (-9), 2) := by decide +kernel
theorem dX0_pieceAt_25 : decode cX0_pieceAt 25 = .ok (.ireturn, 1) := by decide +kernel
theorem dX0_wayOf_0 : decode cX0_wayOf 0 = .ok (.aload_n 0, 1) := by decide +kernel
theorem dX0_wayOf_1 : decode cX0_wayOf 1 = .ok (.getfield 15, 3) := by decide +kernel
theorem dX0_wayOf_4 : decode cX0_wayOf 4 = .ok (.iload_n 1, 1) := by decide +kernel
theorem dX0_wayOf_5 : decode cX0_wayOf 5 = .ok (.iaload, 1) := by decide +kernel
theorem dX0_wayOf_6 : decode cX0_wayOf 6 = .ok (.ireturn, 1) := by decide +kernel
theorem dX0_sizeOf_0 : decode cX0_sizeOf 0 = .ok (.aload_n 0, 1) := by decide +kernel
theorem dX0_sizeOf_1 : decode cX0_sizeOf 1 = .ok (.getfield 18, 3) := by decide +kernel
theorem dX0_sizeOf_4 : decode cX0_sizeOf 4 = .ok (.iload_n 1, 1) := by decide +kernel
theorem dX0_sizeOf_5 : decode cX0_sizeOf 5 = .ok (.iaload, 1) := by decide +kernel
theorem dX0_sizeOf_6 : decode cX0_sizeOf 6 = .ok (.ireturn, 1) := by decide +kernel
theorem dX0_cornerX_0 : decode cX0_cornerX 0 = .ok (.iconst 3, 1) := by decide +kernel
theorem dX0_cornerX_1 : decode cX0_cornerX 1 = .ok (.aload_n 0, 1) := by decide +kernel
theorem dX0_cornerX_2 : decode cX0_cornerX 2 = .ok (.getfield 15, 3) := by decide +kernel
theorem dX0_cornerX_5 : decode cX0_cornerX 5 = .ok (.iload_n 1, 1) := by decide +kernel
theorem dX0_cornerX_6 : decode cX0_cornerX 6 = .ok (.iaload, 1) := by decide +kernel
theorem dX0_cornerX_7 : decode cX0_cornerX 7 = .ok (.isub, 1) := by decide +kernel
theorem dX0_cornerX_8 : decode cX0_cornerX 8 = .ok (.istore_n 2, 1) := by decide +kernel
theorem dX0_cornerX_9 : decode cX0_cornerX 9 = .ok (.aload_n 0, 1) := by decide +kernel
theorem dX0_cornerX_10 : decode cX0_cornerX 10 = .ok (.getfield 21, 3) := by decide +kernel
theorem dX0_cornerX_13 : decode cX0_cornerX 13 = .ok (.iload_n 1, 1) := by decide +kernel
theorem dX0_cornerX_14 : decode cX0_cornerX 14 = .ok (.iaload, 1) := by decide +kernel
theorem dX0_cornerX_15 : decode cX0_cornerX 15 = .ok (.iload_n 2, 1) := by decide +kernel
theorem dX0_cornerX_16 : decode cX0_cornerX 16 = .ok (.iconst 1, 1) := by decide +kernel
theorem dX0_cornerX_17 : decode cX0_cornerX 17 = .ok (.iand, 1) := by decide +kernel
theorem dX0_cornerX_18 : decode cX0_cornerX 18 = .ok (.iadd, 1) := by decide +kernel
theorem dX0_cornerX_19 : decode cX0_cornerX 19 = .ok (.ireturn, 1) := by decide +kernel
theorem dX0_cornerY_0 : decode cX0_cornerY 0 = .ok (.iconst 3, 1) := by decide +kernel
theorem dX0_cornerY_1 : decode cX0_cornerY 1 = .ok (.aload_n 0, 1) := by decide +kernel
theorem dX0_cornerY_2 : decode cX0_cornerY 2 = .ok (.getfield 15, 3) := by decide +kernel
theorem dX0_cornerY_5 : decode cX0_cornerY 5 = .ok (.iload_n 1, 1) := by decide +kernel
theorem dX0_cornerY_6 : decode cX0_cornerY 6 = .ok (.iaload, 1) := by decide +kernel
theorem dX0_cornerY_7 : decode cX0_cornerY 7 = .ok (.isub, 1) := by decide +kernel
theorem dX0_cornerY_8 : decode cX0_cornerY 8 = .ok (.istore_n 2, 1) := by decide +kernel
theorem dX0_cornerY_9 : decode cX0_cornerY 9 = .ok (.aload_n 0, 1) := by decide +kernel
theorem dX0_cornerY_10 : decode cX0_cornerY 10 = .ok (.getfield 24, 3) := by decide +kernel
theorem dX0_cornerY_13 : decode cX0_cornerY 13 = .ok (.iload_n 1, 1) := by decide +kernel
theorem dX0_cornerY_14 : decode cX0_cornerY 14 = .ok (.iaload, 1) := by decide +kernel
theorem dX0_cornerY_15 : decode cX0_cornerY 15 = .ok (.iload_n 2, 1) := by decide +kernel
theorem dX0_cornerY_16 : decode cX0_cornerY 16 = .ok (.iconst 1, 1) := by decide +kernel
theorem dX0_cornerY_17 : decode cX0_cornerY 17 = .ok (.ishr, 1) := by decide +kernel
theorem dX0_cornerY_18 : decode cX0_cornerY 18 = .ok (.iadd, 1) := by decide +kernel
theorem dX0_cornerY_19 : decode cX0_cornerY 19 = .ok (.ireturn, 1) := by decide +kernel
theorem dX0_touching_0 : decode cX0_touching 0 = .ok (.iconst 0, 1) := by decide +kernel
theorem dX0_touching_1 : decode cX0_touching 1 = .ok (.istore_n 2, 1) := by decide +kernel
theorem dX0_touching_2 : decode cX0_touching 2 = .ok (.iload_n 2, 1) := by decide +kernel
theorem dX0_touching_3 : decode cX0_touching 3 = .ok (.aload_n 0, 1) := by decide +kernel
theorem dX0_touching_4 : decode cX0_touching 4 = .ok (.getfield 27, 3) := by decide +kernel
theorem dX0_touching_7 : decode cX0_touching 7 = .ok (.arraylength, 1) := by decide +kernel
theorem dX0_touching_8 : decode cX0_touching 8 = .ok (.if_icmp .ge 16, 3) := by decide +kernel
theorem dX0_touching_11 : decode cX0_touching 11 = .ok (.aload_n 0, 1) := by decide +kernel
theorem dX0_touching_12 : decode cX0_touching 12 = .ok (.getfield 27, 3) := by decide +kernel
theorem dX0_touching_15 : decode cX0_touching 15 = .ok (.iload_n 2, 1) := by decide +kernel
theorem dX0_touching_16 : decode cX0_touching 16 = .ok (.iconst 0, 1) := by decide +kernel
theorem dX0_touching_17 : decode cX0_touching 17 = .ok (.bastore, 1) := by decide +kernel
theorem dX0_touching_18 : decode cX0_touching 18 = .ok (.iinc 2 1, 3) := by decide +kernel
theorem dX0_touching_21 : decode cX0_touching 21 = .ok (.goto (-19), 3) := by decide +kernel
theorem dX0_touching_24 : decode cX0_touching 24 = .ok (.iconst 0, 1) := by decide +kernel
theorem dX0_touching_25 : decode cX0_touching 25 = .ok (.istore_n 2, 1) := by decide +kernel
theorem dX0_touching_26 : decode cX0_touching 26 = .ok (.iload_n 2, 1) := by decide +kernel
theorem dX0_touching_27 : decode cX0_touching 27 = .ok (.iconst 4, 1) := by decide +kernel
theorem dX0_touching_28 : decode cX0_touching 28 = .ok (.if_icmp .ge 43, 3) := by decide +kernel
theorem dX0_touching_31 : decode cX0_touching 31 = .ok (.iload_n 2, 1) := by decide +kernel
theorem dX0_touching_32 : decode cX0_touching 32 = .ok (.aload_n 0, 1) := by decide +kernel
theorem dX0_touching_33 : decode cX0_touching 33 = .ok (.getfield 15, 3) := by decide +kernel
theorem dX0_touching_36 : decode cX0_touching 36 = .ok (.iload_n 1, 1) := by decide +kernel
theorem dX0_touching_37 : decode cX0_touching 37 = .ok (.iaload, 1) := by decide +kernel
theorem dX0_touching_38 : decode cX0_touching 38 = .ok (.if_icmp .eq 27, 3) := by decide +kernel
theorem dX0_touching_41 : decode cX0_touching 41 = .ok (.aload_n 0, 1) := by decide +kernel
theorem dX0_touching_42 : decode cX0_touching 42 = .ok (.aload_n 0, 1) := by decide +kernel
theorem dX0_touching_43 : decode cX0_touching 43 = .ok (.getfield 21, 3) := by decide +kernel
theorem dX0_touching_46 : decode cX0_touching 46 = .ok (.iload_n 1, 1) := by decide +kernel
theorem dX0_touching_47 : decode cX0_touching 47 = .ok (.iaload, 1) := by decide +kernel
theorem dX0_touching_48 : decode cX0_touching 48 = .ok (.iload_n 2, 1) := by decide +kernel
theorem dX0_touching_49 : decode cX0_touching 49 = .ok (.iconst 1, 1) := by decide +kernel
theorem dX0_touching_50 : decode cX0_touching 50 = .ok (.iand, 1) := by decide +kernel
theorem dX0_touching_51 : decode cX0_touching 51 = .ok (.iadd, 1) := by decide +kernel
theorem dX0_touching_52 : decode cX0_touching 52 = .ok (.aload_n 0, 1) := by decide +kernel
theorem dX0_touching_53 : decode cX0_touching 53 = .ok (.getfield 24, 3) := by decide +kernel
theorem dX0_touching_56 : decode cX0_touching 56 = .ok (.iload_n 1, 1) := by decide +kernel
theorem dX0_touching_57 : decode cX0_touching 57 = .ok (.iaload, 1) := by decide +kernel
theorem dX0_touching_58 : decode cX0_touching 58 = .ok (.iload_n 2, 1) := by decide +kernel
theorem dX0_touching_59 : decode cX0_touching 59 = .ok (.iconst 1, 1) := by decide +kernel
theorem dX0_touching_60 : decode cX0_touching 60 = .ok (.ishr, 1) := by decide +kernel
theorem dX0_touching_61 : decode cX0_touching 61 = .ok (.iadd, 1) := by decide +kernel
theorem dX0_touching_62 : decode cX0_touching 62 = .ok (.invokevirtual 63, 3) := by decide +kernel
theorem dX0_touching_65 : decode cX0_touching 65 = .ok (.iinc 2 1, 3) := by decide +kernel
theorem dX0_touching_68 : decode cX0_touching 68 = .ok (.goto (-42), 3) := by decide +kernel
theorem dX0_touching_71 : decode cX0_touching 71 = .ok (.aload_n 0, 1) := by decide +kernel
theorem dX0_touching_72 : decode cX0_touching 72 = .ok (.getfield 27, 3) := by decide +kernel
theorem dX0_touching_75 : decode cX0_touching 75 = .ok (.iload_n 1, 1) := by decide +kernel
theorem dX0_touching_76 : decode cX0_touching 76 = .ok (.iconst 0, 1) := by decide +kernel
theorem dX0_touching_77 : decode cX0_touching 77 = .ok (.bastore, 1) := by decide +kernel
theorem dX0_touching_78 : decode cX0_touching 78 = .ok (.iconst 0, 1) := by decide +kernel
theorem dX0_touching_79 : decode cX0_touching 79 = .ok (.istore_n 2, 1) := by decide +kernel
theorem dX0_touching_80 : decode cX0_touching 80 = .ok (.iconst 0, 1) := by decide +kernel
theorem dX0_touching_81 : decode cX0_touching 81 = .ok (.istore_n 3, 1) := by decide +kernel
theorem dX0_touching_82 : decode cX0_touching 82 = .ok (.iload_n 3, 1) := by decide +kernel
theorem dX0_touching_83 : decode cX0_touching 83 = .ok (.aload_n 0, 1) := by decide +kernel
theorem dX0_touching_84 : decode cX0_touching 84 = .ok (.getfield 44, 3) := by decide +kernel
theorem dX0_touching_87 : decode cX0_touching 87 = .ok (.if_icmp .ge 26, 3) := by decide +kernel
theorem dX0_touching_90 : decode cX0_touching 90 = .ok (.iload_n 2, 1) := by decide +kernel
theorem dX0_touching_91 : decode cX0_touching 91 = .ok (.aload_n 0, 1) := by decide +kernel
theorem dX0_touching_92 : decode cX0_touching 92 = .ok (.getfield 27, 3) := by decide +kernel
theorem dX0_touching_95 : decode cX0_touching 95 = .ok (.iload_n 3, 1) := by decide +kernel
theorem dX0_touching_96 : decode cX0_touching 96 = .ok (.baload, 1) := by decide +kernel
theorem dX0_touching_97 : decode cX0_touching 97 = .ok (.ifCond .eq 7, 3) := by decide +kernel
theorem dX0_touching_100 : decode cX0_touching 100 = .ok (.iconst 1, 1) := by decide +kernel
theorem dX0_touching_101 : decode cX0_touching 101 = .ok (.goto 4, 3) := by decide +kernel
theorem dX0_touching_104 : decode cX0_touching 104 = .ok (.iconst 0, 1) := by decide +kernel
theorem dX0_touching_105 : decode cX0_touching 105 = .ok (.iadd, 1) := by decide +kernel
theorem dX0_touching_106 : decode cX0_touching 106 = .ok (.istore_n 2, 1) := by decide +kernel
theorem dX0_touching_107 : decode cX0_touching 107 = .ok (.iinc 3 1, 3) := by decide +kernel
theorem dX0_touching_110 : decode cX0_touching 110 = .ok (.goto (-28), 3) := by decide +kernel
theorem dX0_touching_113 : decode cX0_touching 113 = .ok (.iload_n 2, 1) := by decide +kernel
theorem dX0_touching_114 : decode cX0_touching 114 = .ok (.ireturn, 1) := by decide +kernel
theorem dX0_touchAround_0 : decode cX0_touchAround 0 = .ok (.aload_n 0, 1) := by decide +kernel
theorem dX0_touchAround_1 : decode cX0_touchAround 1 = .ok (.iload_n 1, 1) := by decide +kernel
theorem dX0_touchAround_2 : decode cX0_touchAround 2 = .ok (.iconst 1, 1) := by decide +kernel
theorem dX0_touchAround_3 : decode cX0_touchAround 3 = .ok (.isub, 1) := by decide +kernel
theorem dX0_touchAround_4 : decode cX0_touchAround 4 = .ok (.iload_n 2, 1) := by decide +kernel
theorem dX0_touchAround_5 : decode cX0_touchAround 5 = .ok (.invokevirtual 67, 3) := by decide +kernel
theorem dX0_touchAround_8 : decode cX0_touchAround 8 = .ok (.aload_n 0, 1) := by decide +kernel
theorem dX0_touchAround_9 : decode cX0_touchAround 9 = .ok (.iload_n 1, 1) := by decide +kernel
theorem dX0_touchAround_10 : decode cX0_touchAround 10 = .ok (.iconst 1, 1) := by decide +kernel
theorem dX0_touchAround_11 : decode cX0_touchAround 11 = .ok (.iadd, 1) := by decide +kernel
theorem dX0_touchAround_12 : decode cX0_touchAround 12 = .ok (.iload_n 2, 1) := by decide +kernel
theorem dX0_touchAround_13 : decode cX0_touchAround 13 = .ok (.invokevirtual 67, 3) := by decide +kernel
theorem dX0_touchAround_16 : decode cX0_touchAround 16 = .ok (.aload_n 0, 1) := by decide +kernel
theorem dX0_touchAround_17 : decode cX0_touchAround 17 = .ok (.iload_n 1, 1) := by decide +kernel
theorem dX0_touchAround_18 : decode cX0_touchAround 18 = .ok (.iload_n 2, 1) := by decide +kernel
theorem dX0_touchAround_19 : decode cX0_touchAround 19 = .ok (.iconst 1, 1) := by decide +kernel
theorem dX0_touchAround_20 : decode cX0_touchAround 20 = .ok (.isub, 1) := by decide +kernel
theorem dX0_touchAround_21 : decode cX0_touchAround 21 = .ok (.invokevirtual 67, 3) := by decide +kernel
theorem dX0_touchAround_24 : decode cX0_touchAround 24 = .ok (.aload_n 0, 1) := by decide +kernel
theorem dX0_touchAround_25 : decode cX0_touchAround 25 = .ok (.iload_n 1, 1) := by decide +kernel
theorem dX0_touchAround_26 : decode cX0_touchAround 26 = .ok (.iload_n 2, 1) := by decide +kernel
theorem dX0_touchAround_27 : decode cX0_touchAround 27 = .ok (.iconst 1, 1) := by decide +kernel
theorem dX0_touchAround_28 : decode cX0_touchAround 28 = .ok (.iadd, 1) := by decide +kernel
theorem dX0_touchAround_29 : decode cX0_touchAround 29 = .ok (.invokevirtual 67, 3) := by decide +kernel
theorem dX0_touchAround_32 : decode cX0_touchAround 32 = .ok (.return_, 1) := by decide +kernel
theorem dX0_touch_0 : decode cX0_touch 0 = .ok (.aload_n 0, 1) := by decide +kernel
theorem dX0_touch_1 : decode cX0_touch 1 = .ok (.iload_n 1, 1) := by decide +kernel
theorem dX0_touch_2 : decode cX0_touch 2 = .ok (.iload_n 2, 1) := by decide +kernel
theorem dX0_touch_3 : decode cX0_touch 3 = .ok (.invokevirtual 70, 3) := by decide +kernel
theorem dX0_touch_6 : decode cX0_touch 6 = .ok (.istore_n 3, 1) := by decide +kernel
theorem dX0_touch_7 : decode cX0_touch 7 = .ok (.aload_n 0, 1) := by decide +kernel
theorem dX0_touch_8 : decode cX0_touch 8 = .ok (.iload_n 3, 1) := by decide +kernel
theorem dX0_touch_9 : decode cX0_touch 9 = .ok (.invokevirtual 74, 3) := by decide +kernel
theorem dX0_touch_12 : decode cX0_touch 12 = .ok (.ifCond .eq 10, 3) := by decide +kernel
theorem dX0_touch_15 : decode cX0_touch 15 = .ok (.aload_n 0, 1) := by decide +kernel
theorem dX0_touch_16 : decode cX0_touch 16 = .ok (.getfield 27, 3) := by decide +kernel
theorem dX0_touch_19 : decode cX0_touch 19 = .ok (.iload_n 3, 1) := by decide +kernel
theorem dX0_touch_20 : decode cX0_touch 20 = .ok (.iconst 1, 1) := by decide +kernel
theorem dX0_touch_21 : decode cX0_touch 21 = .ok (.bastore, 1) := by decide +kernel
theorem dX0_touch_22 : decode cX0_touch 22 = .ok (.return_, 1) := by decide +kernel
theorem dX0_inWindow_0 : decode cX0_inWindow 0 = .ok (.iconst 0, 1) := by decide +kernel
theorem dX0_inWindow_1 : decode cX0_inWindow 1 = .ok (.istore 5, 2) := by decide +kernel
theorem dX0_inWindow_3 : decode cX0_inWindow 3 = .ok (.iconst 0, 1) := by decide +kernel
theorem dX0_inWindow_4 : decode cX0_inWindow 4 = .ok (.istore 6, 2) := by decide +kernel
theorem dX0_inWindow_6 : decode cX0_inWindow 6 = .ok (.iload 6, 2) := by decide +kernel
theorem dX0_inWindow_8 : decode cX0_inWindow 8 = .ok (.aload_n 0, 1) := by decide +kernel
theorem dX0_inWindow_9 : decode cX0_inWindow 9 = .ok (.getfield 44, 3) := by decide +kernel
theorem dX0_inWindow_12 : decode cX0_inWindow 12 = .ok (.if_icmp .ge 92, 3) := by decide +kernel
theorem dX0_inWindow_15 : decode cX0_inWindow 15 = .ok (.aload_n 0, 1) := by decide +kernel
theorem dX0_inWindow_16 : decode cX0_inWindow 16 = .ok (.getfield 21, 3) := by decide +kernel
theorem dX0_inWindow_19 : decode cX0_inWindow 19 = .ok (.iload 6, 2) := by decide +kernel
theorem dX0_inWindow_21 : decode cX0_inWindow 21 = .ok (.iaload, 1) := by decide +kernel
theorem dX0_inWindow_22 : decode cX0_inWindow 22 = .ok (.iload_n 1, 1) := by decide +kernel
theorem dX0_inWindow_23 : decode cX0_inWindow 23 = .ok (.if_icmp .lt 20, 3) := by decide +kernel
theorem dX0_inWindow_26 : decode cX0_inWindow 26 = .ok (.aload_n 0, 1) := by decide +kernel
theorem dX0_inWindow_27 : decode cX0_inWindow 27 = .ok (.getfield 21, 3) := by decide +kernel
theorem dX0_inWindow_30 : decode cX0_inWindow 30 = .ok (.iload 6, 2) := by decide +kernel
theorem dX0_inWindow_32 : decode cX0_inWindow 32 = .ok (.iaload, 1) := by decide +kernel
theorem dX0_inWindow_33 : decode cX0_inWindow 33 = .ok (.iconst 1, 1) := by decide +kernel
theorem dX0_inWindow_34 : decode cX0_inWindow 34 = .ok (.iadd, 1) := by decide +kernel
theorem dX0_inWindow_35 : decode cX0_inWindow 35 = .ok (.iload_n 2, 1) := by decide +kernel
theorem dX0_inWindow_36 : decode cX0_inWindow 36 = .ok (.if_icmp .gt 7, 3) := by decide +kernel
theorem dX0_inWindow_39 : decode cX0_inWindow 39 = .ok (.iconst 1, 1) := by decide +kernel
theorem dX0_inWindow_40 : decode cX0_inWindow 40 = .ok (.goto 4, 3) := by decide +kernel
theorem dX0_inWindow_43 : decode cX0_inWindow 43 = .ok (.iconst 0, 1) := by decide +kernel
theorem dX0_inWindow_44 : decode cX0_inWindow 44 = .ok (.istore 7, 2) := by decide +kernel
theorem dX0_inWindow_46 : decode cX0_inWindow 46 = .ok (.aload_n 0, 1) := by decide +kernel
theorem dX0_inWindow_47 : decode cX0_inWindow 47 = .ok (.getfield 24, 3) := by decide +kernel
theorem dX0_inWindow_50 : decode cX0_inWindow 50 = .ok (.iload 6, 2) := by decide +kernel
theorem dX0_inWindow_52 : decode cX0_inWindow 52 = .ok (.iaload, 1) := by decide +kernel
theorem dX0_inWindow_53 : decode cX0_inWindow 53 = .ok (.iload_n 3, 1) := by decide +kernel
theorem dX0_inWindow_54 : decode cX0_inWindow 54 = .ok (.if_icmp .lt 21, 3) := by decide +kernel
theorem dX0_inWindow_57 : decode cX0_inWindow 57 = .ok (.aload_n 0, 1) := by decide +kernel
theorem dX0_inWindow_58 : decode cX0_inWindow 58 = .ok (.getfield 24, 3) := by decide +kernel
theorem dX0_inWindow_61 : decode cX0_inWindow 61 = .ok (.iload 6, 2) := by decide +kernel
theorem dX0_inWindow_63 : decode cX0_inWindow 63 = .ok (.iaload, 1) := by decide +kernel
theorem dX0_inWindow_64 : decode cX0_inWindow 64 = .ok (.iconst 1, 1) := by decide +kernel
theorem dX0_inWindow_65 : decode cX0_inWindow 65 = .ok (.iadd, 1) := by decide +kernel
theorem dX0_inWindow_66 : decode cX0_inWindow 66 = .ok (.iload 4, 2) := by decide +kernel
theorem dX0_inWindow_68 : decode cX0_inWindow 68 = .ok (.if_icmp .gt 7, 3) := by decide +kernel
theorem dX0_inWindow_71 : decode cX0_inWindow 71 = .ok (.iconst 1, 1) := by decide +kernel
theorem dX0_inWindow_72 : decode cX0_inWindow 72 = .ok (.goto 4, 3) := by decide +kernel
theorem dX0_inWindow_75 : decode cX0_inWindow 75 = .ok (.iconst 0, 1) := by decide +kernel
theorem dX0_inWindow_76 : decode cX0_inWindow 76 = .ok (.istore 8, 2) := by decide +kernel
theorem dX0_inWindow_78 : decode cX0_inWindow 78 = .ok (.iload 5, 2) := by decide +kernel
theorem dX0_inWindow_80 : decode cX0_inWindow 80 = .ok (.iload 7, 2) := by decide +kernel
theorem dX0_inWindow_82 : decode cX0_inWindow 82 = .ok (.ifCond .eq 12, 3) := by decide +kernel
theorem dX0_inWindow_85 : decode cX0_inWindow 85 = .ok (.iload 8, 2) := by decide +kernel
theorem dX0_inWindow_87 : decode cX0_inWindow 87 = .ok (.ifCond .eq 7, 3) := by decide +kernel
theorem dX0_inWindow_90 : decode cX0_inWindow 90 = .ok (.iconst 1, 1) := by decide +kernel
theorem dX0_inWindow_91 : decode cX0_inWindow 91 = .ok (.goto 4, 3) := by decide +kernel
theorem dX0_inWindow_94 : decode cX0_inWindow 94 = .ok (.iconst 0, 1) := by decide +kernel
theorem dX0_inWindow_95 : decode cX0_inWindow 95 = .ok (.iadd, 1) := by decide +kernel
theorem dX0_inWindow_96 : decode cX0_inWindow 96 = .ok (.istore 5, 2) := by decide +kernel
theorem dX0_inWindow_98 : decode cX0_inWindow 98 = .ok (.iinc 6 1, 3) := by decide +kernel
theorem dX0_inWindow_101 : decode cX0_inWindow 101 = .ok (.goto (-95), 3) := by decide +kernel
theorem dX0_inWindow_104 : decode cX0_inWindow 104 = .ok (.iload 5, 2) := by decide +kernel
theorem dX0_inWindow_106 : decode cX0_inWindow 106 = .ok (.ireturn, 1) := by decide +kernel
theorem dX0_atBorder_0 : decode cX0_atBorder 0 = .ok (.aload_n 0, 1) := by decide +kernel
theorem dX0_atBorder_1 : decode cX0_atBorder 1 = .ok (.getfield 44, 3) := by decide +kernel
theorem dX0_atBorder_4 : decode cX0_atBorder 4 = .ok (.aload_n 0, 1) := by decide +kernel
theorem dX0_atBorder_5 : decode cX0_atBorder 5 = .ok (.iconst 1, 1) := by decide +kernel
theorem dX0_atBorder_6 : decode cX0_atBorder 6 = .ok (.aload_n 0, 1) := by decide +kernel
theorem dX0_atBorder_7 : decode cX0_atBorder 7 = .ok (.getfield 35, 3) := by decide +kernel
theorem dX0_atBorder_10 : decode cX0_atBorder 10 = .ok (.iconst 2, 1) := by decide +kernel
theorem dX0_atBorder_11 : decode cX0_atBorder 11 = .ok (.isub, 1) := by decide +kernel
theorem dX0_atBorder_12 : decode cX0_atBorder 12 = .ok (.iconst 1, 1) := by decide +kernel
theorem dX0_atBorder_13 : decode cX0_atBorder 13 = .ok (.aload_n 0, 1) := by decide +kernel
theorem dX0_atBorder_14 : decode cX0_atBorder 14 = .ok (.getfield 35, 3) := by decide +kernel
theorem dX0_atBorder_17 : decode cX0_atBorder 17 = .ok (.iconst 2, 1) := by decide +kernel
theorem dX0_atBorder_18 : decode cX0_atBorder 18 = .ok (.isub, 1) := by decide +kernel
theorem dX0_atBorder_19 : decode cX0_atBorder 19 = .ok (.invokevirtual 78, 3) := by decide +kernel
theorem dX0_atBorder_22 : decode cX0_atBorder 22 = .ok (.isub, 1) := by decide +kernel
theorem dX0_atBorder_23 : decode cX0_atBorder 23 = .ok (.ireturn, 1) := by decide +kernel
theorem dX0_lyingIn_0 : decode cX0_lyingIn 0 = .ok (.iconst 0, 1) := by decide +kernel
theorem dX0_lyingIn_1 : decode cX0_lyingIn 1 = .ok (.istore_n 2, 1) := by decide +kernel
theorem dX0_lyingIn_2 : decode cX0_lyingIn 2 = .ok (.iconst 0, 1) := by decide +kernel
theorem dX0_lyingIn_3 : decode cX0_lyingIn 3 = .ok (.istore_n 3, 1) := by decide +kernel
theorem dX0_lyingIn_4 : decode cX0_lyingIn 4 = .ok (.iload_n 3, 1) := by decide +kernel
theorem dX0_lyingIn_5 : decode cX0_lyingIn 5 = .ok (.aload_n 0, 1) := by decide +kernel
theorem dX0_lyingIn_6 : decode cX0_lyingIn 6 = .ok (.getfield 44, 3) := by decide +kernel
theorem dX0_lyingIn_9 : decode cX0_lyingIn 9 = .ok (.if_icmp .ge 27, 3) := by decide +kernel
theorem dX0_lyingIn_12 : decode cX0_lyingIn 12 = .ok (.iload_n 2, 1) := by decide +kernel
theorem dX0_lyingIn_13 : decode cX0_lyingIn 13 = .ok (.aload_n 0, 1) := by decide +kernel
theorem dX0_lyingIn_14 : decode cX0_lyingIn 14 = .ok (.getfield 15, 3) := by decide +kernel
theorem dX0_lyingIn_17 : decode cX0_lyingIn 17 = .ok (.iload_n 3, 1) := by decide +kernel
theorem dX0_lyingIn_18 : decode cX0_lyingIn 18 = .ok (.iaload, 1) := by decide +kernel
theorem dX0_lyingIn_19 : decode cX0_lyingIn 19 = .ok (.iload_n 1, 1) := by decide +kernel
theorem dX0_lyingIn_20 : decode cX0_lyingIn 20 = .ok (.if_icmp .ne 7, 3) := by decide +kernel
theorem dX0_lyingIn_23 : decode cX0_lyingIn 23 = .ok (.iconst 1, 1) := by decide +kernel
theorem dX0_lyingIn_24 : decode cX0_lyingIn 24 = .ok (.goto 4, 3) := by decide +kernel
theorem dX0_lyingIn_27 : decode cX0_lyingIn 27 = .ok (.iconst 0, 1) := by decide +kernel
theorem dX0_lyingIn_28 : decode cX0_lyingIn 28 = .ok (.iadd, 1) := by decide +kernel
theorem dX0_lyingIn_29 : decode cX0_lyingIn 29 = .ok (.istore_n 2, 1) := by decide +kernel
theorem dX0_lyingIn_30 : decode cX0_lyingIn 30 = .ok (.iinc 3 1, 3) := by decide +kernel
theorem dX0_lyingIn_33 : decode cX0_lyingIn 33 = .ok (.goto (-29), 3) := by decide +kernel
theorem dX0_lyingIn_36 : decode cX0_lyingIn 36 = .ok (.iload_n 2, 1) := by decide +kernel
theorem dX0_lyingIn_37 : decode cX0_lyingIn 37 = .ok (.ireturn, 1) := by decide +kernel
theorem dX0_likelihood_0 : decode cX0_likelihood 0 = .ok (.aload_n 0, 1) := by decide +kernel
theorem dX0_likelihood_1 : decode cX0_likelihood 1 = .ok (.getfield 44, 3) := by decide +kernel
theorem dX0_likelihood_4 : decode cX0_likelihood 4 = .ok (.ifCond .ne 11, 3) := by decide +kernel
theorem dX0_likelihood_7 : decode cX0_likelihood 7 = .ok (.lconst 0, 1) := by decide +kernel
theorem dX0_likelihood_8 : decode cX0_likelihood 8 = .ok (.lconst 1, 1) := by decide +kernel
theorem dX0_likelihood_9 : decode cX0_likelihood 9 = .ok (.invokestatic 82, 3) := by decide +kernel
theorem dX0_likelihood_12 : decode cX0_likelihood 12 = .ok (.goto 17, 3) := by decide +kernel
theorem dX0_likelihood_15 : decode cX0_likelihood 15 = .ok (.aload_n 0, 1) := by decide +kernel
theorem dX0_likelihood_16 : decode cX0_likelihood 16 = .ok (.iload_n 1, 1) := by decide +kernel
theorem dX0_likelihood_17 : decode cX0_likelihood 17 = .ok (.invokevirtual 88, 3) := by decide +kernel
theorem dX0_likelihood_20 : decode cX0_likelihood 20 = .ok (.i2l, 1) := by decide +kernel
theorem dX0_likelihood_21 : decode cX0_likelihood 21 = .ok (.aload_n 0, 1) := by decide +kernel
theorem dX0_likelihood_22 : decode cX0_likelihood 22 = .ok (.getfield 44, 3) := by decide +kernel
theorem dX0_likelihood_25 : decode cX0_likelihood 25 = .ok (.i2l, 1) := by decide +kernel
theorem dX0_likelihood_26 : decode cX0_likelihood 26 = .ok (.invokestatic 82, 3) := by decide +kernel
theorem dX0_likelihood_29 : decode cX0_likelihood 29 = .ok (.areturn, 1) := by decide +kernel
theorem dX1_intBits_0 : decode cX1_intBits 0 = .ok (.fload_n 0, 1) := by decide +kernel
theorem dX1_intBits_1 : decode cX1_intBits 1 = .ok (.fconst 0, 1) := by decide +kernel
theorem dX1_intBits_2 : decode cX1_intBits 2 = .ok (.fcmp .g, 1) := by decide +kernel
theorem dX1_intBits_3 : decode cX1_intBits 3 = .ok (.ifCond .gt 5, 3) := by decide +kernel
theorem dX1_intBits_6 : decode cX1_intBits 6 = .ok (.iconst 0, 1) := by decide +kernel
theorem dX1_intBits_7 : decode cX1_intBits 7 = .ok (.ireturn, 1) := by decide +kernel
theorem dX1_intBits_8 : decode cX1_intBits 8 = .ok (.fload_n 0, 1) := by decide +kernel
theorem dX1_intBits_9 : decode cX1_intBits 9 = .ok (.fstore_n 1, 1) := by decide +kernel
theorem dX1_intBits_10 : decode cX1_intBits 10 = .ok (.bipush 127, 2) := by decide +kernel
theorem dX1_intBits_12 : decode cX1_intBits 12 = .ok (.istore_n 2, 1) := by decide +kernel
theorem dX1_intBits_13 : decode cX1_intBits 13 = .ok (.iconst 0, 1) := by decide +kernel
theorem dX1_intBits_14 : decode cX1_intBits 14 = .ok (.istore_n 3, 1) := by decide +kernel
theorem dX1_intBits_15 : decode cX1_intBits 15 = .ok (.iload_n 3, 1) := by decide +kernel
theorem dX1_intBits_16 : decode cX1_intBits 16 = .ok (.sipush 1100, 3) := by decide +kernel
theorem dX1_intBits_19 : decode cX1_intBits 19 = .ok (.if_icmp .ge 23, 3) := by decide +kernel
theorem dX1_intBits_22 : decode cX1_intBits 22 = .ok (.fload_n 1, 1) := by decide +kernel
theorem dX1_intBits_23 : decode cX1_intBits 23 = .ok (.fconst 2, 1) := by decide +kernel
theorem dX1_intBits_24 : decode cX1_intBits 24 = .ok (.fcmp .l, 1) := by decide +kernel
theorem dX1_intBits_25 : decode cX1_intBits 25 = .ok (.ifCond .lt 17, 3) := by decide +kernel
theorem dX1_intBits_28 : decode cX1_intBits 28 = .ok (.fload_n 1, 1) := by decide +kernel
theorem dX1_intBits_29 : decode cX1_intBits 29 = .ok (.ldc 9, 2) := by decide +kernel
theorem dX1_intBits_31 : decode cX1_intBits 31 = .ok (.fmul, 1) := by decide +kernel
theorem dX1_intBits_32 : decode cX1_intBits 32 = .ok (.fstore_n 1, 1) := by decide +kernel
theorem dX1_intBits_33 : decode cX1_intBits 33 = .ok (.iinc 2 1, 3) := by decide +kernel
theorem dX1_intBits_36 : decode cX1_intBits 36 = .ok (.iinc 3 1, 3) := by decide +kernel
theorem dX1_intBits_39 : decode cX1_intBits 39 = .ok (.goto (-24), 3) := by decide +kernel
theorem dX1_intBits_42 : decode cX1_intBits 42 = .ok (.iconst 0, 1) := by decide +kernel
theorem dX1_intBits_43 : decode cX1_intBits 43 = .ok (.istore_n 3, 1) := by decide +kernel
theorem dX1_intBits_44 : decode cX1_intBits 44 = .ok (.iload_n 3, 1) := by decide +kernel
theorem dX1_intBits_45 : decode cX1_intBits 45 = .ok (.sipush 1100, 3) := by decide +kernel
theorem dX1_intBits_48 : decode cX1_intBits 48 = .ok (.if_icmp .ge 22, 3) := by decide +kernel
theorem dX1_intBits_51 : decode cX1_intBits 51 = .ok (.fload_n 1, 1) := by decide +kernel
theorem dX1_intBits_52 : decode cX1_intBits 52 = .ok (.fconst 1, 1) := by decide +kernel
theorem dX1_intBits_53 : decode cX1_intBits 53 = .ok (.fcmp .g, 1) := by decide +kernel
theorem dX1_intBits_54 : decode cX1_intBits 54 = .ok (.ifCond .ge 16, 3) := by decide +kernel
theorem dX1_intBits_57 : decode cX1_intBits 57 = .ok (.fload_n 1, 1) := by decide +kernel
theorem dX1_intBits_58 : decode cX1_intBits 58 = .ok (.fconst 2, 1) := by decide +kernel
theorem dX1_intBits_59 : decode cX1_intBits 59 = .ok (.fmul, 1) := by decide +kernel
theorem dX1_intBits_60 : decode cX1_intBits 60 = .ok (.fstore_n 1, 1) := by decide +kernel
theorem dX1_intBits_61 : decode cX1_intBits 61 = .ok (.iinc 2 (-1), 3) := by decide +kernel
theorem dX1_intBits_64 : decode cX1_intBits 64 = .ok (.iinc 3 1, 3) := by decide +kernel
theorem dX1_intBits_67 : decode cX1_intBits 67 = .ok (.goto (-23), 3) := by decide +kernel
theorem dX1_intBits_70 : decode cX1_intBits 70 = .ok (.iload_n 2, 1) := by decide +kernel
theorem dX1_intBits_71 : decode cX1_intBits 71 = .ok (.bipush 23, 2) := by decide +kernel
theorem dX1_intBits_73 : decode cX1_intBits 73 = .ok (.ishl, 1) := by decide +kernel
theorem dX1_intBits_74 : decode cX1_intBits 74 = .ok (.fload_n 1, 1) := by decide +kernel
theorem dX1_intBits_75 : decode cX1_intBits 75 = .ok (.fconst 1, 1) := by decide +kernel
theorem dX1_intBits_76 : decode cX1_intBits 76 = .ok (.fsub, 1) := by decide +kernel
theorem dX1_intBits_77 : decode cX1_intBits 77 = .ok (.ldc 10, 2) := by decide +kernel
theorem dX1_intBits_79 : decode cX1_intBits 79 = .ok (.fmul, 1) := by decide +kernel
theorem dX1_intBits_80 : decode cX1_intBits 80 = .ok (.f2i, 1) := by decide +kernel
theorem dX1_intBits_81 : decode cX1_intBits 81 = .ok (.iadd, 1) := by decide +kernel
theorem dX1_intBits_82 : decode cX1_intBits 82 = .ok (.ireturn, 1) := by decide +kernel
theorem dX1_longBitsOfDouble_0 : decode cX1_longBitsOfDouble 0 = .ok (.dload_n 0, 1) := by decide +kernel
theorem dX1_longBitsOfDouble_1 : decode cX1_longBitsOfDouble 1 = .ok (.dconst 0, 1) := by decide +kernel
theorem dX1_longBitsOfDouble_2 : decode cX1_longBitsOfDouble 2 = .ok (.dcmp .g, 1) := by decide +kernel
theorem dX1_longBitsOfDouble_3 : decode cX1_longBitsOfDouble 3 = .ok (.ifCond .gt 5, 3) := by decide +kernel
theorem dX1_longBitsOfDouble_6 : decode cX1_longBitsOfDouble 6 = .ok (.lconst 0, 1) := by decide +kernel
theorem dX1_longBitsOfDouble_7 : decode cX1_longBitsOfDouble 7 = .ok (.lreturn, 1) := by decide +kernel
theorem dX1_longBitsOfDouble_8 : decode cX1_longBitsOfDouble 8 = .ok (.dload_n 0, 1) := by decide +kernel
theorem dX1_longBitsOfDouble_9 : decode cX1_longBitsOfDouble 9 = .ok (.dstore_n 2, 1) := by decide +kernel
theorem dX1_longBitsOfDouble_10 : decode cX1_longBitsOfDouble 10 = .ok (.ldc2_w 11, 3) := by decide +kernel
theorem dX1_longBitsOfDouble_13 : decode cX1_longBitsOfDouble 13 = .ok (.lstore 4, 2) := by decide +kernel
theorem dX1_longBitsOfDouble_15 : decode cX1_longBitsOfDouble 15 = .ok (.iconst 0, 1) := by decide +kernel
theorem dX1_longBitsOfDouble_16 : decode cX1_longBitsOfDouble 16 = .ok (.istore 6, 2) := by decide +kernel
theorem dX1_longBitsOfDouble_18 : decode cX1_longBitsOfDouble 18 = .ok (.iload 6, 2) := by decide +kernel
theorem dX1_longBitsOfDouble_20 : decode cX1_longBitsOfDouble 20 = .ok (.sipush 1100, 3) := by decide +kernel
theorem dX1_longBitsOfDouble_23 : decode cX1_longBitsOfDouble 23 = .ok (.if_icmp .ge 29, 3) := by decide +kernel
theorem dX1_longBitsOfDouble_26 : decode cX1_longBitsOfDouble 26 = .ok (.dload_n 2, 1) := by decide +kernel
theorem dX1_longBitsOfDouble_27 : decode cX1_longBitsOfDouble 27 = .ok (.ldc2_w 13, 3) := by decide +kernel
theorem dX1_longBitsOfDouble_30 : decode cX1_longBitsOfDouble 30 = .ok (.dcmp .l, 1) := by decide +kernel
theorem dX1_longBitsOfDouble_31 : decode cX1_longBitsOfDouble 31 = .ok (.ifCond .lt 21, 3) := by decide +kernel
theorem dX1_longBitsOfDouble_34 : decode cX1_longBitsOfDouble 34 = .ok (.dload_n 2, 1) := by decide +kernel
theorem dX1_longBitsOfDouble_35 : decode cX1_longBitsOfDouble 35 = .ok (.ldc2_w 15, 3) := by decide +kernel
theorem dX1_longBitsOfDouble_38 : decode cX1_longBitsOfDouble 38 = .ok (.dmul, 1) := by decide +kernel
theorem dX1_longBitsOfDouble_39 : decode cX1_longBitsOfDouble 39 = .ok (.dstore_n 2, 1) := by decide +kernel
theorem dX1_longBitsOfDouble_40 : decode cX1_longBitsOfDouble 40 = .ok (.lload 4, 2) := by decide +kernel
theorem dX1_longBitsOfDouble_42 : decode cX1_longBitsOfDouble 42 = .ok (.lconst 1, 1) := by decide +kernel
theorem dX1_longBitsOfDouble_43 : decode cX1_longBitsOfDouble 43 = .ok (.ladd, 1) := by decide +kernel
theorem dX1_longBitsOfDouble_44 : decode cX1_longBitsOfDouble 44 = .ok (.lstore 4, 2) := by decide +kernel
theorem dX1_longBitsOfDouble_46 : decode cX1_longBitsOfDouble 46 = .ok (.iinc 6 1, 3) := by decide +kernel
theorem dX1_longBitsOfDouble_49 : decode cX1_longBitsOfDouble 49 = .ok (.goto (-31), 3) := by decide +kernel
theorem dX1_longBitsOfDouble_52 : decode cX1_longBitsOfDouble 52 = .ok (.iconst 0, 1) := by decide +kernel
theorem dX1_longBitsOfDouble_53 : decode cX1_longBitsOfDouble 53 = .ok (.istore 6, 2) := by decide +kernel
theorem dX1_longBitsOfDouble_55 : decode cX1_longBitsOfDouble 55 = .ok (.iload 6, 2) := by decide +kernel
theorem dX1_longBitsOfDouble_57 : decode cX1_longBitsOfDouble 57 = .ok (.sipush 1100, 3) := by decide +kernel
theorem dX1_longBitsOfDouble_60 : decode cX1_longBitsOfDouble 60 = .ok (.if_icmp .ge 27, 3) := by decide +kernel
theorem dX1_longBitsOfDouble_63 : decode cX1_longBitsOfDouble 63 = .ok (.dload_n 2, 1) := by decide +kernel
theorem dX1_longBitsOfDouble_64 : decode cX1_longBitsOfDouble 64 = .ok (.dconst 1, 1) := by decide +kernel
theorem dX1_longBitsOfDouble_65 : decode cX1_longBitsOfDouble 65 = .ok (.dcmp .g, 1) := by decide +kernel
theorem dX1_longBitsOfDouble_66 : decode cX1_longBitsOfDouble 66 = .ok (.ifCond .ge 21, 3) := by decide +kernel
theorem dX1_longBitsOfDouble_69 : decode cX1_longBitsOfDouble 69 = .ok (.dload_n 2, 1) := by decide +kernel
theorem dX1_longBitsOfDouble_70 : decode cX1_longBitsOfDouble 70 = .ok (.ldc2_w 13, 3) := by decide +kernel
theorem dX1_longBitsOfDouble_73 : decode cX1_longBitsOfDouble 73 = .ok (.dmul, 1) := by decide +kernel
theorem dX1_longBitsOfDouble_74 : decode cX1_longBitsOfDouble 74 = .ok (.dstore_n 2, 1) := by decide +kernel
theorem dX1_longBitsOfDouble_75 : decode cX1_longBitsOfDouble 75 = .ok (.lload 4, 2) := by decide +kernel
theorem dX1_longBitsOfDouble_77 : decode cX1_longBitsOfDouble 77 = .ok (.lconst 1, 1) := by decide +kernel
theorem dX1_longBitsOfDouble_78 : decode cX1_longBitsOfDouble 78 = .ok (.lsub, 1) := by decide +kernel
theorem dX1_longBitsOfDouble_79 : decode cX1_longBitsOfDouble 79 = .ok (.lstore 4, 2) := by decide +kernel
theorem dX1_longBitsOfDouble_81 : decode cX1_longBitsOfDouble 81 = .ok (.iinc 6 1, 3) := by decide +kernel
theorem dX1_longBitsOfDouble_84 : decode cX1_longBitsOfDouble 84 = .ok (.goto (-29), 3) := by decide +kernel
theorem dX1_longBitsOfDouble_87 : decode cX1_longBitsOfDouble 87 = .ok (.lload 4, 2) := by decide +kernel
theorem dX1_longBitsOfDouble_89 : decode cX1_longBitsOfDouble 89 = .ok (.bipush 52, 2) := by decide +kernel
theorem dX1_longBitsOfDouble_91 : decode cX1_longBitsOfDouble 91 = .ok (.lshl, 1) := by decide +kernel
theorem dX1_longBitsOfDouble_92 : decode cX1_longBitsOfDouble 92 = .ok (.dload_n 2, 1) := by decide +kernel
theorem dX1_longBitsOfDouble_93 : decode cX1_longBitsOfDouble 93 = .ok (.dconst 1, 1) := by decide +kernel
theorem dX1_longBitsOfDouble_94 : decode cX1_longBitsOfDouble 94 = .ok (.dsub, 1) := by decide +kernel
theorem dX1_longBitsOfDouble_95 : decode cX1_longBitsOfDouble 95 = .ok (.ldc2_w 17, 3) := by decide +kernel
theorem dX1_longBitsOfDouble_98 : decode cX1_longBitsOfDouble 98 = .ok (.dmul, 1) := by decide +kernel
theorem dX1_longBitsOfDouble_99 : decode cX1_longBitsOfDouble 99 = .ok (.d2l, 1) := by decide +kernel
theorem dX1_longBitsOfDouble_100 : decode cX1_longBitsOfDouble 100 = .ok (.ladd, 1) := by decide +kernel
theorem dX1_longBitsOfDouble_101 : decode cX1_longBitsOfDouble 101 = .ok (.lreturn, 1) := by decide +kernel
theorem dX2_init_0 : decode cX2_init 0 = .ok (.aload_n 0, 1) := by decide +kernel
theorem dX2_init_1 : decode cX2_init 1 = .ok (.invokespecial 1, 3) := by decide +kernel
theorem dX2_init_4 : decode cX2_init 4 = .ok (.aload_n 0, 1) := by decide +kernel
theorem dX2_init_5 : decode cX2_init 5 = .ok (.lload_n 1, 1) := by decide +kernel
theorem dX2_init_6 : decode cX2_init 6 = .ok (.putfield 7, 3) := by decide +kernel
theorem dX2_init_9 : decode cX2_init 9 = .ok (.aload_n 0, 1) := by decide +kernel
theorem dX2_init_10 : decode cX2_init 10 = .ok (.lload_n 3, 1) := by decide +kernel
theorem dX2_init_11 : decode cX2_init 11 = .ok (.putfield 13, 3) := by decide +kernel
theorem dX2_init_14 : decode cX2_init 14 = .ok (.return_, 1) := by decide +kernel
theorem dX2_inLeastTerms_0 : decode cX2_inLeastTerms 0 = .ok (.lload_n 0, 1) := by decide +kernel
theorem dX2_inLeastTerms_1 : decode cX2_inLeastTerms 1 = .ok (.invokestatic 16, 3) := by decide +kernel
theorem dX2_inLeastTerms_4 : decode cX2_inLeastTerms 4 = .ok (.lload_n 2, 1) := by decide +kernel
theorem dX2_inLeastTerms_5 : decode cX2_inLeastTerms 5 = .ok (.invokestatic 22, 3) := by decide +kernel
theorem dX2_inLeastTerms_8 : decode cX2_inLeastTerms 8 = .ok (.lstore 4, 2) := by decide +kernel
theorem dX2_inLeastTerms_10 : decode cX2_inLeastTerms 10 = .ok (.lload 4, 2) := by decide +kernel
theorem dX2_inLeastTerms_12 : decode cX2_inLeastTerms 12 = .ok (.lconst 1, 1) := by decide +kernel
theorem dX2_inLeastTerms_13 : decode cX2_inLeastTerms 13 = .ok (.lcmp, 1) := by decide +kernel
theorem dX2_inLeastTerms_14 : decode cX2_inLeastTerms 14 = .ok (.ifCond .le 21, 3) := by decide +kernel
theorem dX2_inLeastTerms_17 : decode cX2_inLeastTerms 17 = .ok (.new 8, 3) := by decide +kernel
theorem dX2_inLeastTerms_20 : decode cX2_inLeastTerms 20 = .ok (.dup, 1) := by decide +kernel
theorem dX2_inLeastTerms_21 : decode cX2_inLeastTerms 21 = .ok (.lload_n 0, 1) := by decide +kernel
theorem dX2_inLeastTerms_22 : decode cX2_inLeastTerms 22 = .ok (.lload 4, 2) := by decide +kernel
theorem dX2_inLeastTerms_24 : decode cX2_inLeastTerms 24 = .ok (.ldiv, 1) := by decide +kernel
theorem dX2_inLeastTerms_25 : decode cX2_inLeastTerms 25 = .ok (.lload_n 2, 1) := by decide +kernel
theorem dX2_inLeastTerms_26 : decode cX2_inLeastTerms 26 = .ok (.lload 4, 2) := by decide +kernel
theorem dX2_inLeastTerms_28 : decode cX2_inLeastTerms 28 = .ok (.ldiv, 1) := by decide +kernel
theorem dX2_inLeastTerms_29 : decode cX2_inLeastTerms 29 = .ok (.invokespecial 26, 3) := by decide +kernel
theorem dX2_inLeastTerms_32 : decode cX2_inLeastTerms 32 = .ok (.goto 12, 3) := by decide +kernel
theorem dX2_inLeastTerms_35 : decode cX2_inLeastTerms 35 = .ok (.new 8, 3) := by decide +kernel
theorem dX2_inLeastTerms_38 : decode cX2_inLeastTerms 38 = .ok (.dup, 1) := by decide +kernel
theorem dX2_inLeastTerms_39 : decode cX2_inLeastTerms 39 = .ok (.lload_n 0, 1) := by decide +kernel
theorem dX2_inLeastTerms_40 : decode cX2_inLeastTerms 40 = .ok (.lload_n 2, 1) := by decide +kernel
theorem dX2_inLeastTerms_41 : decode cX2_inLeastTerms 41 = .ok (.invokespecial 26, 3) := by decide +kernel
theorem dX2_inLeastTerms_44 : decode cX2_inLeastTerms 44 = .ok (.areturn, 1) := by decide +kernel
theorem dX2_greatestDivisor_0 : decode cX2_greatestDivisor 0 = .ok (.lload_n 0, 1) := by decide +kernel
theorem dX2_greatestDivisor_1 : decode cX2_greatestDivisor 1 = .ok (.lstore 4, 2) := by decide +kernel
theorem dX2_greatestDivisor_3 : decode cX2_greatestDivisor 3 = .ok (.lload_n 2, 1) := by decide +kernel
theorem dX2_greatestDivisor_4 : decode cX2_greatestDivisor 4 = .ok (.lstore 6, 2) := by decide +kernel
theorem dX2_greatestDivisor_6 : decode cX2_greatestDivisor 6 = .ok (.iconst 0, 1) := by decide +kernel
theorem dX2_greatestDivisor_7 : decode cX2_greatestDivisor 7 = .ok (.istore 8, 2) := by decide +kernel
theorem dX2_greatestDivisor_9 : decode cX2_greatestDivisor 9 = .ok (.iload 8, 2) := by decide +kernel
theorem dX2_greatestDivisor_11 : decode cX2_greatestDivisor 11 = .ok (.sipush 200, 3) := by decide +kernel
theorem dX2_greatestDivisor_14 : decode cX2_greatestDivisor 14 = .ok (.if_icmp .ge 31, 3) := by decide +kernel
theorem dX2_greatestDivisor_17 : decode cX2_greatestDivisor 17 = .ok (.lload 6, 2) := by decide +kernel
theorem dX2_greatestDivisor_19 : decode cX2_greatestDivisor 19 = .ok (.lconst 0, 1) := by decide +kernel
theorem dX2_greatestDivisor_20 : decode cX2_greatestDivisor 20 = .ok (.lcmp, 1) := by decide +kernel
theorem dX2_greatestDivisor_21 : decode cX2_greatestDivisor 21 = .ok (.ifCond .eq 24, 3) := by decide +kernel
theorem dX2_greatestDivisor_24 : decode cX2_greatestDivisor 24 = .ok (.lload 4, 2) := by decide +kernel
theorem dX2_greatestDivisor_26 : decode cX2_greatestDivisor 26 = .ok (.lload 6, 2) := by decide +kernel
theorem dX2_greatestDivisor_28 : decode cX2_greatestDivisor 28 = .ok (.lrem, 1) := by decide +kernel
theorem dX2_greatestDivisor_29 : decode cX2_greatestDivisor 29 = .ok (.lstore 9, 2) := by decide +kernel
theorem dX2_greatestDivisor_31 : decode cX2_greatestDivisor 31 = .ok (.lload 6, 2) := by decide +kernel
theorem dX2_greatestDivisor_33 : decode cX2_greatestDivisor 33 = .ok (.lstore 4, 2) := by decide +kernel
theorem dX2_greatestDivisor_35 : decode cX2_greatestDivisor 35 = .ok (.lload 9, 2) := by decide +kernel
theorem dX2_greatestDivisor_37 : decode cX2_greatestDivisor 37 = .ok (.lstore 6, 2) := by decide +kernel
theorem dX2_greatestDivisor_39 : decode cX2_greatestDivisor 39 = .ok (.iinc 8 1, 3) := by decide +kernel
theorem dX2_greatestDivisor_42 : decode cX2_greatestDivisor 42 = .ok (.goto (-33), 3) := by decide +kernel
theorem dX2_greatestDivisor_45 : decode cX2_greatestDivisor 45 = .ok (.lload 4, 2) := by decide +kernel
theorem dX2_greatestDivisor_47 : decode cX2_greatestDivisor 47 = .ok (.lreturn, 1) := by decide +kernel
theorem dX2_plus_0 : decode cX2_plus 0 = .ok (.aload_n 0, 1) := by decide +kernel
theorem dX2_plus_1 : decode cX2_plus 1 = .ok (.getfield 7, 3) := by decide +kernel
theorem dX2_plus_4 : decode cX2_plus 4 = .ok (.aload_n 1, 1) := by decide +kernel
theorem dX2_plus_5 : decode cX2_plus 5 = .ok (.getfield 13, 3) := by decide +kernel
theorem dX2_plus_8 : decode cX2_plus 8 = .ok (.lmul, 1) := by decide +kernel
theorem dX2_plus_9 : decode cX2_plus 9 = .ok (.aload_n 1, 1) := by decide +kernel
theorem dX2_plus_10 : decode cX2_plus 10 = .ok (.getfield 7, 3) := by decide +kernel
theorem dX2_plus_13 : decode cX2_plus 13 = .ok (.aload_n 0, 1) := by decide +kernel
theorem dX2_plus_14 : decode cX2_plus 14 = .ok (.getfield 13, 3) := by decide +kernel
theorem dX2_plus_17 : decode cX2_plus 17 = .ok (.lmul, 1) := by decide +kernel
theorem dX2_plus_18 : decode cX2_plus 18 = .ok (.ladd, 1) := by decide +kernel
theorem dX2_plus_19 : decode cX2_plus 19 = .ok (.aload_n 0, 1) := by decide +kernel
theorem dX2_plus_20 : decode cX2_plus 20 = .ok (.getfield 13, 3) := by decide +kernel
theorem dX2_plus_23 : decode cX2_plus 23 = .ok (.aload_n 1, 1) := by decide +kernel
theorem dX2_plus_24 : decode cX2_plus 24 = .ok (.getfield 13, 3) := by decide +kernel
theorem dX2_plus_27 : decode cX2_plus 27 = .ok (.lmul, 1) := by decide +kernel
theorem dX2_plus_28 : decode cX2_plus 28 = .ok (.invokestatic 29, 3) := by decide +kernel
theorem dX2_plus_31 : decode cX2_plus 31 = .ok (.areturn, 1) := by decide +kernel
theorem dX2_minus_0 : decode cX2_minus 0 = .ok (.aload_n 0, 1) := by decide +kernel
theorem dX2_minus_1 : decode cX2_minus 1 = .ok (.getfield 7, 3) := by decide +kernel
theorem dX2_minus_4 : decode cX2_minus 4 = .ok (.aload_n 1, 1) := by decide +kernel
theorem dX2_minus_5 : decode cX2_minus 5 = .ok (.getfield 13, 3) := by decide +kernel
theorem dX2_minus_8 : decode cX2_minus 8 = .ok (.lmul, 1) := by decide +kernel
theorem dX2_minus_9 : decode cX2_minus 9 = .ok (.aload_n 1, 1) := by decide +kernel
theorem dX2_minus_10 : decode cX2_minus 10 = .ok (.getfield 7, 3) := by decide +kernel
theorem dX2_minus_13 : decode cX2_minus 13 = .ok (.aload_n 0, 1) := by decide +kernel
theorem dX2_minus_14 : decode cX2_minus 14 = .ok (.getfield 13, 3) := by decide +kernel
theorem dX2_minus_17 : decode cX2_minus 17 = .ok (.lmul, 1) := by decide +kernel
theorem dX2_minus_18 : decode cX2_minus 18 = .ok (.lsub, 1) := by decide +kernel
theorem dX2_minus_19 : decode cX2_minus 19 = .ok (.aload_n 0, 1) := by decide +kernel
theorem dX2_minus_20 : decode cX2_minus 20 = .ok (.getfield 13, 3) := by decide +kernel
theorem dX2_minus_23 : decode cX2_minus 23 = .ok (.aload_n 1, 1) := by decide +kernel
theorem dX2_minus_24 : decode cX2_minus 24 = .ok (.getfield 13, 3) := by decide +kernel
theorem dX2_minus_27 : decode cX2_minus 27 = .ok (.lmul, 1) := by decide +kernel
theorem dX2_minus_28 : decode cX2_minus 28 = .ok (.invokestatic 29, 3) := by decide +kernel
theorem dX2_minus_31 : decode cX2_minus 31 = .ok (.areturn, 1) := by decide +kernel
theorem dX2_times_0 : decode cX2_times 0 = .ok (.aload_n 0, 1) := by decide +kernel
theorem dX2_times_1 : decode cX2_times 1 = .ok (.getfield 7, 3) := by decide +kernel
theorem dX2_times_4 : decode cX2_times 4 = .ok (.aload_n 1, 1) := by decide +kernel
theorem dX2_times_5 : decode cX2_times 5 = .ok (.getfield 7, 3) := by decide +kernel
theorem dX2_times_8 : decode cX2_times 8 = .ok (.lmul, 1) := by decide +kernel
theorem dX2_times_9 : decode cX2_times 9 = .ok (.aload_n 0, 1) := by decide +kernel
theorem dX2_times_10 : decode cX2_times 10 = .ok (.getfield 13, 3) := by decide +kernel
theorem dX2_times_13 : decode cX2_times 13 = .ok (.aload_n 1, 1) := by decide +kernel
theorem dX2_times_14 : decode cX2_times 14 = .ok (.getfield 13, 3) := by decide +kernel
theorem dX2_times_17 : decode cX2_times 17 = .ok (.lmul, 1) := by decide +kernel
theorem dX2_times_18 : decode cX2_times 18 = .ok (.invokestatic 29, 3) := by decide +kernel
theorem dX2_times_21 : decode cX2_times 21 = .ok (.areturn, 1) := by decide +kernel
theorem dX2_equalTo_0 : decode cX2_equalTo 0 = .ok (.aload_n 0, 1) := by decide +kernel
theorem dX2_equalTo_1 : decode cX2_equalTo 1 = .ok (.getfield 7, 3) := by decide +kernel
theorem dX2_equalTo_4 : decode cX2_equalTo 4 = .ok (.aload_n 1, 1) := by decide +kernel
theorem dX2_equalTo_5 : decode cX2_equalTo 5 = .ok (.getfield 7, 3) := by decide +kernel
theorem dX2_equalTo_8 : decode cX2_equalTo 8 = .ok (.lcmp, 1) := by decide +kernel
theorem dX2_equalTo_9 : decode cX2_equalTo 9 = .ok (.ifCond .ne 19, 3) := by decide +kernel
theorem dX2_equalTo_12 : decode cX2_equalTo 12 = .ok (.aload_n 0, 1) := by decide +kernel
theorem dX2_equalTo_13 : decode cX2_equalTo 13 = .ok (.getfield 13, 3) := by decide +kernel
theorem dX2_equalTo_16 : decode cX2_equalTo 16 = .ok (.aload_n 1, 1) := by decide +kernel
theorem dX2_equalTo_17 : decode cX2_equalTo 17 = .ok (.getfield 13, 3) := by decide +kernel
theorem dX2_equalTo_20 : decode cX2_equalTo 20 = .ok (.lcmp, 1) := by decide +kernel
theorem dX2_equalTo_21 : decode cX2_equalTo 21 = .ok (.ifCond .ne 7, 3) := by decide +kernel
theorem dX2_equalTo_24 : decode cX2_equalTo 24 = .ok (.iconst 1, 1) := by decide +kernel
theorem dX2_equalTo_25 : decode cX2_equalTo 25 = .ok (.goto 4, 3) := by decide +kernel
theorem dX2_equalTo_28 : decode cX2_equalTo 28 = .ok (.iconst 0, 1) := by decide +kernel
theorem dX2_equalTo_29 : decode cX2_equalTo 29 = .ok (.ireturn, 1) := by decide +kernel
theorem dX2_isAbove_0 : decode cX2_isAbove 0 = .ok (.aload_n 0, 1) := by decide +kernel
theorem dX2_isAbove_1 : decode cX2_isAbove 1 = .ok (.getfield 7, 3) := by decide +kernel
theorem dX2_isAbove_4 : decode cX2_isAbove 4 = .ok (.lload_n 1, 1) := by decide +kernel
theorem dX2_isAbove_5 : decode cX2_isAbove 5 = .ok (.lcmp, 1) := by decide +kernel
theorem dX2_isAbove_6 : decode cX2_isAbove 6 = .ok (.ifCond .gt 12, 3) := by decide +kernel
theorem dX2_isAbove_9 : decode cX2_isAbove 9 = .ok (.aload_n 0, 1) := by decide +kernel
theorem dX2_isAbove_10 : decode cX2_isAbove 10 = .ok (.getfield 13, 3) := by decide +kernel
theorem dX2_isAbove_13 : decode cX2_isAbove 13 = .ok (.lload_n 1, 1) := by decide +kernel
theorem dX2_isAbove_14 : decode cX2_isAbove 14 = .ok (.lcmp, 1) := by decide +kernel
theorem dX2_isAbove_15 : decode cX2_isAbove 15 = .ok (.ifCond .le 7, 3) := by decide +kernel
theorem dX2_isAbove_18 : decode cX2_isAbove 18 = .ok (.iconst 1, 1) := by decide +kernel
theorem dX2_isAbove_19 : decode cX2_isAbove 19 = .ok (.goto 4, 3) := by decide +kernel
theorem dX2_isAbove_22 : decode cX2_isAbove 22 = .ok (.iconst 0, 1) := by decide +kernel
theorem dX2_isAbove_23 : decode cX2_isAbove 23 = .ok (.ireturn, 1) := by decide +kernel
theorem dX2_valuation_0 : decode cX2_valuation 0 = .ok (.aload_n 0, 1) := by decide +kernel
theorem dX2_valuation_1 : decode cX2_valuation 1 = .ok (.getfield 7, 3) := by decide +kernel
theorem dX2_valuation_4 : decode cX2_valuation 4 = .ok (.lconst 0, 1) := by decide +kernel
theorem dX2_valuation_5 : decode cX2_valuation 5 = .ok (.lcmp, 1) := by decide +kernel
theorem dX2_valuation_6 : decode cX2_valuation 6 = .ok (.ifCond .ne 8, 3) := by decide +kernel
theorem dX2_valuation_9 : decode cX2_valuation 9 = .ok (.bipush 99, 2) := by decide +kernel
theorem dX2_valuation_11 : decode cX2_valuation 11 = .ok (.goto 18, 3) := by decide +kernel
theorem dX2_valuation_14 : decode cX2_valuation 14 = .ok (.aload_n 0, 1) := by decide +kernel
theorem dX2_valuation_15 : decode cX2_valuation 15 = .ok (.getfield 7, 3) := by decide +kernel
theorem dX2_valuation_18 : decode cX2_valuation 18 = .ok (.invokestatic 33, 3) := by decide +kernel
theorem dX2_valuation_21 : decode cX2_valuation 21 = .ok (.aload_n 0, 1) := by decide +kernel
theorem dX2_valuation_22 : decode cX2_valuation 22 = .ok (.getfield 13, 3) := by decide +kernel
theorem dX2_valuation_25 : decode cX2_valuation 25 = .ok (.invokestatic 33, 3) := by decide +kernel
theorem dX2_valuation_28 : decode cX2_valuation 28 = .ok (.isub, 1) := by decide +kernel
theorem dX2_valuation_29 : decode cX2_valuation 29 = .ok (.ireturn, 1) := by decide +kernel
theorem dX2_twosIn_0 : decode cX2_twosIn 0 = .ok (.iconst 0, 1) := by decide +kernel
theorem dX2_twosIn_1 : decode cX2_twosIn 1 = .ok (.istore_n 2, 1) := by decide +kernel
theorem dX2_twosIn_2 : decode cX2_twosIn 2 = .ok (.iload_n 2, 1) := by decide +kernel
theorem dX2_twosIn_3 : decode cX2_twosIn 3 = .ok (.bipush 64, 2) := by decide +kernel
theorem dX2_twosIn_5 : decode cX2_twosIn 5 = .ok (.if_icmp .ge 19, 3) := by decide +kernel
theorem dX2_twosIn_8 : decode cX2_twosIn 8 = .ok (.lload_n 0, 1) := by decide +kernel
theorem dX2_twosIn_9 : decode cX2_twosIn 9 = .ok (.iload_n 2, 1) := by decide +kernel
theorem dX2_twosIn_10 : decode cX2_twosIn 10 = .ok (.lshr, 1) := by decide +kernel
theorem dX2_twosIn_11 : decode cX2_twosIn 11 = .ok (.lconst 1, 1) := by decide +kernel
theorem dX2_twosIn_12 : decode cX2_twosIn 12 = .ok (.land, 1) := by decide +kernel
theorem dX2_twosIn_13 : decode cX2_twosIn 13 = .ok (.lconst 0, 1) := by decide +kernel
theorem dX2_twosIn_14 : decode cX2_twosIn 14 = .ok (.lcmp, 1) := by decide +kernel
theorem dX2_twosIn_15 : decode cX2_twosIn 15 = .ok (.ifCond .ne 9, 3) := by decide +kernel
theorem dX2_twosIn_18 : decode cX2_twosIn 18 = .ok (.iinc 2 1, 3) := by decide +kernel
theorem dX2_twosIn_21 : decode cX2_twosIn 21 = .ok (.goto (-19), 3) := by decide +kernel
theorem dX2_twosIn_24 : decode cX2_twosIn 24 = .ok (.iload_n 2, 1) := by decide +kernel
theorem dX2_twosIn_25 : decode cX2_twosIn 25 = .ok (.ireturn, 1) := by decide +kernel
theorem dX2_told_0 : decode cX2_told 0 = .ok (.iload_n 1, 1) := by decide +kernel
theorem dX2_told_1 : decode cX2_told 1 = .ok (.ifCond .ne 10, 3) := by decide +kernel
theorem dX2_told_4 : decode cX2_told 4 = .ok (.aload_n 0, 1) := by decide +kernel
theorem dX2_told_5 : decode cX2_told 5 = .ok (.getfield 7, 3) := by decide +kernel
theorem dX2_told_8 : decode cX2_told 8 = .ok (.goto 7, 3) := by decide +kernel
theorem dX2_told_11 : decode cX2_told 11 = .ok (.aload_n 0, 1) := by decide +kernel
theorem dX2_told_12 : decode cX2_told 12 = .ok (.getfield 13, 3) := by decide +kernel
theorem dX2_told_15 : decode cX2_told 15 = .ok (.lreturn, 1) := by decide +kernel
theorem dX2_asFloat_0 : decode cX2_asFloat 0 = .ok (.aload_n 0, 1) := by decide +kernel
theorem dX2_asFloat_1 : decode cX2_asFloat 1 = .ok (.getfield 7, 3) := by decide +kernel
theorem dX2_asFloat_4 : decode cX2_asFloat 4 = .ok (.l2f, 1) := by decide +kernel
theorem dX2_asFloat_5 : decode cX2_asFloat 5 = .ok (.aload_n 0, 1) := by decide +kernel
theorem dX2_asFloat_6 : decode cX2_asFloat 6 = .ok (.getfield 13, 3) := by decide +kernel
theorem dX2_asFloat_9 : decode cX2_asFloat 9 = .ok (.l2f, 1) := by decide +kernel
theorem dX2_asFloat_10 : decode cX2_asFloat 10 = .ok (.fdiv, 1) := by decide +kernel
theorem dX2_asFloat_11 : decode cX2_asFloat 11 = .ok (.freturn, 1) := by decide +kernel
theorem dX2_asDouble_0 : decode cX2_asDouble 0 = .ok (.aload_n 0, 1) := by decide +kernel
theorem dX2_asDouble_1 : decode cX2_asDouble 1 = .ok (.getfield 7, 3) := by decide +kernel
theorem dX2_asDouble_4 : decode cX2_asDouble 4 = .ok (.l2d, 1) := by decide +kernel
theorem dX2_asDouble_5 : decode cX2_asDouble 5 = .ok (.aload_n 0, 1) := by decide +kernel
theorem dX2_asDouble_6 : decode cX2_asDouble 6 = .ok (.getfield 13, 3) := by decide +kernel
theorem dX2_asDouble_9 : decode cX2_asDouble 9 = .ok (.l2d, 1) := by decide +kernel
theorem dX2_asDouble_10 : decode cX2_asDouble 10 = .ok (.ddiv, 1) := by decide +kernel
theorem dX2_asDouble_11 : decode cX2_asDouble 11 = .ok (.dreturn, 1) := by decide +kernel
theorem dX3_init_0 : decode cX3_init 0 = .ok (.aload_n 0, 1) := by decide +kernel
theorem dX3_init_1 : decode cX3_init 1 = .ok (.invokespecial 1, 3) := by decide +kernel
theorem dX3_init_4 : decode cX3_init 4 = .ok (.aload_n 0, 1) := by decide +kernel
theorem dX3_init_5 : decode cX3_init 5 = .ok (.new 7, 3) := by decide +kernel
theorem dX3_init_8 : decode cX3_init 8 = .ok (.dup, 1) := by decide +kernel
theorem dX3_init_9 : decode cX3_init 9 = .ok (.invokespecial 9, 3) := by decide +kernel
theorem dX3_init_12 : decode cX3_init 12 = .ok (.putfield 10, 3) := by decide +kernel
theorem dX3_init_15 : decode cX3_init 15 = .ok (.aload_n 0, 1) := by decide +kernel
theorem dX3_init_16 : decode cX3_init 16 = .ok (.new 16, 3) := by decide +kernel
theorem dX3_init_19 : decode cX3_init 19 = .ok (.dup, 1) := by decide +kernel
theorem dX3_init_20 : decode cX3_init 20 = .ok (.invokespecial 18, 3) := by decide +kernel
theorem dX3_init_23 : decode cX3_init 23 = .ok (.putfield 19, 3) := by decide +kernel
theorem dX3_init_26 : decode cX3_init 26 = .ok (.return_, 1) := by decide +kernel
theorem dX3_take_0 : decode cX3_take 0 = .ok (.aload_n 0, 1) := by decide +kernel
theorem dX3_take_1 : decode cX3_take 1 = .ok (.aload_n 1, 1) := by decide +kernel
theorem dX3_take_2 : decode cX3_take 2 = .ok (.getfield 23, 3) := by decide +kernel
theorem dX3_take_5 : decode cX3_take 5 = .ok (.putfield 29, 3) := by decide +kernel
theorem dX3_take_8 : decode cX3_take 8 = .ok (.aload_n 0, 1) := by decide +kernel
theorem dX3_take_9 : decode cX3_take 9 = .ok (.aload_n 1, 1) := by decide +kernel
theorem dX3_take_10 : decode cX3_take 10 = .ok (.getfield 30, 3) := by decide +kernel
theorem dX3_take_13 : decode cX3_take 13 = .ok (.putfield 33, 3) := by decide +kernel
theorem dX3_take_16 : decode cX3_take 16 = .ok (.aload_n 0, 1) := by decide +kernel
theorem dX3_take_17 : decode cX3_take 17 = .ok (.aload_n 1, 1) := by decide +kernel
theorem dX3_take_18 : decode cX3_take 18 = .ok (.getfield 34, 3) := by decide +kernel
theorem dX3_take_21 : decode cX3_take 21 = .ok (.putfield 37, 3) := by decide +kernel
theorem dX3_take_24 : decode cX3_take 24 = .ok (.aload_n 0, 1) := by decide +kernel
theorem dX3_take_25 : decode cX3_take 25 = .ok (.getfield 10, 3) := by decide +kernel
theorem dX3_take_28 : decode cX3_take 28 = .ok (.aload_n 2, 1) := by decide +kernel
theorem dX3_take_29 : decode cX3_take 29 = .ok (.invokevirtual 38, 3) := by decide +kernel
theorem dX3_take_32 : decode cX3_take 32 = .ok (.aload_n 0, 1) := by decide +kernel
theorem dX3_take_33 : decode cX3_take 33 = .ok (.getfield 19, 3) := by decide +kernel
theorem dX3_take_36 : decode cX3_take 36 = .ok (.aload_n 3, 1) := by decide +kernel
theorem dX3_take_37 : decode cX3_take 37 = .ok (.invokevirtual 42, 3) := by decide +kernel
theorem dX3_take_40 : decode cX3_take 40 = .ok (.aload_n 0, 1) := by decide +kernel
theorem dX3_take_41 : decode cX3_take 41 = .ok (.iconst 1, 1) := by decide +kernel
theorem dX3_take_42 : decode cX3_take 42 = .ok (.putfield 45, 3) := by decide +kernel
theorem dX3_take_45 : decode cX3_take 45 = .ok (.return_, 1) := by decide +kernel
theorem dX3_giveBack_0 : decode cX3_giveBack 0 = .ok (.aload_n 1, 1) := by decide +kernel
theorem dX3_giveBack_1 : decode cX3_giveBack 1 = .ok (.aload_n 0, 1) := by decide +kernel
theorem dX3_giveBack_2 : decode cX3_giveBack 2 = .ok (.getfield 29, 3) := by decide +kernel
theorem dX3_giveBack_5 : decode cX3_giveBack 5 = .ok (.aload_n 0, 1) := by decide +kernel
theorem dX3_giveBack_6 : decode cX3_giveBack 6 = .ok (.getfield 33, 3) := by decide +kernel
theorem dX3_giveBack_9 : decode cX3_giveBack 9 = .ok (.aload_n 0, 1) := by decide +kernel
theorem dX3_giveBack_10 : decode cX3_giveBack 10 = .ok (.getfield 37, 3) := by decide +kernel
theorem dX3_giveBack_13 : decode cX3_giveBack 13 = .ok (.invokevirtual 49, 3) := by decide +kernel
theorem dX3_giveBack_16 : decode cX3_giveBack 16 = .ok (.aload_n 2, 1) := by decide +kernel
theorem dX3_giveBack_17 : decode cX3_giveBack 17 = .ok (.aload_n 0, 1) := by decide +kernel
theorem dX3_giveBack_18 : decode cX3_giveBack 18 = .ok (.getfield 10, 3) := by decide +kernel
theorem dX3_giveBack_21 : decode cX3_giveBack 21 = .ok (.invokevirtual 38, 3) := by decide +kernel
theorem dX3_giveBack_24 : decode cX3_giveBack 24 = .ok (.aload_n 3, 1) := by decide +kernel
theorem dX3_giveBack_25 : decode cX3_giveBack 25 = .ok (.aload_n 0, 1) := by decide +kernel
theorem dX3_giveBack_26 : decode cX3_giveBack 26 = .ok (.getfield 19, 3) := by decide +kernel
theorem dX3_giveBack_29 : decode cX3_giveBack 29 = .ok (.invokevirtual 42, 3) := by decide +kernel
theorem dX3_giveBack_32 : decode cX3_giveBack 32 = .ok (.return_, 1) := by decide +kernel
theorem dX4_init_0 : decode cX4_init 0 = .ok (.aload_n 0, 1) := by decide +kernel
theorem dX4_init_1 : decode cX4_init 1 = .ok (.invokespecial 5, 3) := by decide +kernel
theorem dX4_init_4 : decode cX4_init 4 = .ok (.aload_n 0, 1) := by decide +kernel
theorem dX4_init_5 : decode cX4_init 5 = .ok (.bipush 12, 2) := by decide +kernel
theorem dX4_init_7 : decode cX4_init 7 = .ok (.newarray .int, 2) := by decide +kernel
theorem dX4_init_9 : decode cX4_init 9 = .ok (.putfield 11, 3) := by decide +kernel
theorem dX4_init_12 : decode cX4_init 12 = .ok (.aload_n 0, 1) := by decide +kernel
theorem dX4_init_13 : decode cX4_init 13 = .ok (.bipush 72, 2) := by decide +kernel
theorem dX4_init_15 : decode cX4_init 15 = .ok (.newarray .char, 2) := by decide +kernel
theorem dX4_init_17 : decode cX4_init 17 = .ok (.putfield 15, 3) := by decide +kernel
theorem dX4_init_20 : decode cX4_init 20 = .ok (.return_, 1) := by decide +kernel
theorem dX4_isFull_0 : decode cX4_isFull 0 = .ok (.aload_n 0, 1) := by decide +kernel
theorem dX4_isFull_1 : decode cX4_isFull 1 = .ok (.getfield 19, 3) := by decide +kernel
theorem dX4_isFull_4 : decode cX4_isFull 4 = .ok (.bipush 72, 2) := by decide +kernel
theorem dX4_isFull_6 : decode cX4_isFull 6 = .ok (.if_icmp .lt 7, 3) := by decide +kernel
theorem dX4_isFull_9 : decode cX4_isFull 9 = .ok (.iconst 1, 1) := by decide +kernel
theorem dX4_isFull_10 : decode cX4_isFull 10 = .ok (.goto 4, 3) := by decide +kernel
theorem dX4_isFull_13 : decode cX4_isFull 13 = .ok (.iconst 0, 1) := by decide +kernel
theorem dX4_isFull_14 : decode cX4_isFull 14 = .ok (.ireturn, 1) := by decide +kernel
theorem dX4_append_0 : decode cX4_append 0 = .ok (.aload_n 0, 1) := by decide +kernel
theorem dX4_append_1 : decode cX4_append 1 = .ok (.getfield 19, 3) := by decide +kernel
theorem dX4_append_4 : decode cX4_append 4 = .ok (.bipush 72, 2) := by decide +kernel
theorem dX4_append_6 : decode cX4_append 6 = .ok (.if_icmp .ge 24, 3) := by decide +kernel
theorem dX4_append_9 : decode cX4_append 9 = .ok (.aload_n 0, 1) := by decide +kernel
theorem dX4_append_10 : decode cX4_append 10 = .ok (.getfield 15, 3) := by decide +kernel
theorem dX4_append_13 : decode cX4_append 13 = .ok (.aload_n 0, 1) := by decide +kernel
theorem dX4_append_14 : decode cX4_append 14 = .ok (.getfield 19, 3) := by decide +kernel
theorem dX4_append_17 : decode cX4_append 17 = .ok (.iload_n 1, 1) := by decide +kernel
theorem dX4_append_18 : decode cX4_append 18 = .ok (.i2c, 1) := by decide +kernel
theorem dX4_append_19 : decode cX4_append 19 = .ok (.castore, 1) := by decide +kernel
theorem dX4_append_20 : decode cX4_append 20 = .ok (.aload_n 0, 1) := by decide +kernel
theorem dX4_append_21 : decode cX4_append 21 = .ok (.dup, 1) := by decide +kernel
theorem dX4_append_22 : decode cX4_append 22 = .ok (.getfield 19, 3) := by decide +kernel
theorem dX4_append_25 : decode cX4_append 25 = .ok (.iconst 1, 1) := by decide +kernel
theorem dX4_append_26 : decode cX4_append 26 = .ok (.iadd, 1) := by decide +kernel
theorem dX4_append_27 : decode cX4_append 27 = .ok (.putfield 19, 3) := by decide +kernel
theorem dX4_append_30 : decode cX4_append 30 = .ok (.return_, 1) := by decide +kernel
theorem dX4_clear_0 : decode cX4_clear 0 = .ok (.aload_n 0, 1) := by decide +kernel
theorem dX4_clear_1 : decode cX4_clear 1 = .ok (.iconst 0, 1) := by decide +kernel
theorem dX4_clear_2 : decode cX4_clear 2 = .ok (.putfield 19, 3) := by decide +kernel
theorem dX4_clear_5 : decode cX4_clear 5 = .ok (.return_, 1) := by decide +kernel
theorem dX4_letterAt_0 : decode cX4_letterAt 0 = .ok (.iload_n 1, 1) := by decide +kernel
theorem dX4_letterAt_1 : decode cX4_letterAt 1 = .ok (.ifCond .lt 20, 3) := by decide +kernel
theorem dX4_letterAt_4 : decode cX4_letterAt 4 = .ok (.iload_n 1, 1) := by decide +kernel
theorem dX4_letterAt_5 : decode cX4_letterAt 5 = .ok (.aload_n 0, 1) := by decide +kernel
theorem dX4_letterAt_6 : decode cX4_letterAt 6 = .ok (.getfield 19, 3) := by decide +kernel
theorem dX4_letterAt_9 : decode cX4_letterAt 9 = .ok (.if_icmp .ge 12, 3) := by decide +kernel
theorem dX4_letterAt_12 : decode cX4_letterAt 12 = .ok (.aload_n 0, 1) := by decide +kernel
theorem dX4_letterAt_13 : decode cX4_letterAt 13 = .ok (.getfield 15, 3) := by decide +kernel
theorem dX4_letterAt_16 : decode cX4_letterAt 16 = .ok (.iload_n 1, 1) := by decide +kernel
theorem dX4_letterAt_17 : decode cX4_letterAt 17 = .ok (.caload, 1) := by decide +kernel
theorem dX4_letterAt_18 : decode cX4_letterAt 18 = .ok (.goto 4, 3) := by decide +kernel
theorem dX4_letterAt_21 : decode cX4_letterAt 21 = .ok (.iconst 0, 1) := by decide +kernel
theorem dX4_letterAt_22 : decode cX4_letterAt 22 = .ok (.ireturn, 1) := by decide +kernel
theorem dX4_digitsBehind_0 : decode cX4_digitsBehind 0 = .ok (.iload_n 0, 1) := by decide +kernel
theorem dX4_digitsBehind_1 : decode cX4_digitsBehind 1 = .ok (.lookupswitch 50 #[(98, 43), (112, 45), (114, 43), (116, 48)], 43) := by decide +kernel
theorem dX4_digitsBehind_44 : decode cX4_digitsBehind 44 = .ok (.iconst 5, 1) := by decide +kernel
theorem dX4_digitsBehind_45 : decode cX4_digitsBehind 45 = .ok (.ireturn, 1) := by decide +kernel
theorem dX4_digitsBehind_46 : decode cX4_digitsBehind 46 = .ok (.bipush 8, 2) := by decide +kernel
theorem dX4_digitsBehind_48 : decode cX4_digitsBehind 48 = .ok (.ireturn, 1) := by decide +kernel
theorem dX4_digitsBehind_49 : decode cX4_digitsBehind 49 = .ok (.iconst 4, 1) := by decide +kernel
theorem dX4_digitsBehind_50 : decode cX4_digitsBehind 50 = .ok (.ireturn, 1) := by decide +kernel
theorem dX4_digitsBehind_51 : decode cX4_digitsBehind 51 = .ok (.iconst 0, 1) := by decide +kernel
theorem dX4_digitsBehind_52 : decode cX4_digitsBehind 52 = .ok (.ireturn, 1) := by decide +kernel
theorem dX4_read_0 : decode cX4_read 0 = .ok (.iconst 0, 1) := by decide +kernel
theorem dX4_read_1 : decode cX4_read 1 = .ok (.istore_n 1, 1) := by decide +kernel
theorem dX4_read_2 : decode cX4_read 2 = .ok (.aload_n 0, 1) := by decide +kernel
theorem dX4_read_3 : decode cX4_read 3 = .ok (.getfield 19, 3) := by decide +kernel
theorem dX4_read_6 : decode cX4_read 6 = .ok (.ifCond .ne 7, 3) := by decide +kernel
theorem dX4_read_9 : decode cX4_read 9 = .ok (.iconst 0, 1) := by decide +kernel
theorem dX4_read_10 : decode cX4_read 10 = .ok (.goto 5, 3) := by decide +kernel
theorem dX4_read_13 : decode cX4_read 13 = .ok (.bipush (-9), 2) := by decide +kernel
theorem dX4_read_15 : decode cX4_read 15 = .ok (.istore_n 2, 1) := by decide +kernel
theorem dX4_read_16 : decode cX4_read 16 = .ok (.aload_n 0, 1) := by decide +kernel
theorem dX4_read_17 : decode cX4_read 17 = .ok (.iconst 0, 1) := by decide +kernel
theorem dX4_read_18 : decode cX4_read 18 = .ok (.putfield 23, 3) := by decide +kernel
theorem dX4_read_21 : decode cX4_read 21 = .ok (.iload_n 1, 1) := by decide +kernel
theorem dX4_read_22 : decode cX4_read 22 = .ok (.aload_n 0, 1) := by decide +kernel
theorem dX4_read_23 : decode cX4_read 23 = .ok (.getfield 19, 3) := by decide +kernel
theorem dX4_read_26 : decode cX4_read 26 = .ok (.if_icmp .ge 60, 3) := by decide +kernel
theorem dX4_read_29 : decode cX4_read 29 = .ok (.iload_n 2, 1) := by decide +kernel
theorem dX4_read_30 : decode cX4_read 30 = .ok (.bipush (-9), 2) := by decide +kernel
theorem dX4_read_32 : decode cX4_read 32 = .ok (.if_icmp .ne 54, 3) := by decide +kernel
theorem dX4_read_35 : decode cX4_read 35 = .ok (.aload_n 0, 1) := by decide +kernel
theorem dX4_read_36 : decode cX4_read 36 = .ok (.getfield 23, 3) := by decide +kernel
theorem dX4_read_39 : decode cX4_read 39 = .ok (.bipush 12, 2) := by decide +kernel
theorem dX4_read_41 : decode cX4_read 41 = .ok (.if_icmp .ge 45, 3) := by decide +kernel
theorem dX4_read_44 : decode cX4_read 44 = .ok (.aload_n 0, 1) := by decide +kernel
theorem dX4_read_45 : decode cX4_read 45 = .ok (.iload_n 1, 1) := by decide +kernel
theorem dX4_read_46 : decode cX4_read 46 = .ok (.invokevirtual 26, 3) := by decide +kernel
theorem dX4_read_49 : decode cX4_read 49 = .ok (.istore_n 2, 1) := by decide +kernel
theorem dX4_read_50 : decode cX4_read 50 = .ok (.aload_n 0, 1) := by decide +kernel
theorem dX4_read_51 : decode cX4_read 51 = .ok (.getfield 11, 3) := by decide +kernel
theorem dX4_read_54 : decode cX4_read 54 = .ok (.aload_n 0, 1) := by decide +kernel
theorem dX4_read_55 : decode cX4_read 55 = .ok (.getfield 23, 3) := by decide +kernel
theorem dX4_read_58 : decode cX4_read 58 = .ok (.iload_n 1, 1) := by decide +kernel
theorem dX4_read_59 : decode cX4_read 59 = .ok (.iastore, 1) := by decide +kernel
theorem dX4_read_60 : decode cX4_read 60 = .ok (.aload_n 0, 1) := by decide +kernel
theorem dX4_read_61 : decode cX4_read 61 = .ok (.dup, 1) := by decide +kernel
theorem dX4_read_62 : decode cX4_read 62 = .ok (.getfield 23, 3) := by decide +kernel
theorem dX4_read_65 : decode cX4_read 65 = .ok (.iconst 1, 1) := by decide +kernel
theorem dX4_read_66 : decode cX4_read 66 = .ok (.iadd, 1) := by decide +kernel
theorem dX4_read_67 : decode cX4_read 67 = .ok (.putfield 23, 3) := by decide +kernel
theorem dX4_read_70 : decode cX4_read 70 = .ok (.iload_n 1, 1) := by decide +kernel
theorem dX4_read_71 : decode cX4_read 71 = .ok (.aload_n 0, 1) := by decide +kernel
theorem dX4_read_72 : decode cX4_read 72 = .ok (.iload_n 1, 1) := by decide +kernel
theorem dX4_read_73 : decode cX4_read 73 = .ok (.invokevirtual 30, 3) := by decide +kernel
theorem dX4_read_76 : decode cX4_read 76 = .ok (.invokestatic 34, 3) := by decide +kernel
theorem dX4_read_79 : decode cX4_read 79 = .ok (.iconst 2, 1) := by decide +kernel
theorem dX4_read_80 : decode cX4_read 80 = .ok (.iadd, 1) := by decide +kernel
theorem dX4_read_81 : decode cX4_read 81 = .ok (.iadd, 1) := by decide +kernel
theorem dX4_read_82 : decode cX4_read 82 = .ok (.istore_n 1, 1) := by decide +kernel
theorem dX4_read_83 : decode cX4_read 83 = .ok (.goto (-62), 3) := by decide +kernel
theorem dX4_read_86 : decode cX4_read 86 = .ok (.iload_n 2, 1) := by decide +kernel
theorem dX4_read_87 : decode cX4_read 87 = .ok (.ireturn, 1) := by decide +kernel
theorem dX4_firstWrongFrom_0 : decode cX4_firstWrongFrom 0 = .ok (.aload_n 0, 1) := by decide +kernel
theorem dX4_firstWrongFrom_1 : decode cX4_firstWrongFrom 1 = .ok (.iload_n 1, 1) := by decide +kernel
theorem dX4_firstWrongFrom_2 : decode cX4_firstWrongFrom 2 = .ok (.invokevirtual 30, 3) := by decide +kernel
theorem dX4_firstWrongFrom_5 : decode cX4_firstWrongFrom 5 = .ok (.invokestatic 34, 3) := by decide +kernel
theorem dX4_firstWrongFrom_8 : decode cX4_firstWrongFrom 8 = .ok (.istore_n 2, 1) := by decide +kernel
theorem dX4_firstWrongFrom_9 : decode cX4_firstWrongFrom 9 = .ok (.iload_n 2, 1) := by decide +kernel
theorem dX4_firstWrongFrom_10 : decode cX4_firstWrongFrom 10 = .ok (.ifCond .ne 5, 3) := by decide +kernel
theorem dX4_firstWrongFrom_13 : decode cX4_firstWrongFrom 13 = .ok (.iload_n 1, 1) := by decide +kernel
theorem dX4_firstWrongFrom_14 : decode cX4_firstWrongFrom 14 = .ok (.ireturn, 1) := by decide +kernel
theorem dX4_firstWrongFrom_15 : decode cX4_firstWrongFrom 15 = .ok (.iload_n 1, 1) := by decide +kernel
theorem dX4_firstWrongFrom_16 : decode cX4_firstWrongFrom 16 = .ok (.iconst 1, 1) := by decide +kernel
theorem dX4_firstWrongFrom_17 : decode cX4_firstWrongFrom 17 = .ok (.iadd, 1) := by decide +kernel
theorem dX4_firstWrongFrom_18 : decode cX4_firstWrongFrom 18 = .ok (.istore_n 3, 1) := by decide +kernel
theorem dX4_firstWrongFrom_19 : decode cX4_firstWrongFrom 19 = .ok (.iload_n 3, 1) := by decide +kernel
theorem dX4_firstWrongFrom_20 : decode cX4_firstWrongFrom 20 = .ok (.iload_n 1, 1) := by decide +kernel
theorem dX4_firstWrongFrom_21 : decode cX4_firstWrongFrom 21 = .ok (.iload_n 2, 1) := by decide +kernel
theorem dX4_firstWrongFrom_22 : decode cX4_firstWrongFrom 22 = .ok (.iadd, 1) := by decide +kernel
theorem dX4_firstWrongFrom_23 : decode cX4_firstWrongFrom 23 = .ok (.if_icmp .gt 31, 3) := by decide +kernel
theorem dX4_firstWrongFrom_26 : decode cX4_firstWrongFrom 26 = .ok (.aload_n 0, 1) := by decide +kernel
theorem dX4_firstWrongFrom_27 : decode cX4_firstWrongFrom 27 = .ok (.iload_n 3, 1) := by decide +kernel
theorem dX4_firstWrongFrom_28 : decode cX4_firstWrongFrom 28 = .ok (.invokevirtual 30, 3) := by decide +kernel
theorem dX4_firstWrongFrom_31 : decode cX4_firstWrongFrom 31 = .ok (.bipush 48, 2) := by decide +kernel
theorem dX4_firstWrongFrom_33 : decode cX4_firstWrongFrom 33 = .ok (.if_icmp .lt 13, 3) := by decide +kernel
theorem dX4_firstWrongFrom_36 : decode cX4_firstWrongFrom 36 = .ok (.aload_n 0, 1) := by decide +kernel
theorem dX4_firstWrongFrom_37 : decode cX4_firstWrongFrom 37 = .ok (.iload_n 3, 1) := by decide +kernel
theorem dX4_firstWrongFrom_38 : decode cX4_firstWrongFrom 38 = .ok (.invokevirtual 30, 3) := by decide +kernel
theorem dX4_firstWrongFrom_41 : decode cX4_firstWrongFrom 41 = .ok (.bipush 57, 2) := by decide +kernel
theorem dX4_firstWrongFrom_43 : decode cX4_firstWrongFrom 43 = .ok (.if_icmp .le 5, 3) := by decide +kernel
theorem dX4_firstWrongFrom_46 : decode cX4_firstWrongFrom 46 = .ok (.iload_n 3, 1) := by decide +kernel
theorem dX4_firstWrongFrom_47 : decode cX4_firstWrongFrom 47 = .ok (.ireturn, 1) := by decide +kernel
theorem dX4_firstWrongFrom_48 : decode cX4_firstWrongFrom 48 = .ok (.iinc 3 1, 3) := by decide +kernel
theorem dX4_firstWrongFrom_51 : decode cX4_firstWrongFrom 51 = .ok (.goto (-32), 3) := by decide +kernel
theorem dX4_firstWrongFrom_54 : decode cX4_firstWrongFrom 54 = .ok (.iload_n 1, 1) := by decide +kernel
theorem dX4_firstWrongFrom_55 : decode cX4_firstWrongFrom 55 = .ok (.iload_n 2, 1) := by decide +kernel
theorem dX4_firstWrongFrom_56 : decode cX4_firstWrongFrom 56 = .ok (.iadd, 1) := by decide +kernel
theorem dX4_firstWrongFrom_57 : decode cX4_firstWrongFrom 57 = .ok (.iconst 1, 1) := by decide +kernel
theorem dX4_firstWrongFrom_58 : decode cX4_firstWrongFrom 58 = .ok (.iadd, 1) := by decide +kernel
theorem dX4_firstWrongFrom_59 : decode cX4_firstWrongFrom 59 = .ok (.istore_n 3, 1) := by decide +kernel
theorem dX4_firstWrongFrom_60 : decode cX4_firstWrongFrom 60 = .ok (.aload_n 0, 1) := by decide +kernel
theorem dX4_firstWrongFrom_61 : decode cX4_firstWrongFrom 61 = .ok (.iload_n 3, 1) := by decide +kernel
theorem dX4_firstWrongFrom_62 : decode cX4_firstWrongFrom 62 = .ok (.invokevirtual 30, 3) := by decide +kernel
theorem dX4_firstWrongFrom_65 : decode cX4_firstWrongFrom 65 = .ok (.bipush 59, 2) := by decide +kernel
theorem dX4_firstWrongFrom_67 : decode cX4_firstWrongFrom 67 = .ok (.if_icmp .ne 8, 3) := by decide +kernel
theorem dX4_firstWrongFrom_70 : decode cX4_firstWrongFrom 70 = .ok (.bipush (-9), 2) := by decide +kernel
theorem dX4_firstWrongFrom_72 : decode cX4_firstWrongFrom 72 = .ok (.goto 4, 3) := by decide +kernel
theorem dX4_firstWrongFrom_75 : decode cX4_firstWrongFrom 75 = .ok (.iload_n 3, 1) := by decide +kernel
theorem dX4_firstWrongFrom_76 : decode cX4_firstWrongFrom 76 = .ok (.ireturn, 1) := by decide +kernel
theorem dX4_digit_0 : decode cX4_digit 0 = .ok (.aload_n 0, 1) := by decide +kernel
theorem dX4_digit_1 : decode cX4_digit 1 = .ok (.iload_n 1, 1) := by decide +kernel
theorem dX4_digit_2 : decode cX4_digit 2 = .ok (.invokevirtual 30, 3) := by decide +kernel
theorem dX4_digit_5 : decode cX4_digit 5 = .ok (.bipush 48, 2) := by decide +kernel
theorem dX4_digit_7 : decode cX4_digit 7 = .ok (.isub, 1) := by decide +kernel
theorem dX4_digit_8 : decode cX4_digit 8 = .ok (.ireturn, 1) := by decide +kernel
theorem dX4_twoDigits_0 : decode cX4_twoDigits 0 = .ok (.aload_n 0, 1) := by decide +kernel
theorem dX4_twoDigits_1 : decode cX4_twoDigits 1 = .ok (.iload_n 1, 1) := by decide +kernel
theorem dX4_twoDigits_2 : decode cX4_twoDigits 2 = .ok (.invokevirtual 38, 3) := by decide +kernel
theorem dX4_twoDigits_5 : decode cX4_twoDigits 5 = .ok (.bipush 10, 2) := by decide +kernel
theorem dX4_twoDigits_7 : decode cX4_twoDigits 7 = .ok (.imul, 1) := by decide +kernel
theorem dX4_twoDigits_8 : decode cX4_twoDigits 8 = .ok (.aload_n 0, 1) := by decide +kernel
theorem dX4_twoDigits_9 : decode cX4_twoDigits 9 = .ok (.iload_n 1, 1) := by decide +kernel
theorem dX4_twoDigits_10 : decode cX4_twoDigits 10 = .ok (.iconst 1, 1) := by decide +kernel
theorem dX4_twoDigits_11 : decode cX4_twoDigits 11 = .ok (.iadd, 1) := by decide +kernel
theorem dX4_twoDigits_12 : decode cX4_twoDigits 12 = .ok (.invokevirtual 38, 3) := by decide +kernel
theorem dX4_twoDigits_15 : decode cX4_twoDigits 15 = .ok (.iadd, 1) := by decide +kernel
theorem dX4_twoDigits_16 : decode cX4_twoDigits 16 = .ok (.ireturn, 1) := by decide +kernel
theorem dX4_fourDigits_0 : decode cX4_fourDigits 0 = .ok (.aload_n 0, 1) := by decide +kernel
theorem dX4_fourDigits_1 : decode cX4_fourDigits 1 = .ok (.iload_n 1, 1) := by decide +kernel
theorem dX4_fourDigits_2 : decode cX4_fourDigits 2 = .ok (.invokevirtual 41, 3) := by decide +kernel
theorem dX4_fourDigits_5 : decode cX4_fourDigits 5 = .ok (.bipush 100, 2) := by decide +kernel
theorem dX4_fourDigits_7 : decode cX4_fourDigits 7 = .ok (.imul, 1) := by decide +kernel
theorem dX4_fourDigits_8 : decode cX4_fourDigits 8 = .ok (.aload_n 0, 1) := by decide +kernel
theorem dX4_fourDigits_9 : decode cX4_fourDigits 9 = .ok (.iload_n 1, 1) := by decide +kernel
theorem dX4_fourDigits_10 : decode cX4_fourDigits 10 = .ok (.iconst 2, 1) := by decide +kernel
theorem dX4_fourDigits_11 : decode cX4_fourDigits 11 = .ok (.iadd, 1) := by decide +kernel
theorem dX4_fourDigits_12 : decode cX4_fourDigits 12 = .ok (.invokevirtual 41, 3) := by decide +kernel
theorem dX4_fourDigits_15 : decode cX4_fourDigits 15 = .ok (.iadd, 1) := by decide +kernel
theorem dX4_fourDigits_16 : decode cX4_fourDigits 16 = .ok (.ireturn, 1) := by decide +kernel
theorem dX5_init_0 : decode cX5_init 0 = .ok (.aload_n 0, 1) := by decide +kernel
theorem dX5_init_1 : decode cX5_init 1 = .ok (.invokespecial 1, 3) := by decide +kernel
theorem dX5_init_4 : decode cX5_init 4 = .ok (.aload_n 0, 1) := by decide +kernel
theorem dX5_init_5 : decode cX5_init 5 = .ok (.bipush 40, 2) := by decide +kernel
theorem dX5_init_7 : decode cX5_init 7 = .ok (.newarray .int, 2) := by decide +kernel
theorem dX5_init_9 : decode cX5_init 9 = .ok (.putfield 9, 3) := by decide +kernel
theorem dX5_init_12 : decode cX5_init 12 = .ok (.aload_n 0, 1) := by decide +kernel
theorem dX5_init_13 : decode cX5_init 13 = .ok (.iconst (-1), 1) := by decide +kernel
theorem dX5_init_14 : decode cX5_init 14 = .ok (.putfield 13, 3) := by decide +kernel
theorem dX5_init_17 : decode cX5_init 17 = .ok (.return_, 1) := by decide +kernel
theorem dX5_isMissing_0 : decode cX5_isMissing 0 = .ok (.aload_n 0, 1) := by decide +kernel
theorem dX5_isMissing_1 : decode cX5_isMissing 1 = .ok (.getfield 13, 3) := by decide +kernel
theorem dX5_isMissing_4 : decode cX5_isMissing 4 = .ok (.ifCond .ge 7, 3) := by decide +kernel
theorem dX5_isMissing_7 : decode cX5_isMissing 7 = .ok (.iconst 1, 1) := by decide +kernel
theorem dX5_isMissing_8 : decode cX5_isMissing 8 = .ok (.goto 4, 3) := by decide +kernel
theorem dX5_isMissing_11 : decode cX5_isMissing 11 = .ok (.iconst 0, 1) := by decide +kernel
theorem dX5_isMissing_12 : decode cX5_isMissing 12 = .ok (.ireturn, 1) := by decide +kernel
theorem dX5_hasPlace_0 : decode cX5_hasPlace 0 = .ok (.iload_n 1, 1) := by decide +kernel
theorem dX5_hasPlace_1 : decode cX5_hasPlace 1 = .ok (.ifCond .lt 15, 3) := by decide +kernel
theorem dX5_hasPlace_4 : decode cX5_hasPlace 4 = .ok (.iload_n 1, 1) := by decide +kernel
theorem dX5_hasPlace_5 : decode cX5_hasPlace 5 = .ok (.aload_n 0, 1) := by decide +kernel
theorem dX5_hasPlace_6 : decode cX5_hasPlace 6 = .ok (.getfield 13, 3) := by decide +kernel
theorem dX5_hasPlace_9 : decode cX5_hasPlace 9 = .ok (.if_icmp .ge 7, 3) := by decide +kernel
theorem dX5_hasPlace_12 : decode cX5_hasPlace 12 = .ok (.iconst 1, 1) := by decide +kernel
theorem dX5_hasPlace_13 : decode cX5_hasPlace 13 = .ok (.goto 4, 3) := by decide +kernel
theorem dX5_hasPlace_16 : decode cX5_hasPlace 16 = .ok (.iconst 0, 1) := by decide +kernel
theorem dX5_hasPlace_17 : decode cX5_hasPlace 17 = .ok (.ireturn, 1) := by decide +kernel
theorem dX5_makeZeros_0 : decode cX5_makeZeros 0 = .ok (.aload_n 0, 1) := by decide +kernel
theorem dX5_makeZeros_1 : decode cX5_makeZeros 1 = .ok (.iload_n 1, 1) := by decide +kernel
theorem dX5_makeZeros_2 : decode cX5_makeZeros 2 = .ok (.putfield 13, 3) := by decide +kernel
theorem dX5_makeZeros_5 : decode cX5_makeZeros 5 = .ok (.iconst 0, 1) := by decide +kernel
theorem dX5_makeZeros_6 : decode cX5_makeZeros 6 = .ok (.istore_n 2, 1) := by decide +kernel
theorem dX5_makeZeros_7 : decode cX5_makeZeros 7 = .ok (.iload_n 2, 1) := by decide +kernel
theorem dX5_makeZeros_8 : decode cX5_makeZeros 8 = .ok (.bipush 40, 2) := by decide +kernel
theorem dX5_makeZeros_10 : decode cX5_makeZeros 10 = .ok (.if_icmp .ge 16, 3) := by decide +kernel
theorem dX5_makeZeros_13 : decode cX5_makeZeros 13 = .ok (.aload_n 0, 1) := by decide +kernel
theorem dX5_makeZeros_14 : decode cX5_makeZeros 14 = .ok (.getfield 9, 3) := by decide +kernel
theorem dX5_makeZeros_17 : decode cX5_makeZeros 17 = .ok (.iload_n 2, 1) := by decide +kernel
theorem dX5_makeZeros_18 : decode cX5_makeZeros 18 = .ok (.iconst 0, 1) := by decide +kernel
theorem dX5_makeZeros_19 : decode cX5_makeZeros 19 = .ok (.iastore, 1) := by decide +kernel
theorem dX5_makeZeros_20 : decode cX5_makeZeros 20 = .ok (.iinc 2 1, 3) := by decide +kernel
theorem dX5_makeZeros_23 : decode cX5_makeZeros 23 = .ok (.goto (-16), 3) := by decide +kernel
theorem dX5_makeZeros_26 : decode cX5_makeZeros 26 = .ok (.return_, 1) := by decide +kernel
theorem dX6_init_0 : decode cX6_init 0 = .ok (.aload_n 0, 1) := by decide +kernel
theorem dX6_init_1 : decode cX6_init 1 = .ok (.invokespecial 1, 3) := by decide +kernel
theorem dX6_init_4 : decode cX6_init 4 = .ok (.aload_n 0, 1) := by decide +kernel
theorem dX6_init_5 : decode cX6_init 5 = .ok (.aload_n 1, 1) := by decide +kernel
theorem dX6_init_6 : decode cX6_init 6 = .ok (.putfield 7, 3) := by decide +kernel
theorem dX6_init_9 : decode cX6_init 9 = .ok (.aload_n 0, 1) := by decide +kernel
theorem dX6_init_10 : decode cX6_init 10 = .ok (.aload_n 2, 1) := by decide +kernel
theorem dX6_init_11 : decode cX6_init 11 = .ok (.putfield 13, 3) := by decide +kernel
theorem dX6_init_14 : decode cX6_init 14 = .ok (.return_, 1) := by decide +kernel
theorem dX6_shade_0 : decode cX6_shade 0 = .ok (.iload_n 1, 1) := by decide +kernel
theorem dX6_shade_1 : decode cX6_shade 1 = .ok (.ifCond .eq 13, 3) := by decide +kernel
theorem dX6_shade_4 : decode cX6_shade 4 = .ok (.aload_n 0, 1) := by decide +kernel
theorem dX6_shade_5 : decode cX6_shade 5 = .ok (.getfield 13, 3) := by decide +kernel
theorem dX6_shade_8 : decode cX6_shade 8 = .ok (.invokevirtual 16, 3) := by decide +kernel
theorem dX6_shade_11 : decode cX6_shade 11 = .ok (.goto 10, 3) := by decide +kernel
theorem dX6_shade_14 : decode cX6_shade 14 = .ok (.aload_n 0, 1) := by decide +kernel
theorem dX6_shade_15 : decode cX6_shade 15 = .ok (.getfield 7, 3) := by decide +kernel
theorem dX6_shade_18 : decode cX6_shade 18 = .ok (.invokevirtual 16, 3) := by decide +kernel
theorem dX6_shade_21 : decode cX6_shade 21 = .ok (.istore_n 2, 1) := by decide +kernel
theorem dX6_shade_22 : decode cX6_shade 22 = .ok (.iload_n 1, 1) := by decide +kernel
theorem dX6_shade_23 : decode cX6_shade 23 = .ok (.ifCond .eq 13, 3) := by decide +kernel
theorem dX6_shade_26 : decode cX6_shade 26 = .ok (.aload_n 0, 1) := by decide +kernel
theorem dX6_shade_27 : decode cX6_shade 27 = .ok (.getfield 7, 3) := by decide +kernel
theorem dX6_shade_30 : decode cX6_shade 30 = .ok (.invokevirtual 16, 3) := by decide +kernel
theorem dX6_shade_33 : decode cX6_shade 33 = .ok (.goto 10, 3) := by decide +kernel
theorem dX6_shade_36 : decode cX6_shade 36 = .ok (.aload_n 0, 1) := by decide +kernel
theorem dX6_shade_37 : decode cX6_shade 37 = .ok (.getfield 13, 3) := by decide +kernel
theorem dX6_shade_40 : decode cX6_shade 40 = .ok (.invokevirtual 16, 3) := by decide +kernel
theorem dX6_shade_43 : decode cX6_shade 43 = .ok (.istore_n 3, 1) := by decide +kernel
theorem dX6_shade_44 : decode cX6_shade 44 = .ok (.iload_n 2, 1) := by decide +kernel
theorem dX6_shade_45 : decode cX6_shade 45 = .ok (.ifCond .le 9, 3) := by decide +kernel
theorem dX6_shade_48 : decode cX6_shade 48 = .ok (.iload_n 3, 1) := by decide +kernel
theorem dX6_shade_49 : decode cX6_shade 49 = .ok (.ifCond .le 5, 3) := by decide +kernel
theorem dX6_shade_52 : decode cX6_shade 52 = .ok (.iconst 0, 1) := by decide +kernel
theorem dX6_shade_53 : decode cX6_shade 53 = .ok (.ireturn, 1) := by decide +kernel
theorem dX6_shade_54 : decode cX6_shade 54 = .ok (.iload_n 2, 1) := by decide +kernel
theorem dX6_shade_55 : decode cX6_shade 55 = .ok (.iload_n 3, 1) := by decide +kernel
theorem dX6_shade_56 : decode cX6_shade 56 = .ok (.if_icmp .gt 7, 3) := by decide +kernel
theorem dX6_shade_59 : decode cX6_shade 59 = .ok (.iconst 1, 1) := by decide +kernel
theorem dX6_shade_60 : decode cX6_shade 60 = .ok (.goto 4, 3) := by decide +kernel
theorem dX6_shade_63 : decode cX6_shade 63 = .ok (.iconst 2, 1) := by decide +kernel
theorem dX6_shade_64 : decode cX6_shade 64 = .ok (.ireturn, 1) := by decide +kernel
theorem dX7_init_0 : decode cX7_init 0 = .ok (.aload_n 0, 1) := by decide +kernel
theorem dX7_init_1 : decode cX7_init 1 = .ok (.invokespecial 1, 3) := by decide +kernel
theorem dX7_init_4 : decode cX7_init 4 = .ok (.aload_n 0, 1) := by decide +kernel
theorem dX7_init_5 : decode cX7_init 5 = .ok (.bipush 9, 2) := by decide +kernel
theorem dX7_init_7 : decode cX7_init 7 = .ok (.anewarray 9, 3) := by decide +kernel
theorem dX7_init_10 : decode cX7_init 10 = .ok (.putfield 11, 3) := by decide +kernel
theorem dX7_init_13 : decode cX7_init 13 = .ok (.aload_n 0, 1) := by decide +kernel
theorem dX7_init_14 : decode cX7_init 14 = .ok (.iconst (-1), 1) := by decide +kernel
theorem dX7_init_15 : decode cX7_init 15 = .ok (.putfield 15, 3) := by decide +kernel
theorem dX7_init_18 : decode cX7_init 18 = .ok (.return_, 1) := by decide +kernel
theorem dX7_isMissing_0 : decode cX7_isMissing 0 = .ok (.aload_n 0, 1) := by decide +kernel
theorem dX7_isMissing_1 : decode cX7_isMissing 1 = .ok (.getfield 15, 3) := by decide +kernel
theorem dX7_isMissing_4 : decode cX7_isMissing 4 = .ok (.ifCond .ge 7, 3) := by decide +kernel
theorem dX7_isMissing_7 : decode cX7_isMissing 7 = .ok (.iconst 1, 1) := by decide +kernel
theorem dX7_isMissing_8 : decode cX7_isMissing 8 = .ok (.goto 4, 3) := by decide +kernel
theorem dX7_isMissing_11 : decode cX7_isMissing 11 = .ok (.iconst 0, 1) := by decide +kernel
theorem dX7_isMissing_12 : decode cX7_isMissing 12 = .ok (.ireturn, 1) := by decide +kernel
theorem dX7_hasPlace_0 : decode cX7_hasPlace 0 = .ok (.iload_n 1, 1) := by decide +kernel
theorem dX7_hasPlace_1 : decode cX7_hasPlace 1 = .ok (.ifCond .lt 15, 3) := by decide +kernel
theorem dX7_hasPlace_4 : decode cX7_hasPlace 4 = .ok (.iload_n 1, 1) := by decide +kernel
theorem dX7_hasPlace_5 : decode cX7_hasPlace 5 = .ok (.aload_n 0, 1) := by decide +kernel
theorem dX7_hasPlace_6 : decode cX7_hasPlace 6 = .ok (.getfield 15, 3) := by decide +kernel
theorem dX7_hasPlace_9 : decode cX7_hasPlace 9 = .ok (.if_icmp .ge 7, 3) := by decide +kernel
theorem dX7_hasPlace_12 : decode cX7_hasPlace 12 = .ok (.iconst 1, 1) := by decide +kernel
theorem dX7_hasPlace_13 : decode cX7_hasPlace 13 = .ok (.goto 4, 3) := by decide +kernel
theorem dX7_hasPlace_16 : decode cX7_hasPlace 16 = .ok (.iconst 0, 1) := by decide +kernel
theorem dX7_hasPlace_17 : decode cX7_hasPlace 17 = .ok (.ireturn, 1) := by decide +kernel
theorem dX7_takes_0 : decode cX7_takes 0 = .ok (.aload_n 1, 1) := by decide +kernel
theorem dX7_takes_1 : decode cX7_takes 1 = .ok (.ifnull 17, 3) := by decide +kernel
theorem dX7_takes_4 : decode cX7_takes 4 = .ok (.aload_n 1, 1) := by decide +kernel
theorem dX7_takes_5 : decode cX7_takes 5 = .ok (.getfield 19, 3) := by decide +kernel
theorem dX7_takes_8 : decode cX7_takes 8 = .ok (.aload_n 0, 1) := by decide +kernel
theorem dX7_takes_9 : decode cX7_takes 9 = .ok (.getfield 22, 3) := by decide +kernel
theorem dX7_takes_12 : decode cX7_takes 12 = .ok (.invokestatic 25, 3) := by decide +kernel
theorem dX7_takes_15 : decode cX7_takes 15 = .ok (.ifCond .eq 7, 3) := by decide +kernel
theorem dX7_takes_18 : decode cX7_takes 18 = .ok (.iconst 1, 1) := by decide +kernel
theorem dX7_takes_19 : decode cX7_takes 19 = .ok (.goto 4, 3) := by decide +kernel
theorem dX7_takes_22 : decode cX7_takes 22 = .ok (.iconst 0, 1) := by decide +kernel
theorem dX7_takes_23 : decode cX7_takes 23 = .ok (.ireturn, 1) := by decide +kernel
theorem dX7_makeFor_0 : decode cX7_makeFor 0 = .ok (.aload_n 0, 1) := by decide +kernel
theorem dX7_makeFor_1 : decode cX7_makeFor 1 = .ok (.iload_n 1, 1) := by decide +kernel
theorem dX7_makeFor_2 : decode cX7_makeFor 2 = .ok (.putfield 22, 3) := by decide +kernel
theorem dX7_makeFor_5 : decode cX7_makeFor 5 = .ok (.aload_n 0, 1) := by decide +kernel
theorem dX7_makeFor_6 : decode cX7_makeFor 6 = .ok (.iload_n 2, 1) := by decide +kernel
theorem dX7_makeFor_7 : decode cX7_makeFor 7 = .ok (.putfield 15, 3) := by decide +kernel
theorem dX7_makeFor_10 : decode cX7_makeFor 10 = .ok (.iconst 0, 1) := by decide +kernel
theorem dX7_makeFor_11 : decode cX7_makeFor 11 = .ok (.istore_n 3, 1) := by decide +kernel
theorem dX7_makeFor_12 : decode cX7_makeFor 12 = .ok (.iload_n 3, 1) := by decide +kernel
theorem dX7_makeFor_13 : decode cX7_makeFor 13 = .ok (.bipush 9, 2) := by decide +kernel
theorem dX7_makeFor_15 : decode cX7_makeFor 15 = .ok (.if_icmp .ge 16, 3) := by decide +kernel
theorem dX7_makeFor_18 : decode cX7_makeFor 18 = .ok (.aload_n 0, 1) := by decide +kernel
theorem dX7_makeFor_19 : decode cX7_makeFor 19 = .ok (.getfield 11, 3) := by decide +kernel
theorem dX7_makeFor_22 : decode cX7_makeFor 22 = .ok (.iload_n 3, 1) := by decide +kernel
theorem dX7_makeFor_23 : decode cX7_makeFor 23 = .ok (.aconst_null, 1) := by decide +kernel
theorem dX7_makeFor_24 : decode cX7_makeFor 24 = .ok (.aastore, 1) := by decide +kernel
theorem dX7_makeFor_25 : decode cX7_makeFor 25 = .ok (.iinc 3 1, 3) := by decide +kernel
theorem dX7_makeFor_28 : decode cX7_makeFor 28 = .ok (.goto (-16), 3) := by decide +kernel
theorem dX7_makeFor_31 : decode cX7_makeFor 31 = .ok (.return_, 1) := by decide +kernel
theorem dX7_copyFrom_0 : decode cX7_copyFrom 0 = .ok (.aload_n 0, 1) := by decide +kernel
theorem dX7_copyFrom_1 : decode cX7_copyFrom 1 = .ok (.aload_n 1, 1) := by decide +kernel
theorem dX7_copyFrom_2 : decode cX7_copyFrom 2 = .ok (.getfield 22, 3) := by decide +kernel
theorem dX7_copyFrom_5 : decode cX7_copyFrom 5 = .ok (.putfield 22, 3) := by decide +kernel
theorem dX7_copyFrom_8 : decode cX7_copyFrom 8 = .ok (.aload_n 0, 1) := by decide +kernel
theorem dX7_copyFrom_9 : decode cX7_copyFrom 9 = .ok (.aload_n 1, 1) := by decide +kernel
theorem dX7_copyFrom_10 : decode cX7_copyFrom 10 = .ok (.getfield 15, 3) := by decide +kernel
theorem dX7_copyFrom_13 : decode cX7_copyFrom 13 = .ok (.putfield 15, 3) := by decide +kernel
theorem dX7_copyFrom_16 : decode cX7_copyFrom 16 = .ok (.iconst 0, 1) := by decide +kernel
theorem dX7_copyFrom_17 : decode cX7_copyFrom 17 = .ok (.istore_n 2, 1) := by decide +kernel
theorem dX7_copyFrom_18 : decode cX7_copyFrom 18 = .ok (.iload_n 2, 1) := by decide +kernel
theorem dX7_copyFrom_19 : decode cX7_copyFrom 19 = .ok (.bipush 9, 2) := by decide +kernel
theorem dX7_copyFrom_21 : decode cX7_copyFrom 21 = .ok (.if_icmp .ge 21, 3) := by decide +kernel
theorem dX7_copyFrom_24 : decode cX7_copyFrom 24 = .ok (.aload_n 0, 1) := by decide +kernel
theorem dX7_copyFrom_25 : decode cX7_copyFrom 25 = .ok (.getfield 11, 3) := by decide +kernel
theorem dX7_copyFrom_28 : decode cX7_copyFrom 28 = .ok (.iload_n 2, 1) := by decide +kernel
theorem dX7_copyFrom_29 : decode cX7_copyFrom 29 = .ok (.aload_n 1, 1) := by decide +kernel
theorem dX7_copyFrom_30 : decode cX7_copyFrom 30 = .ok (.getfield 11, 3) := by decide +kernel
theorem dX7_copyFrom_33 : decode cX7_copyFrom 33 = .ok (.iload_n 2, 1) := by decide +kernel
theorem dX7_copyFrom_34 : decode cX7_copyFrom 34 = .ok (.aaload, 1) := by decide +kernel
theorem dX7_copyFrom_35 : decode cX7_copyFrom 35 = .ok (.aastore, 1) := by decide +kernel
theorem dX7_copyFrom_36 : decode cX7_copyFrom 36 = .ok (.iinc 2 1, 3) := by decide +kernel
theorem dX7_copyFrom_39 : decode cX7_copyFrom 39 = .ok (.goto (-21), 3) := by decide +kernel
theorem dX7_copyFrom_42 : decode cX7_copyFrom 42 = .ok (.return_, 1) := by decide +kernel
theorem dX8_init_0 : decode cX8_init 0 = .ok (.aload_n 0, 1) := by decide +kernel
theorem dX8_init_1 : decode cX8_init 1 = .ok (.invokespecial 3, 3) := by decide +kernel
theorem dX8_init_4 : decode cX8_init 4 = .ok (.aload_n 0, 1) := by decide +kernel
theorem dX8_init_5 : decode cX8_init 5 = .ok (.bipush 16, 2) := by decide +kernel
theorem dX8_init_7 : decode cX8_init 7 = .ok (.newarray .int, 2) := by decide +kernel
theorem dX8_init_9 : decode cX8_init 9 = .ok (.putfield 11, 3) := by decide +kernel
theorem dX8_init_12 : decode cX8_init 12 = .ok (.aload_n 0, 1) := by decide +kernel
theorem dX8_init_13 : decode cX8_init 13 = .ok (.iconst 4, 1) := by decide +kernel
theorem dX8_init_14 : decode cX8_init 14 = .ok (.newarray .long, 2) := by decide +kernel
theorem dX8_init_16 : decode cX8_init 16 = .ok (.putfield 15, 3) := by decide +kernel
theorem dX8_init_19 : decode cX8_init 19 = .ok (.aload_n 0, 1) := by decide +kernel
theorem dX8_init_20 : decode cX8_init 20 = .ok (.iconst 4, 1) := by decide +kernel
theorem dX8_init_21 : decode cX8_init 21 = .ok (.newarray .long, 2) := by decide +kernel
theorem dX8_init_23 : decode cX8_init 23 = .ok (.putfield 19, 3) := by decide +kernel
theorem dX8_init_26 : decode cX8_init 26 = .ok (.aload_n 0, 1) := by decide +kernel
theorem dX8_init_27 : decode cX8_init 27 = .ok (.bipush 16, 2) := by decide +kernel
theorem dX8_init_29 : decode cX8_init 29 = .ok (.newarray .int, 2) := by decide +kernel
theorem dX8_init_31 : decode cX8_init 31 = .ok (.putfield 22, 3) := by decide +kernel
theorem dX8_init_34 : decode cX8_init 34 = .ok (.aload_n 0, 1) := by decide +kernel
theorem dX8_init_35 : decode cX8_init 35 = .ok (.bipush 16, 2) := by decide +kernel
theorem dX8_init_37 : decode cX8_init 37 = .ok (.newarray .int, 2) := by decide +kernel
theorem dX8_init_39 : decode cX8_init 39 = .ok (.putfield 25, 3) := by decide +kernel
theorem dX8_init_42 : decode cX8_init 42 = .ok (.iconst 0, 1) := by decide +kernel
theorem dX8_init_43 : decode cX8_init 43 = .ok (.istore_n 1, 1) := by decide +kernel
theorem dX8_init_44 : decode cX8_init 44 = .ok (.iload_n 1, 1) := by decide +kernel
theorem dX8_init_45 : decode cX8_init 45 = .ok (.iconst 4, 1) := by decide +kernel
theorem dX8_init_46 : decode cX8_init 46 = .ok (.if_icmp .ge 55, 3) := by decide +kernel
theorem dX8_init_49 : decode cX8_init 49 = .ok (.aload_n 0, 1) := by decide +kernel
theorem dX8_init_50 : decode cX8_init 50 = .ok (.getfield 11, 3) := by decide +kernel
theorem dX8_init_53 : decode cX8_init 53 = .ok (.iload_n 1, 1) := by decide +kernel
theorem dX8_init_54 : decode cX8_init 54 = .ok (.iconst 4, 1) := by decide +kernel
theorem dX8_init_55 : decode cX8_init 55 = .ok (.imul, 1) := by decide +kernel
theorem dX8_init_56 : decode cX8_init 56 = .ok (.iload_n 1, 1) := by decide +kernel
theorem dX8_init_57 : decode cX8_init 57 = .ok (.iastore, 1) := by decide +kernel
theorem dX8_init_58 : decode cX8_init 58 = .ok (.aload_n 0, 1) := by decide +kernel
theorem dX8_init_59 : decode cX8_init 59 = .ok (.getfield 11, 3) := by decide +kernel
theorem dX8_init_62 : decode cX8_init 62 = .ok (.iload_n 1, 1) := by decide +kernel
theorem dX8_init_63 : decode cX8_init 63 = .ok (.iconst 4, 1) := by decide +kernel
theorem dX8_init_64 : decode cX8_init 64 = .ok (.imul, 1) := by decide +kernel
theorem dX8_init_65 : decode cX8_init 65 = .ok (.iconst 1, 1) := by decide +kernel
theorem dX8_init_66 : decode cX8_init 66 = .ok (.iadd, 1) := by decide +kernel
theorem dX8_init_67 : decode cX8_init 67 = .ok (.iload_n 1, 1) := by decide +kernel
theorem dX8_init_68 : decode cX8_init 68 = .ok (.iconst 2, 1) := by decide +kernel
theorem dX8_init_69 : decode cX8_init 69 = .ok (.ixor, 1) := by decide +kernel
theorem dX8_init_70 : decode cX8_init 70 = .ok (.iastore, 1) := by decide +kernel
theorem dX8_init_71 : decode cX8_init 71 = .ok (.aload_n 0, 1) := by decide +kernel
theorem dX8_init_72 : decode cX8_init 72 = .ok (.getfield 11, 3) := by decide +kernel
theorem dX8_init_75 : decode cX8_init 75 = .ok (.iload_n 1, 1) := by decide +kernel
theorem dX8_init_76 : decode cX8_init 76 = .ok (.iconst 4, 1) := by decide +kernel
theorem dX8_init_77 : decode cX8_init 77 = .ok (.imul, 1) := by decide +kernel
theorem dX8_init_78 : decode cX8_init 78 = .ok (.iconst 2, 1) := by decide +kernel
theorem dX8_init_79 : decode cX8_init 79 = .ok (.iadd, 1) := by decide +kernel
theorem dX8_init_80 : decode cX8_init 80 = .ok (.iload_n 1, 1) := by decide +kernel
theorem dX8_init_81 : decode cX8_init 81 = .ok (.iconst 1, 1) := by decide +kernel
theorem dX8_init_82 : decode cX8_init 82 = .ok (.ixor, 1) := by decide +kernel
theorem dX8_init_83 : decode cX8_init 83 = .ok (.iastore, 1) := by decide +kernel
theorem dX8_init_84 : decode cX8_init 84 = .ok (.aload_n 0, 1) := by decide +kernel
theorem dX8_init_85 : decode cX8_init 85 = .ok (.getfield 11, 3) := by decide +kernel
theorem dX8_init_88 : decode cX8_init 88 = .ok (.iload_n 1, 1) := by decide +kernel
theorem dX8_init_89 : decode cX8_init 89 = .ok (.iconst 4, 1) := by decide +kernel
theorem dX8_init_90 : decode cX8_init 90 = .ok (.imul, 1) := by decide +kernel
theorem dX8_init_91 : decode cX8_init 91 = .ok (.iconst 3, 1) := by decide +kernel
theorem dX8_init_92 : decode cX8_init 92 = .ok (.iadd, 1) := by decide +kernel
theorem dX8_init_93 : decode cX8_init 93 = .ok (.iload_n 1, 1) := by decide +kernel
theorem dX8_init_94 : decode cX8_init 94 = .ok (.iastore, 1) := by decide +kernel
theorem dX8_init_95 : decode cX8_init 95 = .ok (.iinc 1 1, 3) := by decide +kernel
theorem dX8_init_98 : decode cX8_init 98 = .ok (.goto (-54), 3) := by decide +kernel
theorem dX8_init_101 : decode cX8_init 101 = .ok (.return_, 1) := by decide +kernel
theorem dX8_copyFrom_0 : decode cX8_copyFrom 0 = .ok (.aload_n 1, 1) := by decide +kernel
theorem dX8_copyFrom_1 : decode cX8_copyFrom 1 = .ok (.getfield 11, 3) := by decide +kernel
theorem dX8_copyFrom_4 : decode cX8_copyFrom 4 = .ok (.iconst 0, 1) := by decide +kernel
theorem dX8_copyFrom_5 : decode cX8_copyFrom 5 = .ok (.aload_n 0, 1) := by decide +kernel
theorem dX8_copyFrom_6 : decode cX8_copyFrom 6 = .ok (.getfield 11, 3) := by decide +kernel
theorem dX8_copyFrom_9 : decode cX8_copyFrom 9 = .ok (.iconst 0, 1) := by decide +kernel
theorem dX8_copyFrom_10 : decode cX8_copyFrom 10 = .ok (.bipush 16, 2) := by decide +kernel
theorem dX8_copyFrom_12 : decode cX8_copyFrom 12 = .ok (.invokestatic 28, 3) := by decide +kernel
theorem dX8_copyFrom_15 : decode cX8_copyFrom 15 = .ok (.return_, 1) := by decide +kernel
theorem dX8_wayOfPart_0 : decode cX8_wayOfPart 0 = .ok (.aload_n 0, 1) := by decide +kernel
theorem dX8_wayOfPart_1 : decode cX8_wayOfPart 1 = .ok (.getfield 11, 3) := by decide +kernel
theorem dX8_wayOfPart_4 : decode cX8_wayOfPart 4 = .ok (.iload_n 1, 1) := by decide +kernel
theorem dX8_wayOfPart_5 : decode cX8_wayOfPart 5 = .ok (.iconst 4, 1) := by decide +kernel
theorem dX8_wayOfPart_6 : decode cX8_wayOfPart 6 = .ok (.imul, 1) := by decide +kernel
theorem dX8_wayOfPart_7 : decode cX8_wayOfPart 7 = .ok (.iload_n 2, 1) := by decide +kernel
theorem dX8_wayOfPart_8 : decode cX8_wayOfPart 8 = .ok (.iadd, 1) := by decide +kernel
theorem dX8_wayOfPart_9 : decode cX8_wayOfPart 9 = .ok (.iaload, 1) := by decide +kernel
theorem dX8_wayOfPart_10 : decode cX8_wayOfPart 10 = .ok (.ireturn, 1) := by decide +kernel
theorem dX8_become_0 : decode cX8_become 0 = .ok (.aload_n 0, 1) := by decide +kernel
theorem dX8_become_1 : decode cX8_become 1 = .ok (.getfield 11, 3) := by decide +kernel
theorem dX8_become_4 : decode cX8_become 4 = .ok (.iload_n 1, 1) := by decide +kernel
theorem dX8_become_5 : decode cX8_become 5 = .ok (.iconst 4, 1) := by decide +kernel
theorem dX8_become_6 : decode cX8_become 6 = .ok (.imul, 1) := by decide +kernel
theorem dX8_become_7 : decode cX8_become 7 = .ok (.iload_n 2, 1) := by decide +kernel
theorem dX8_become_8 : decode cX8_become 8 = .ok (.iadd, 1) := by decide +kernel
theorem dX8_become_9 : decode cX8_become 9 = .ok (.iload_n 3, 1) := by decide +kernel
theorem dX8_become_10 : decode cX8_become 10 = .ok (.iastore, 1) := by decide +kernel
theorem dX8_become_11 : decode cX8_become 11 = .ok (.return_, 1) := by decide +kernel
theorem dX8_lyingBehind_0 : decode cX8_lyingBehind 0 = .ok (.aload_n 0, 1) := by decide +kernel
theorem dX8_lyingBehind_1 : decode cX8_lyingBehind 1 = .ok (.iload_n 1, 1) := by decide +kernel
theorem dX8_lyingBehind_2 : decode cX8_lyingBehind 2 = .ok (.invokevirtual 34, 3) := by decide +kernel
theorem dX8_lyingBehind_5 : decode cX8_lyingBehind 5 = .ok (.iconst 0, 1) := by decide +kernel
theorem dX8_lyingBehind_6 : decode cX8_lyingBehind 6 = .ok (.istore 4, 2) := by decide +kernel
theorem dX8_lyingBehind_8 : decode cX8_lyingBehind 8 = .ok (.iload 4, 2) := by decide +kernel
theorem dX8_lyingBehind_10 : decode cX8_lyingBehind 10 = .ok (.iload_n 2, 1) := by decide +kernel
theorem dX8_lyingBehind_11 : decode cX8_lyingBehind 11 = .ok (.if_icmp .ge 13, 3) := by decide +kernel
theorem dX8_lyingBehind_14 : decode cX8_lyingBehind 14 = .ok (.aload_n 0, 1) := by decide +kernel
theorem dX8_lyingBehind_15 : decode cX8_lyingBehind 15 = .ok (.invokevirtual 38, 3) := by decide +kernel
theorem dX8_lyingBehind_18 : decode cX8_lyingBehind 18 = .ok (.iinc 4 1, 3) := by decide +kernel
theorem dX8_lyingBehind_21 : decode cX8_lyingBehind 21 = .ok (.goto (-13), 3) := by decide +kernel
theorem dX8_lyingBehind_24 : decode cX8_lyingBehind 24 = .ok (.aload_n 0, 1) := by decide +kernel
theorem dX8_lyingBehind_25 : decode cX8_lyingBehind 25 = .ok (.getfield 15, 3) := by decide +kernel
theorem dX8_lyingBehind_28 : decode cX8_lyingBehind 28 = .ok (.iload_n 3, 1) := by decide +kernel
theorem dX8_lyingBehind_29 : decode cX8_lyingBehind 29 = .ok (.laload, 1) := by decide +kernel
theorem dX8_lyingBehind_30 : decode cX8_lyingBehind 30 = .ok (.lreturn, 1) := by decide +kernel
theorem dX8_startWith_0 : decode cX8_startWith 0 = .ok (.iconst 0, 1) := by decide +kernel
theorem dX8_startWith_1 : decode cX8_startWith 1 = .ok (.istore_n 2, 1) := by decide +kernel
theorem dX8_startWith_2 : decode cX8_startWith 2 = .ok (.iload_n 2, 1) := by decide +kernel
theorem dX8_startWith_3 : decode cX8_startWith 3 = .ok (.iconst 4, 1) := by decide +kernel
theorem dX8_startWith_4 : decode cX8_startWith 4 = .ok (.if_icmp .ge 25, 3) := by decide +kernel
theorem dX8_startWith_7 : decode cX8_startWith 7 = .ok (.aload_n 0, 1) := by decide +kernel
theorem dX8_startWith_8 : decode cX8_startWith 8 = .ok (.getfield 15, 3) := by decide +kernel
theorem dX8_startWith_11 : decode cX8_startWith 11 = .ok (.iload_n 2, 1) := by decide +kernel
theorem dX8_startWith_12 : decode cX8_startWith 12 = .ok (.iload_n 2, 1) := by decide +kernel
theorem dX8_startWith_13 : decode cX8_startWith 13 = .ok (.iload_n 1, 1) := by decide +kernel
theorem dX8_startWith_14 : decode cX8_startWith 14 = .ok (.if_icmp .ne 7, 3) := by decide +kernel
theorem dX8_startWith_17 : decode cX8_startWith 17 = .ok (.lconst 1, 1) := by decide +kernel
theorem dX8_startWith_18 : decode cX8_startWith 18 = .ok (.goto 4, 3) := by decide +kernel
theorem dX8_startWith_21 : decode cX8_startWith 21 = .ok (.lconst 0, 1) := by decide +kernel
theorem dX8_startWith_22 : decode cX8_startWith 22 = .ok (.lastore, 1) := by decide +kernel
theorem dX8_startWith_23 : decode cX8_startWith 23 = .ok (.iinc 2 1, 3) := by decide +kernel
theorem dX8_startWith_26 : decode cX8_startWith 26 = .ok (.goto (-24), 3) := by decide +kernel
theorem dX8_startWith_29 : decode cX8_startWith 29 = .ok (.return_, 1) := by decide +kernel
theorem dX8_cutOnce_0 : decode cX8_cutOnce 0 = .ok (.iconst 0, 1) := by decide +kernel
theorem dX8_cutOnce_1 : decode cX8_cutOnce 1 = .ok (.istore_n 1, 1) := by decide +kernel
theorem dX8_cutOnce_2 : decode cX8_cutOnce 2 = .ok (.iload_n 1, 1) := by decide +kernel
theorem dX8_cutOnce_3 : decode cX8_cutOnce 3 = .ok (.iconst 4, 1) := by decide +kernel
theorem dX8_cutOnce_4 : decode cX8_cutOnce 4 = .ok (.if_icmp .ge 16, 3) := by decide +kernel
theorem dX8_cutOnce_7 : decode cX8_cutOnce 7 = .ok (.aload_n 0, 1) := by decide +kernel
theorem dX8_cutOnce_8 : decode cX8_cutOnce 8 = .ok (.getfield 19, 3) := by decide +kernel
theorem dX8_cutOnce_11 : decode cX8_cutOnce 11 = .ok (.iload_n 1, 1) := by decide +kernel
theorem dX8_cutOnce_12 : decode cX8_cutOnce 12 = .ok (.lconst 0, 1) := by decide +kernel
theorem dX8_cutOnce_13 : decode cX8_cutOnce 13 = .ok (.lastore, 1) := by decide +kernel
theorem dX8_cutOnce_14 : decode cX8_cutOnce 14 = .ok (.iinc 1 1, 3) := by decide +kernel
theorem dX8_cutOnce_17 : decode cX8_cutOnce 17 = .ok (.goto (-15), 3) := by decide +kernel
theorem dX8_cutOnce_20 : decode cX8_cutOnce 20 = .ok (.iconst 0, 1) := by decide +kernel
theorem dX8_cutOnce_21 : decode cX8_cutOnce 21 = .ok (.istore_n 1, 1) := by decide +kernel
theorem dX8_cutOnce_22 : decode cX8_cutOnce 22 = .ok (.iload_n 1, 1) := by decide +kernel
theorem dX8_cutOnce_23 : decode cX8_cutOnce 23 = .ok (.iconst 4, 1) := by decide +kernel
theorem dX8_cutOnce_24 : decode cX8_cutOnce 24 = .ok (.if_icmp .ge 42, 3) := by decide +kernel
theorem dX8_cutOnce_27 : decode cX8_cutOnce 27 = .ok (.iconst 0, 1) := by decide +kernel
theorem dX8_cutOnce_28 : decode cX8_cutOnce 28 = .ok (.istore_n 2, 1) := by decide +kernel
theorem dX8_cutOnce_29 : decode cX8_cutOnce 29 = .ok (.iload_n 2, 1) := by decide +kernel
theorem dX8_cutOnce_30 : decode cX8_cutOnce 30 = .ok (.iconst 4, 1) := by decide +kernel
theorem dX8_cutOnce_31 : decode cX8_cutOnce 31 = .ok (.if_icmp .ge 29, 3) := by decide +kernel
theorem dX8_cutOnce_34 : decode cX8_cutOnce 34 = .ok (.aload_n 0, 1) := by decide +kernel
theorem dX8_cutOnce_35 : decode cX8_cutOnce 35 = .ok (.getfield 19, 3) := by decide +kernel
theorem dX8_cutOnce_38 : decode cX8_cutOnce 38 = .ok (.aload_n 0, 1) := by decide +kernel
theorem dX8_cutOnce_39 : decode cX8_cutOnce 39 = .ok (.iload_n 1, 1) := by decide +kernel
theorem dX8_cutOnce_40 : decode cX8_cutOnce 40 = .ok (.iload_n 2, 1) := by decide +kernel
theorem dX8_cutOnce_41 : decode cX8_cutOnce 41 = .ok (.invokevirtual 41, 3) := by decide +kernel
theorem dX8_cutOnce_44 : decode cX8_cutOnce 44 = .ok (.dup2, 1) := by decide +kernel
theorem dX8_cutOnce_45 : decode cX8_cutOnce 45 = .ok (.laload, 1) := by decide +kernel
theorem dX8_cutOnce_46 : decode cX8_cutOnce 46 = .ok (.aload_n 0, 1) := by decide +kernel
theorem dX8_cutOnce_47 : decode cX8_cutOnce 47 = .ok (.getfield 15, 3) := by decide +kernel
theorem dX8_cutOnce_50 : decode cX8_cutOnce 50 = .ok (.iload_n 1, 1) := by decide +kernel
theorem dX8_cutOnce_51 : decode cX8_cutOnce 51 = .ok (.laload, 1) := by decide +kernel
theorem dX8_cutOnce_52 : decode cX8_cutOnce 52 = .ok (.ladd, 1) := by decide +kernel
theorem dX8_cutOnce_53 : decode cX8_cutOnce 53 = .ok (.lastore, 1) := by decide +kernel
theorem dX8_cutOnce_54 : decode cX8_cutOnce 54 = .ok (.iinc 2 1, 3) := by decide +kernel
theorem dX8_cutOnce_57 : decode cX8_cutOnce 57 = .ok (.goto (-28), 3) := by decide +kernel
theorem dX8_cutOnce_60 : decode cX8_cutOnce 60 = .ok (.iinc 1 1, 3) := by decide +kernel
theorem dX8_cutOnce_63 : decode cX8_cutOnce 63 = .ok (.goto (-41), 3) := by decide +kernel
theorem dX8_cutOnce_66 : decode cX8_cutOnce 66 = .ok (.aload_n 0, 1) := by decide +kernel
theorem dX8_cutOnce_67 : decode cX8_cutOnce 67 = .ok (.getfield 19, 3) := by decide +kernel
theorem dX8_cutOnce_70 : decode cX8_cutOnce 70 = .ok (.iconst 0, 1) := by decide +kernel
theorem dX8_cutOnce_71 : decode cX8_cutOnce 71 = .ok (.aload_n 0, 1) := by decide +kernel
theorem dX8_cutOnce_72 : decode cX8_cutOnce 72 = .ok (.getfield 15, 3) := by decide +kernel
theorem dX8_cutOnce_75 : decode cX8_cutOnce 75 = .ok (.iconst 0, 1) := by decide +kernel
theorem dX8_cutOnce_76 : decode cX8_cutOnce 76 = .ok (.iconst 4, 1) := by decide +kernel
theorem dX8_cutOnce_77 : decode cX8_cutOnce 77 = .ok (.invokestatic 28, 3) := by decide +kernel
theorem dX8_cutOnce_80 : decode cX8_cutOnce 80 = .ok (.return_, 1) := by decide +kernel
theorem dX8_cutsToAlike_0 : decode cX8_cutsToAlike 0 = .ok (.aload_n 0, 1) := by decide +kernel
theorem dX8_cutsToAlike_1 : decode cX8_cutsToAlike 1 = .ok (.iload_n 1, 1) := by decide +kernel
theorem dX8_cutsToAlike_2 : decode cX8_cutsToAlike 2 = .ok (.invokevirtual 34, 3) := by decide +kernel
theorem dX8_cutsToAlike_5 : decode cX8_cutsToAlike 5 = .ok (.iconst 1, 1) := by decide +kernel
theorem dX8_cutsToAlike_6 : decode cX8_cutsToAlike 6 = .ok (.istore_n 2, 1) := by decide +kernel
theorem dX8_cutsToAlike_7 : decode cX8_cutsToAlike 7 = .ok (.iload_n 2, 1) := by decide +kernel
theorem dX8_cutsToAlike_8 : decode cX8_cutsToAlike 8 = .ok (.bipush 15, 2) := by decide +kernel
theorem dX8_cutsToAlike_10 : decode cX8_cutsToAlike 10 = .ok (.if_icmp .gt 63, 3) := by decide +kernel
theorem dX8_cutsToAlike_13 : decode cX8_cutsToAlike 13 = .ok (.aload_n 0, 1) := by decide +kernel
theorem dX8_cutsToAlike_14 : decode cX8_cutsToAlike 14 = .ok (.invokevirtual 38, 3) := by decide +kernel
theorem dX8_cutsToAlike_17 : decode cX8_cutsToAlike 17 = .ok (.aload_n 0, 1) := by decide +kernel
theorem dX8_cutsToAlike_18 : decode cX8_cutsToAlike 18 = .ok (.getfield 15, 3) := by decide +kernel
theorem dX8_cutsToAlike_21 : decode cX8_cutsToAlike 21 = .ok (.iconst 0, 1) := by decide +kernel
theorem dX8_cutsToAlike_22 : decode cX8_cutsToAlike 22 = .ok (.laload, 1) := by decide +kernel
theorem dX8_cutsToAlike_23 : decode cX8_cutsToAlike 23 = .ok (.aload_n 0, 1) := by decide +kernel
theorem dX8_cutsToAlike_24 : decode cX8_cutsToAlike 24 = .ok (.getfield 15, 3) := by decide +kernel
theorem dX8_cutsToAlike_27 : decode cX8_cutsToAlike 27 = .ok (.iconst 1, 1) := by decide +kernel
theorem dX8_cutsToAlike_28 : decode cX8_cutsToAlike 28 = .ok (.laload, 1) := by decide +kernel
theorem dX8_cutsToAlike_29 : decode cX8_cutsToAlike 29 = .ok (.lcmp, 1) := by decide +kernel
theorem dX8_cutsToAlike_30 : decode cX8_cutsToAlike 30 = .ok (.ifCond .ne 37, 3) := by decide +kernel
theorem dX8_cutsToAlike_33 : decode cX8_cutsToAlike 33 = .ok (.aload_n 0, 1) := by decide +kernel
theorem dX8_cutsToAlike_34 : decode cX8_cutsToAlike 34 = .ok (.getfield 15, 3) := by decide +kernel
theorem dX8_cutsToAlike_37 : decode cX8_cutsToAlike 37 = .ok (.iconst 1, 1) := by decide +kernel
theorem dX8_cutsToAlike_38 : decode cX8_cutsToAlike 38 = .ok (.laload, 1) := by decide +kernel
theorem dX8_cutsToAlike_39 : decode cX8_cutsToAlike 39 = .ok (.aload_n 0, 1) := by decide +kernel
theorem dX8_cutsToAlike_40 : decode cX8_cutsToAlike 40 = .ok (.getfield 15, 3) := by decide +kernel
theorem dX8_cutsToAlike_43 : decode cX8_cutsToAlike 43 = .ok (.iconst 2, 1) := by decide +kernel
theorem dX8_cutsToAlike_44 : decode cX8_cutsToAlike 44 = .ok (.laload, 1) := by decide +kernel
theorem dX8_cutsToAlike_45 : decode cX8_cutsToAlike 45 = .ok (.lcmp, 1) := by decide +kernel
theorem dX8_cutsToAlike_46 : decode cX8_cutsToAlike 46 = .ok (.ifCond .ne 21, 3) := by decide +kernel
theorem dX8_cutsToAlike_49 : decode cX8_cutsToAlike 49 = .ok (.aload_n 0, 1) := by decide +kernel
theorem dX8_cutsToAlike_50 : decode cX8_cutsToAlike 50 = .ok (.getfield 15, 3) := by decide +kernel
theorem dX8_cutsToAlike_53 : decode cX8_cutsToAlike 53 = .ok (.iconst 2, 1) := by decide +kernel
theorem dX8_cutsToAlike_54 : decode cX8_cutsToAlike 54 = .ok (.laload, 1) := by decide +kernel
theorem dX8_cutsToAlike_55 : decode cX8_cutsToAlike 55 = .ok (.aload_n 0, 1) := by decide +kernel
theorem dX8_cutsToAlike_56 : decode cX8_cutsToAlike 56 = .ok (.getfield 15, 3) := by decide +kernel
theorem dX8_cutsToAlike_59 : decode cX8_cutsToAlike 59 = .ok (.iconst 3, 1) := by decide +kernel
theorem dX8_cutsToAlike_60 : decode cX8_cutsToAlike 60 = .ok (.laload, 1) := by decide +kernel
theorem dX8_cutsToAlike_61 : decode cX8_cutsToAlike 61 = .ok (.lcmp, 1) := by decide +kernel
theorem dX8_cutsToAlike_62 : decode cX8_cutsToAlike 62 = .ok (.ifCond .ne 5, 3) := by decide +kernel
theorem dX8_cutsToAlike_65 : decode cX8_cutsToAlike 65 = .ok (.iload_n 2, 1) := by decide +kernel
theorem dX8_cutsToAlike_66 : decode cX8_cutsToAlike 66 = .ok (.ireturn, 1) := by decide +kernel
theorem dX8_cutsToAlike_67 : decode cX8_cutsToAlike 67 = .ok (.iinc 2 1, 3) := by decide +kernel
theorem dX8_cutsToAlike_70 : decode cX8_cutsToAlike 70 = .ok (.goto (-63), 3) := by decide +kernel
theorem dX8_cutsToAlike_73 : decode cX8_cutsToAlike 73 = .ok (.bipush (-9), 2) := by decide +kernel
theorem dX8_cutsToAlike_75 : decode cX8_cutsToAlike 75 = .ok (.ireturn, 1) := by decide +kernel
theorem dX8_wayAt_0 : decode cX8_wayAt 0 = .ok (.iload_n 1, 1) := by decide +kernel
theorem dX8_wayAt_1 : decode cX8_wayAt 1 = .ok (.istore 4, 2) := by decide +kernel
theorem dX8_wayAt_3 : decode cX8_wayAt 3 = .ok (.iload_n 2, 1) := by decide +kernel
theorem dX8_wayAt_4 : decode cX8_wayAt 4 = .ok (.istore 5, 2) := by decide +kernel
theorem dX8_wayAt_6 : decode cX8_wayAt 6 = .ok (.iconst 0, 1) := by decide +kernel
theorem dX8_wayAt_7 : decode cX8_wayAt 7 = .ok (.istore 6, 2) := by decide +kernel
theorem dX8_wayAt_9 : decode cX8_wayAt 9 = .ok (.iload 6, 2) := by decide +kernel
theorem dX8_wayAt_11 : decode cX8_wayAt 11 = .ok (.iload_n 3, 1) := by decide +kernel
theorem dX8_wayAt_12 : decode cX8_wayAt 12 = .ok (.if_icmp .ge 27, 3) := by decide +kernel
theorem dX8_wayAt_15 : decode cX8_wayAt 15 = .ok (.aload_n 0, 1) := by decide +kernel
theorem dX8_wayAt_16 : decode cX8_wayAt 16 = .ok (.iload 4, 2) := by decide +kernel
theorem dX8_wayAt_18 : decode cX8_wayAt 18 = .ok (.iload 5, 2) := by decide +kernel
theorem dX8_wayAt_20 : decode cX8_wayAt 20 = .ok (.iconst 3, 1) := by decide +kernel
theorem dX8_wayAt_21 : decode cX8_wayAt 21 = .ok (.iand, 1) := by decide +kernel
theorem dX8_wayAt_22 : decode cX8_wayAt 22 = .ok (.invokevirtual 41, 3) := by decide +kernel
theorem dX8_wayAt_25 : decode cX8_wayAt 25 = .ok (.istore 4, 2) := by decide +kernel
theorem dX8_wayAt_27 : decode cX8_wayAt 27 = .ok (.iload 5, 2) := by decide +kernel
theorem dX8_wayAt_29 : decode cX8_wayAt 29 = .ok (.iconst 2, 1) := by decide +kernel
theorem dX8_wayAt_30 : decode cX8_wayAt 30 = .ok (.ishr, 1) := by decide +kernel
theorem dX8_wayAt_31 : decode cX8_wayAt 31 = .ok (.istore 5, 2) := by decide +kernel
theorem dX8_wayAt_33 : decode cX8_wayAt 33 = .ok (.iinc 6 1, 3) := by decide +kernel
theorem dX8_wayAt_36 : decode cX8_wayAt 36 = .ok (.goto (-27), 3) := by decide +kernel
theorem dX8_wayAt_39 : decode cX8_wayAt 39 = .ok (.iload 4, 2) := by decide +kernel
theorem dX8_wayAt_41 : decode cX8_wayAt 41 = .ok (.ireturn, 1) := by decide +kernel
theorem dX8_meeting_0 : decode cX8_meeting 0 = .ok (.iconst 0, 1) := by decide +kernel
theorem dX8_meeting_1 : decode cX8_meeting 1 = .ok (.istore 4, 2) := by decide +kernel
theorem dX8_meeting_3 : decode cX8_meeting 3 = .ok (.iload 4, 2) := by decide +kernel
theorem dX8_meeting_5 : decode cX8_meeting 5 = .ok (.bipush 16, 2) := by decide +kernel
theorem dX8_meeting_7 : decode cX8_meeting 7 = .ok (.if_icmp .ge 33, 3) := by decide +kernel
theorem dX8_meeting_10 : decode cX8_meeting 10 = .ok (.aload_n 0, 1) := by decide +kernel
theorem dX8_meeting_11 : decode cX8_meeting 11 = .ok (.getfield 22, 3) := by decide +kernel
theorem dX8_meeting_14 : decode cX8_meeting 14 = .ok (.iload 4, 2) := by decide +kernel
theorem dX8_meeting_16 : decode cX8_meeting 16 = .ok (.iload 4, 2) := by decide +kernel
theorem dX8_meeting_18 : decode cX8_meeting 18 = .ok (.iconst 4, 1) := by decide +kernel
theorem dX8_meeting_19 : decode cX8_meeting 19 = .ok (.idiv, 1) := by decide +kernel
theorem dX8_meeting_20 : decode cX8_meeting 20 = .ok (.iload 4, 2) := by decide +kernel
theorem dX8_meeting_22 : decode cX8_meeting 22 = .ok (.iconst 4, 1) := by decide +kernel
theorem dX8_meeting_23 : decode cX8_meeting 23 = .ok (.irem, 1) := by decide +kernel
theorem dX8_meeting_24 : decode cX8_meeting 24 = .ok (.if_icmp .ne 7, 3) := by decide +kernel
theorem dX8_meeting_27 : decode cX8_meeting 27 = .ok (.iconst 0, 1) := by decide +kernel
theorem dX8_meeting_28 : decode cX8_meeting 28 = .ok (.goto 5, 3) := by decide +kernel
theorem dX8_meeting_31 : decode cX8_meeting 31 = .ok (.bipush (-9), 2) := by decide +kernel
theorem dX8_meeting_33 : decode cX8_meeting 33 = .ok (.iastore, 1) := by decide +kernel
theorem dX8_meeting_34 : decode cX8_meeting 34 = .ok (.iinc 4 1, 3) := by decide +kernel
theorem dX8_meeting_37 : decode cX8_meeting 37 = .ok (.goto (-34), 3) := by decide +kernel
theorem dX8_meeting_40 : decode cX8_meeting 40 = .ok (.iload_n 1, 1) := by decide +kernel
theorem dX8_meeting_41 : decode cX8_meeting 41 = .ok (.iconst 4, 1) := by decide +kernel
theorem dX8_meeting_42 : decode cX8_meeting 42 = .ok (.imul, 1) := by decide +kernel
theorem dX8_meeting_43 : decode cX8_meeting 43 = .ok (.iload_n 2, 1) := by decide +kernel
theorem dX8_meeting_44 : decode cX8_meeting 44 = .ok (.iadd, 1) := by decide +kernel
theorem dX8_meeting_45 : decode cX8_meeting 45 = .ok (.istore 4, 2) := by decide +kernel
theorem dX8_meeting_47 : decode cX8_meeting 47 = .ok (.iconst 0, 1) := by decide +kernel
theorem dX8_meeting_48 : decode cX8_meeting 48 = .ok (.istore 5, 2) := by decide +kernel
theorem dX8_meeting_50 : decode cX8_meeting 50 = .ok (.aload_n 0, 1) := by decide +kernel
theorem dX8_meeting_51 : decode cX8_meeting 51 = .ok (.getfield 22, 3) := by decide +kernel
theorem dX8_meeting_54 : decode cX8_meeting 54 = .ok (.iload 4, 2) := by decide +kernel
theorem dX8_meeting_56 : decode cX8_meeting 56 = .ok (.iaload, 1) := by decide +kernel
theorem dX8_meeting_57 : decode cX8_meeting 57 = .ok (.bipush (-9), 2) := by decide +kernel
theorem dX8_meeting_59 : decode cX8_meeting 59 = .ok (.if_icmp .ne 20, 3) := by decide +kernel
theorem dX8_meeting_62 : decode cX8_meeting 62 = .ok (.iload 5, 2) := by decide +kernel
theorem dX8_meeting_64 : decode cX8_meeting 64 = .ok (.bipush 15, 2) := by decide +kernel
theorem dX8_meeting_66 : decode cX8_meeting 66 = .ok (.if_icmp .ge 13, 3) := by decide +kernel
theorem dX8_meeting_69 : decode cX8_meeting 69 = .ok (.aload_n 0, 1) := by decide +kernel
theorem dX8_meeting_70 : decode cX8_meeting 70 = .ok (.invokevirtual 45, 3) := by decide +kernel
theorem dX8_meeting_73 : decode cX8_meeting 73 = .ok (.iinc 5 1, 3) := by decide +kernel
theorem dX8_meeting_76 : decode cX8_meeting 76 = .ok (.goto (-26), 3) := by decide +kernel
theorem dX8_meeting_79 : decode cX8_meeting 79 = .ok (.aload_n 0, 1) := by decide +kernel
theorem dX8_meeting_80 : decode cX8_meeting 80 = .ok (.getfield 22, 3) := by decide +kernel
theorem dX8_meeting_83 : decode cX8_meeting 83 = .ok (.iload 4, 2) := by decide +kernel
theorem dX8_meeting_85 : decode cX8_meeting 85 = .ok (.iaload, 1) := by decide +kernel
theorem dX8_meeting_86 : decode cX8_meeting 86 = .ok (.bipush (-9), 2) := by decide +kernel
theorem dX8_meeting_88 : decode cX8_meeting 88 = .ok (.if_icmp .eq 7, 3) := by decide +kernel
theorem dX8_meeting_91 : decode cX8_meeting 91 = .ok (.iload_n 3, 1) := by decide +kernel
theorem dX8_meeting_92 : decode cX8_meeting 92 = .ok (.ifCond .eq 11, 3) := by decide +kernel
theorem dX8_meeting_95 : decode cX8_meeting 95 = .ok (.aload_n 0, 1) := by decide +kernel
theorem dX8_meeting_96 : decode cX8_meeting 96 = .ok (.getfield 22, 3) := by decide +kernel
theorem dX8_meeting_99 : decode cX8_meeting 99 = .ok (.iload 4, 2) := by decide +kernel
theorem dX8_meeting_101 : decode cX8_meeting 101 = .ok (.iaload, 1) := by decide +kernel
theorem dX8_meeting_102 : decode cX8_meeting 102 = .ok (.ireturn, 1) := by decide +kernel
theorem dX8_meeting_103 : decode cX8_meeting 103 = .ok (.iload 5, 2) := by decide +kernel
theorem dX8_meeting_105 : decode cX8_meeting 105 = .ok (.ireturn, 1) := by decide +kernel
theorem dX8_addFirstDigit_0 : decode cX8_addFirstDigit 0 = .ok (.iconst 0, 1) := by decide +kernel
theorem dX8_addFirstDigit_1 : decode cX8_addFirstDigit 1 = .ok (.istore_n 1, 1) := by decide +kernel
theorem dX8_addFirstDigit_2 : decode cX8_addFirstDigit 2 = .ok (.iload_n 1, 1) := by decide +kernel
theorem dX8_addFirstDigit_3 : decode cX8_addFirstDigit 3 = .ok (.bipush 16, 2) := by decide +kernel
theorem dX8_addFirstDigit_5 : decode cX8_addFirstDigit 5 = .ok (.if_icmp .ge 98, 3) := by decide +kernel
theorem dX8_addFirstDigit_8 : decode cX8_addFirstDigit 8 = .ok (.aload_n 0, 1) := by decide +kernel
theorem dX8_addFirstDigit_9 : decode cX8_addFirstDigit 9 = .ok (.getfield 25, 3) := by decide +kernel
theorem dX8_addFirstDigit_12 : decode cX8_addFirstDigit 12 = .ok (.iload_n 1, 1) := by decide +kernel
theorem dX8_addFirstDigit_13 : decode cX8_addFirstDigit 13 = .ok (.bipush (-9), 2) := by decide +kernel
theorem dX8_addFirstDigit_15 : decode cX8_addFirstDigit 15 = .ok (.iastore, 1) := by decide +kernel
theorem dX8_addFirstDigit_16 : decode cX8_addFirstDigit 16 = .ok (.iconst 0, 1) := by decide +kernel
theorem dX8_addFirstDigit_17 : decode cX8_addFirstDigit 17 = .ok (.istore_n 2, 1) := by decide +kernel
theorem dX8_addFirstDigit_18 : decode cX8_addFirstDigit 18 = .ok (.iload_n 2, 1) := by decide +kernel
theorem dX8_addFirstDigit_19 : decode cX8_addFirstDigit 19 = .ok (.iconst 4, 1) := by decide +kernel
theorem dX8_addFirstDigit_20 : decode cX8_addFirstDigit 20 = .ok (.if_icmp .ge 77, 3) := by decide +kernel
theorem dX8_addFirstDigit_23 : decode cX8_addFirstDigit 23 = .ok (.aload_n 0, 1) := by decide +kernel
theorem dX8_addFirstDigit_24 : decode cX8_addFirstDigit 24 = .ok (.getfield 22, 3) := by decide +kernel
theorem dX8_addFirstDigit_27 : decode cX8_addFirstDigit 27 = .ok (.aload_n 0, 1) := by decide +kernel
theorem dX8_addFirstDigit_28 : decode cX8_addFirstDigit 28 = .ok (.iload_n 1, 1) := by decide +kernel
theorem dX8_addFirstDigit_29 : decode cX8_addFirstDigit 29 = .ok (.iconst 4, 1) := by decide +kernel
theorem dX8_addFirstDigit_30 : decode cX8_addFirstDigit 30 = .ok (.idiv, 1) := by decide +kernel
theorem dX8_addFirstDigit_31 : decode cX8_addFirstDigit 31 = .ok (.iload_n 2, 1) := by decide +kernel
theorem dX8_addFirstDigit_32 : decode cX8_addFirstDigit 32 = .ok (.invokevirtual 41, 3) := by decide +kernel
theorem dX8_addFirstDigit_35 : decode cX8_addFirstDigit 35 = .ok (.iconst 4, 1) := by decide +kernel
theorem dX8_addFirstDigit_36 : decode cX8_addFirstDigit 36 = .ok (.imul, 1) := by decide +kernel
theorem dX8_addFirstDigit_37 : decode cX8_addFirstDigit 37 = .ok (.aload_n 0, 1) := by decide +kernel
theorem dX8_addFirstDigit_38 : decode cX8_addFirstDigit 38 = .ok (.iload_n 1, 1) := by decide +kernel
theorem dX8_addFirstDigit_39 : decode cX8_addFirstDigit 39 = .ok (.iconst 4, 1) := by decide +kernel
theorem dX8_addFirstDigit_40 : decode cX8_addFirstDigit 40 = .ok (.irem, 1) := by decide +kernel
theorem dX8_addFirstDigit_41 : decode cX8_addFirstDigit 41 = .ok (.iload_n 2, 1) := by decide +kernel
theorem dX8_addFirstDigit_42 : decode cX8_addFirstDigit 42 = .ok (.invokevirtual 41, 3) := by decide +kernel
theorem dX8_addFirstDigit_45 : decode cX8_addFirstDigit 45 = .ok (.iadd, 1) := by decide +kernel
theorem dX8_addFirstDigit_46 : decode cX8_addFirstDigit 46 = .ok (.iaload, 1) := by decide +kernel
theorem dX8_addFirstDigit_47 : decode cX8_addFirstDigit 47 = .ok (.istore_n 3, 1) := by decide +kernel
theorem dX8_addFirstDigit_48 : decode cX8_addFirstDigit 48 = .ok (.iload_n 3, 1) := by decide +kernel
theorem dX8_addFirstDigit_49 : decode cX8_addFirstDigit 49 = .ok (.iconst 4, 1) := by decide +kernel
theorem dX8_addFirstDigit_50 : decode cX8_addFirstDigit 50 = .ok (.imul, 1) := by decide +kernel
theorem dX8_addFirstDigit_51 : decode cX8_addFirstDigit 51 = .ok (.iload_n 2, 1) := by decide +kernel
theorem dX8_addFirstDigit_52 : decode cX8_addFirstDigit 52 = .ok (.iadd, 1) := by decide +kernel
theorem dX8_addFirstDigit_53 : decode cX8_addFirstDigit 53 = .ok (.istore 4, 2) := by decide +kernel
theorem dX8_addFirstDigit_55 : decode cX8_addFirstDigit 55 = .ok (.iload_n 3, 1) := by decide +kernel
theorem dX8_addFirstDigit_56 : decode cX8_addFirstDigit 56 = .ok (.bipush (-9), 2) := by decide +kernel
theorem dX8_addFirstDigit_58 : decode cX8_addFirstDigit 58 = .ok (.if_icmp .eq 33, 3) := by decide +kernel
theorem dX8_addFirstDigit_61 : decode cX8_addFirstDigit 61 = .ok (.aload_n 0, 1) := by decide +kernel
theorem dX8_addFirstDigit_62 : decode cX8_addFirstDigit 62 = .ok (.getfield 25, 3) := by decide +kernel
theorem dX8_addFirstDigit_65 : decode cX8_addFirstDigit 65 = .ok (.iload_n 1, 1) := by decide +kernel
theorem dX8_addFirstDigit_66 : decode cX8_addFirstDigit 66 = .ok (.iaload, 1) := by decide +kernel
theorem dX8_addFirstDigit_67 : decode cX8_addFirstDigit 67 = .ok (.bipush (-9), 2) := by decide +kernel
theorem dX8_addFirstDigit_69 : decode cX8_addFirstDigit 69 = .ok (.if_icmp .eq 14, 3) := by decide +kernel
theorem dX8_addFirstDigit_72 : decode cX8_addFirstDigit 72 = .ok (.iload 4, 2) := by decide +kernel
theorem dX8_addFirstDigit_74 : decode cX8_addFirstDigit 74 = .ok (.aload_n 0, 1) := by decide +kernel
theorem dX8_addFirstDigit_75 : decode cX8_addFirstDigit 75 = .ok (.getfield 25, 3) := by decide +kernel
theorem dX8_addFirstDigit_78 : decode cX8_addFirstDigit 78 = .ok (.iload_n 1, 1) := by decide +kernel
theorem dX8_addFirstDigit_79 : decode cX8_addFirstDigit 79 = .ok (.iaload, 1) := by decide +kernel
theorem dX8_addFirstDigit_80 : decode cX8_addFirstDigit 80 = .ok (.if_icmp .ge 11, 3) := by decide +kernel
theorem dX8_addFirstDigit_83 : decode cX8_addFirstDigit 83 = .ok (.aload_n 0, 1) := by decide +kernel
theorem dX8_addFirstDigit_84 : decode cX8_addFirstDigit 84 = .ok (.getfield 25, 3) := by decide +kernel
theorem dX8_addFirstDigit_87 : decode cX8_addFirstDigit 87 = .ok (.iload_n 1, 1) := by decide +kernel
theorem dX8_addFirstDigit_88 : decode cX8_addFirstDigit 88 = .ok (.iload 4, 2) := by decide +kernel
theorem dX8_addFirstDigit_90 : decode cX8_addFirstDigit 90 = .ok (.iastore, 1) := by decide +kernel
theorem dX8_addFirstDigit_91 : decode cX8_addFirstDigit 91 = .ok (.iinc 2 1, 3) := by decide +kernel
theorem dX8_addFirstDigit_94 : decode cX8_addFirstDigit 94 = .ok (.goto (-76), 3) := by decide +kernel
theorem dX8_addFirstDigit_97 : decode cX8_addFirstDigit 97 = .ok (.iinc 1 1, 3) := by decide +kernel
theorem dX8_addFirstDigit_100 : decode cX8_addFirstDigit 100 = .ok (.goto (-98), 3) := by decide +kernel
theorem dX8_addFirstDigit_103 : decode cX8_addFirstDigit 103 = .ok (.aload_n 0, 1) := by decide +kernel
theorem dX8_addFirstDigit_104 : decode cX8_addFirstDigit 104 = .ok (.getfield 25, 3) := by decide +kernel
theorem dX8_addFirstDigit_107 : decode cX8_addFirstDigit 107 = .ok (.iconst 0, 1) := by decide +kernel
theorem dX8_addFirstDigit_108 : decode cX8_addFirstDigit 108 = .ok (.aload_n 0, 1) := by decide +kernel
theorem dX8_addFirstDigit_109 : decode cX8_addFirstDigit 109 = .ok (.getfield 22, 3) := by decide +kernel
theorem dX8_addFirstDigit_112 : decode cX8_addFirstDigit 112 = .ok (.iconst 0, 1) := by decide +kernel
theorem dX8_addFirstDigit_113 : decode cX8_addFirstDigit 113 = .ok (.bipush 16, 2) := by decide +kernel
theorem dX8_addFirstDigit_115 : decode cX8_addFirstDigit 115 = .ok (.invokestatic 28, 3) := by decide +kernel
theorem dX8_addFirstDigit_118 : decode cX8_addFirstDigit 118 = .ok (.return_, 1) := by decide +kernel
theorem dX8_steadyWays_0 : decode cX8_steadyWays 0 = .ok (.iconst 1, 1) := by decide +kernel
theorem dX8_steadyWays_1 : decode cX8_steadyWays 1 = .ok (.iload_n 1, 1) := by decide +kernel
theorem dX8_steadyWays_2 : decode cX8_steadyWays 2 = .ok (.ishl, 1) := by decide +kernel
theorem dX8_steadyWays_3 : decode cX8_steadyWays 3 = .ok (.istore_n 2, 1) := by decide +kernel
theorem dX8_steadyWays_4 : decode cX8_steadyWays 4 = .ok (.iconst 0, 1) := by decide +kernel
theorem dX8_steadyWays_5 : decode cX8_steadyWays 5 = .ok (.istore_n 3, 1) := by decide +kernel
theorem dX8_steadyWays_6 : decode cX8_steadyWays 6 = .ok (.iconst 1, 1) := by decide +kernel
theorem dX8_steadyWays_7 : decode cX8_steadyWays 7 = .ok (.istore 4, 2) := by decide +kernel
theorem dX8_steadyWays_9 : decode cX8_steadyWays 9 = .ok (.iload 4, 2) := by decide +kernel
theorem dX8_steadyWays_11 : decode cX8_steadyWays 11 = .ok (.bipush 15, 2) := by decide +kernel
theorem dX8_steadyWays_13 : decode cX8_steadyWays 13 = .ok (.if_icmp .gt 29, 3) := by decide +kernel
theorem dX8_steadyWays_16 : decode cX8_steadyWays 16 = .ok (.aload_n 0, 1) := by decide +kernel
theorem dX8_steadyWays_17 : decode cX8_steadyWays 17 = .ok (.iload_n 2, 1) := by decide +kernel
theorem dX8_steadyWays_18 : decode cX8_steadyWays 18 = .ok (.invokevirtual 48, 3) := by decide +kernel
theorem dX8_steadyWays_21 : decode cX8_steadyWays 21 = .ok (.istore_n 2, 1) := by decide +kernel
theorem dX8_steadyWays_22 : decode cX8_steadyWays 22 = .ok (.iload_n 3, 1) := by decide +kernel
theorem dX8_steadyWays_23 : decode cX8_steadyWays 23 = .ok (.iload 4, 2) := by decide +kernel
theorem dX8_steadyWays_25 : decode cX8_steadyWays 25 = .ok (.iconst 4, 1) := by decide +kernel
theorem dX8_steadyWays_26 : decode cX8_steadyWays 26 = .ok (.if_icmp .lt 7, 3) := by decide +kernel
theorem dX8_steadyWays_29 : decode cX8_steadyWays 29 = .ok (.iload_n 2, 1) := by decide +kernel
theorem dX8_steadyWays_30 : decode cX8_steadyWays 30 = .ok (.goto 4, 3) := by decide +kernel
theorem dX8_steadyWays_33 : decode cX8_steadyWays 33 = .ok (.iconst 0, 1) := by decide +kernel
theorem dX8_steadyWays_34 : decode cX8_steadyWays 34 = .ok (.ior, 1) := by decide +kernel
theorem dX8_steadyWays_35 : decode cX8_steadyWays 35 = .ok (.istore_n 3, 1) := by decide +kernel
theorem dX8_steadyWays_36 : decode cX8_steadyWays 36 = .ok (.iinc 4 1, 3) := by decide +kernel
theorem dX8_steadyWays_39 : decode cX8_steadyWays 39 = .ok (.goto (-30), 3) := by decide +kernel
theorem dX8_steadyWays_42 : decode cX8_steadyWays 42 = .ok (.iload_n 3, 1) := by decide +kernel
theorem dX8_steadyWays_43 : decode cX8_steadyWays 43 = .ok (.ireturn, 1) := by decide +kernel
theorem dX8_waysBehind_0 : decode cX8_waysBehind 0 = .ok (.iconst 0, 1) := by decide +kernel
theorem dX8_waysBehind_1 : decode cX8_waysBehind 1 = .ok (.istore_n 2, 1) := by decide +kernel
theorem dX8_waysBehind_2 : decode cX8_waysBehind 2 = .ok (.iconst 0, 1) := by decide +kernel
theorem dX8_waysBehind_3 : decode cX8_waysBehind 3 = .ok (.istore_n 3, 1) := by decide +kernel
theorem dX8_waysBehind_4 : decode cX8_waysBehind 4 = .ok (.iload_n 3, 1) := by decide +kernel
theorem dX8_waysBehind_5 : decode cX8_waysBehind 5 = .ok (.bipush 16, 2) := by decide +kernel
theorem dX8_waysBehind_7 : decode cX8_waysBehind 7 = .ok (.if_icmp .ge 31, 3) := by decide +kernel
theorem dX8_waysBehind_10 : decode cX8_waysBehind 10 = .ok (.iload_n 1, 1) := by decide +kernel
theorem dX8_waysBehind_11 : decode cX8_waysBehind 11 = .ok (.iload_n 3, 1) := by decide +kernel
theorem dX8_waysBehind_12 : decode cX8_waysBehind 12 = .ok (.iconst 4, 1) := by decide +kernel
theorem dX8_waysBehind_13 : decode cX8_waysBehind 13 = .ok (.idiv, 1) := by decide +kernel
theorem dX8_waysBehind_14 : decode cX8_waysBehind 14 = .ok (.ishr, 1) := by decide +kernel
theorem dX8_waysBehind_15 : decode cX8_waysBehind 15 = .ok (.iconst 1, 1) := by decide +kernel
theorem dX8_waysBehind_16 : decode cX8_waysBehind 16 = .ok (.iand, 1) := by decide +kernel
theorem dX8_waysBehind_17 : decode cX8_waysBehind 17 = .ok (.iconst 1, 1) := by decide +kernel
theorem dX8_waysBehind_18 : decode cX8_waysBehind 18 = .ok (.if_icmp .ne 14, 3) := by decide +kernel
theorem dX8_waysBehind_21 : decode cX8_waysBehind 21 = .ok (.iload_n 2, 1) := by decide +kernel
theorem dX8_waysBehind_22 : decode cX8_waysBehind 22 = .ok (.iconst 1, 1) := by decide +kernel
theorem dX8_waysBehind_23 : decode cX8_waysBehind 23 = .ok (.aload_n 0, 1) := by decide +kernel
theorem dX8_waysBehind_24 : decode cX8_waysBehind 24 = .ok (.getfield 11, 3) := by decide +kernel
theorem dX8_waysBehind_27 : decode cX8_waysBehind 27 = .ok (.iload_n 3, 1) := by decide +kernel
theorem dX8_waysBehind_28 : decode cX8_waysBehind 28 = .ok (.iaload, 1) := by decide +kernel
theorem dX8_waysBehind_29 : decode cX8_waysBehind 29 = .ok (.ishl, 1) := by decide +kernel
theorem dX8_waysBehind_30 : decode cX8_waysBehind 30 = .ok (.ior, 1) := by decide +kernel
theorem dX8_waysBehind_31 : decode cX8_waysBehind 31 = .ok (.istore_n 2, 1) := by decide +kernel
theorem dX8_waysBehind_32 : decode cX8_waysBehind 32 = .ok (.iinc 3 1, 3) := by decide +kernel
theorem dX8_waysBehind_35 : decode cX8_waysBehind 35 = .ok (.goto (-31), 3) := by decide +kernel
theorem dX8_waysBehind_38 : decode cX8_waysBehind 38 = .ok (.iload_n 2, 1) := by decide +kernel
theorem dX8_waysBehind_39 : decode cX8_waysBehind 39 = .ok (.ireturn, 1) := by decide +kernel
theorem dX8_drawLots_0 : decode cX8_drawLots 0 = .ok (.iload_n 3, 1) := by decide +kernel
theorem dX8_drawLots_1 : decode cX8_drawLots 1 = .ok (.istore 5, 2) := by decide +kernel
theorem dX8_drawLots_3 : decode cX8_drawLots 3 = .ok (.iconst 0, 1) := by decide +kernel
theorem dX8_drawLots_4 : decode cX8_drawLots 4 = .ok (.istore 6, 2) := by decide +kernel
theorem dX8_drawLots_6 : decode cX8_drawLots 6 = .ok (.iconst 0, 1) := by decide +kernel
theorem dX8_drawLots_7 : decode cX8_drawLots 7 = .ok (.istore 7, 2) := by decide +kernel
theorem dX8_drawLots_9 : decode cX8_drawLots 9 = .ok (.iconst 0, 1) := by decide +kernel
theorem dX8_drawLots_10 : decode cX8_drawLots 10 = .ok (.istore 8, 2) := by decide +kernel
theorem dX8_drawLots_12 : decode cX8_drawLots 12 = .ok (.iload 8, 2) := by decide +kernel
theorem dX8_drawLots_14 : decode cX8_drawLots 14 = .ok (.iload_n 2, 1) := by decide +kernel
theorem dX8_drawLots_15 : decode cX8_drawLots 15 = .ok (.if_icmp .ge 79, 3) := by decide +kernel
theorem dX8_drawLots_18 : decode cX8_drawLots 18 = .ok (.iload_n 1, 1) := by decide +kernel
theorem dX8_drawLots_19 : decode cX8_drawLots 19 = .ok (.istore 9, 2) := by decide +kernel
theorem dX8_drawLots_21 : decode cX8_drawLots 21 = .ok (.iconst 0, 1) := by decide +kernel
theorem dX8_drawLots_22 : decode cX8_drawLots 22 = .ok (.istore 10, 2) := by decide +kernel
theorem dX8_drawLots_24 : decode cX8_drawLots 24 = .ok (.iload 10, 2) := by decide +kernel
theorem dX8_drawLots_26 : decode cX8_drawLots 26 = .ok (.bipush 8, 2) := by decide +kernel
theorem dX8_drawLots_28 : decode cX8_drawLots 28 = .ok (.if_icmp .ge 38, 3) := by decide +kernel
theorem dX8_drawLots_31 : decode cX8_drawLots 31 = .ok (.iload 5, 2) := by decide +kernel
theorem dX8_drawLots_33 : decode cX8_drawLots 33 = .ok (.ldc 52, 2) := by decide +kernel
theorem dX8_drawLots_35 : decode cX8_drawLots 35 = .ok (.imul, 1) := by decide +kernel
theorem dX8_drawLots_36 : decode cX8_drawLots 36 = .ok (.ldc 53, 2) := by decide +kernel
theorem dX8_drawLots_38 : decode cX8_drawLots 38 = .ok (.iadd, 1) := by decide +kernel
theorem dX8_drawLots_39 : decode cX8_drawLots 39 = .ok (.istore 5, 2) := by decide +kernel
theorem dX8_drawLots_41 : decode cX8_drawLots 41 = .ok (.aload_n 0, 1) := by decide +kernel
theorem dX8_drawLots_42 : decode cX8_drawLots 42 = .ok (.iload 9, 2) := by decide +kernel
theorem dX8_drawLots_44 : decode cX8_drawLots 44 = .ok (.iload 5, 2) := by decide +kernel
theorem dX8_drawLots_46 : decode cX8_drawLots 46 = .ok (.ldc 54, 2) := by decide +kernel
theorem dX8_drawLots_48 : decode cX8_drawLots 48 = .ok (.iand, 1) := by decide +kernel
theorem dX8_drawLots_49 : decode cX8_drawLots 49 = .ok (.sipush 256, 3) := by decide +kernel
theorem dX8_drawLots_52 : decode cX8_drawLots 52 = .ok (.idiv, 1) := by decide +kernel
theorem dX8_drawLots_53 : decode cX8_drawLots 53 = .ok (.iconst 4, 1) := by decide +kernel
theorem dX8_drawLots_54 : decode cX8_drawLots 54 = .ok (.irem, 1) := by decide +kernel
theorem dX8_drawLots_55 : decode cX8_drawLots 55 = .ok (.invokevirtual 41, 3) := by decide +kernel
theorem dX8_drawLots_58 : decode cX8_drawLots 58 = .ok (.istore 9, 2) := by decide +kernel
theorem dX8_drawLots_60 : decode cX8_drawLots 60 = .ok (.iinc 10 1, 3) := by decide +kernel
theorem dX8_drawLots_63 : decode cX8_drawLots 63 = .ok (.goto (-39), 3) := by decide +kernel
theorem dX8_drawLots_66 : decode cX8_drawLots 66 = .ok (.iload 6, 2) := by decide +kernel
theorem dX8_drawLots_68 : decode cX8_drawLots 68 = .ok (.iload 9, 2) := by decide +kernel
theorem dX8_drawLots_70 : decode cX8_drawLots 70 = .ok (.ifCond .ne 7, 3) := by decide +kernel
theorem dX8_drawLots_73 : decode cX8_drawLots 73 = .ok (.iconst 1, 1) := by decide +kernel
theorem dX8_drawLots_74 : decode cX8_drawLots 74 = .ok (.goto 4, 3) := by decide +kernel
theorem dX8_drawLots_77 : decode cX8_drawLots 77 = .ok (.iconst 0, 1) := by decide +kernel
theorem dX8_drawLots_78 : decode cX8_drawLots 78 = .ok (.iadd, 1) := by decide +kernel
theorem dX8_drawLots_79 : decode cX8_drawLots 79 = .ok (.istore 6, 2) := by decide +kernel
theorem dX8_drawLots_81 : decode cX8_drawLots 81 = .ok (.iload 7, 2) := by decide +kernel
theorem dX8_drawLots_83 : decode cX8_drawLots 83 = .ok (.iload 9, 2) := by decide +kernel
theorem dX8_drawLots_85 : decode cX8_drawLots 85 = .ok (.iadd, 1) := by decide +kernel
theorem dX8_drawLots_86 : decode cX8_drawLots 86 = .ok (.istore 7, 2) := by decide +kernel
theorem dX8_drawLots_88 : decode cX8_drawLots 88 = .ok (.iinc 8 1, 3) := by decide +kernel
theorem dX8_drawLots_91 : decode cX8_drawLots 91 = .ok (.goto (-79), 3) := by decide +kernel
theorem dX8_drawLots_94 : decode cX8_drawLots 94 = .ok (.iload 4, 2) := by decide +kernel
theorem dX8_drawLots_96 : decode cX8_drawLots 96 = .ok (.ifCond .eq 8, 3) := by decide +kernel
theorem dX8_drawLots_99 : decode cX8_drawLots 99 = .ok (.iload 7, 2) := by decide +kernel
theorem dX8_drawLots_101 : decode cX8_drawLots 101 = .ok (.goto 5, 3) := by decide +kernel
theorem dX8_drawLots_104 : decode cX8_drawLots 104 = .ok (.iload 6, 2) := by decide +kernel
theorem dX8_drawLots_106 : decode cX8_drawLots 106 = .ok (.ireturn, 1) := by decide +kernel
theorem dX9_init_0 : decode cX9_init 0 = .ok (.aload_n 0, 1) := by decide +kernel
theorem dX9_init_1 : decode cX9_init 1 = .ok (.invokespecial 1, 3) := by decide +kernel
theorem dX9_init_4 : decode cX9_init 4 = .ok (.aload_n 0, 1) := by decide +kernel
theorem dX9_init_5 : decode cX9_init 5 = .ok (.bipush 10, 2) := by decide +kernel
theorem dX9_init_7 : decode cX9_init 7 = .ok (.anewarray 9, 3) := by decide +kernel
theorem dX9_init_10 : decode cX9_init 10 = .ok (.putfield 11, 3) := by decide +kernel
theorem dX9_init_13 : decode cX9_init 13 = .ok (.aload_n 0, 1) := by decide +kernel
theorem dX9_init_14 : decode cX9_init 14 = .ok (.bipush 10, 2) := by decide +kernel
theorem dX9_init_16 : decode cX9_init 16 = .ok (.anewarray 15, 3) := by decide +kernel
theorem dX9_init_19 : decode cX9_init 19 = .ok (.putfield 17, 3) := by decide +kernel
theorem dX9_init_22 : decode cX9_init 22 = .ok (.return_, 1) := by decide +kernel
theorem dX9_copyFrom_0 : decode cX9_copyFrom 0 = .ok (.aload_n 0, 1) := by decide +kernel
theorem dX9_copyFrom_1 : decode cX9_copyFrom 1 = .ok (.aload_n 1, 1) := by decide +kernel
theorem dX9_copyFrom_2 : decode cX9_copyFrom 2 = .ok (.getfield 21, 3) := by decide +kernel
theorem dX9_copyFrom_5 : decode cX9_copyFrom 5 = .ok (.putfield 21, 3) := by decide +kernel
theorem dX9_copyFrom_8 : decode cX9_copyFrom 8 = .ok (.aload_n 0, 1) := by decide +kernel
theorem dX9_copyFrom_9 : decode cX9_copyFrom 9 = .ok (.aload_n 1, 1) := by decide +kernel
theorem dX9_copyFrom_10 : decode cX9_copyFrom 10 = .ok (.getfield 25, 3) := by decide +kernel
theorem dX9_copyFrom_13 : decode cX9_copyFrom 13 = .ok (.putfield 25, 3) := by decide +kernel
theorem dX9_copyFrom_16 : decode cX9_copyFrom 16 = .ok (.iconst 0, 1) := by decide +kernel
theorem dX9_copyFrom_17 : decode cX9_copyFrom 17 = .ok (.istore_n 2, 1) := by decide +kernel
theorem dX9_copyFrom_18 : decode cX9_copyFrom 18 = .ok (.iload_n 2, 1) := by decide +kernel
theorem dX9_copyFrom_19 : decode cX9_copyFrom 19 = .ok (.bipush 10, 2) := by decide +kernel
theorem dX9_copyFrom_21 : decode cX9_copyFrom 21 = .ok (.if_icmp .ge 33, 3) := by decide +kernel
theorem dX9_copyFrom_24 : decode cX9_copyFrom 24 = .ok (.aload_n 0, 1) := by decide +kernel
theorem dX9_copyFrom_25 : decode cX9_copyFrom 25 = .ok (.getfield 11, 3) := by decide +kernel
theorem dX9_copyFrom_28 : decode cX9_copyFrom 28 = .ok (.iload_n 2, 1) := by decide +kernel
theorem dX9_copyFrom_29 : decode cX9_copyFrom 29 = .ok (.aload_n 1, 1) := by decide +kernel
theorem dX9_copyFrom_30 : decode cX9_copyFrom 30 = .ok (.getfield 11, 3) := by decide +kernel
theorem dX9_copyFrom_33 : decode cX9_copyFrom 33 = .ok (.iload_n 2, 1) := by decide +kernel
theorem dX9_copyFrom_34 : decode cX9_copyFrom 34 = .ok (.aaload, 1) := by decide +kernel
theorem dX9_copyFrom_35 : decode cX9_copyFrom 35 = .ok (.aastore, 1) := by decide +kernel
theorem dX9_copyFrom_36 : decode cX9_copyFrom 36 = .ok (.aload_n 0, 1) := by decide +kernel
theorem dX9_copyFrom_37 : decode cX9_copyFrom 37 = .ok (.getfield 17, 3) := by decide +kernel
theorem dX9_copyFrom_40 : decode cX9_copyFrom 40 = .ok (.iload_n 2, 1) := by decide +kernel
theorem dX9_copyFrom_41 : decode cX9_copyFrom 41 = .ok (.aload_n 1, 1) := by decide +kernel
theorem dX9_copyFrom_42 : decode cX9_copyFrom 42 = .ok (.getfield 17, 3) := by decide +kernel
theorem dX9_copyFrom_45 : decode cX9_copyFrom 45 = .ok (.iload_n 2, 1) := by decide +kernel
theorem dX9_copyFrom_46 : decode cX9_copyFrom 46 = .ok (.aaload, 1) := by decide +kernel
theorem dX9_copyFrom_47 : decode cX9_copyFrom 47 = .ok (.aastore, 1) := by decide +kernel
theorem dX9_copyFrom_48 : decode cX9_copyFrom 48 = .ok (.iinc 2 1, 3) := by decide +kernel
theorem dX9_copyFrom_51 : decode cX9_copyFrom 51 = .ok (.goto (-33), 3) := by decide +kernel
theorem dX9_copyFrom_54 : decode cX9_copyFrom 54 = .ok (.return_, 1) := by decide +kernel
theorem dX9_hasPoint_0 : decode cX9_hasPoint 0 = .ok (.iload_n 1, 1) := by decide +kernel
theorem dX9_hasPoint_1 : decode cX9_hasPoint 1 = .ok (.ifCond .lt 15, 3) := by decide +kernel
theorem dX9_hasPoint_4 : decode cX9_hasPoint 4 = .ok (.iload_n 1, 1) := by decide +kernel
theorem dX9_hasPoint_5 : decode cX9_hasPoint 5 = .ok (.aload_n 0, 1) := by decide +kernel
theorem dX9_hasPoint_6 : decode cX9_hasPoint 6 = .ok (.getfield 21, 3) := by decide +kernel
theorem dX9_hasPoint_9 : decode cX9_hasPoint 9 = .ok (.if_icmp .ge 7, 3) := by decide +kernel
theorem dX9_hasPoint_12 : decode cX9_hasPoint 12 = .ok (.iconst 1, 1) := by decide +kernel
theorem dX9_hasPoint_13 : decode cX9_hasPoint 13 = .ok (.goto 4, 3) := by decide +kernel
theorem dX9_hasPoint_16 : decode cX9_hasPoint 16 = .ok (.iconst 0, 1) := by decide +kernel
theorem dX9_hasPoint_17 : decode cX9_hasPoint 17 = .ok (.ireturn, 1) := by decide +kernel
theorem dX9_hasTriangle_0 : decode cX9_hasTriangle 0 = .ok (.iload_n 1, 1) := by decide +kernel
theorem dX9_hasTriangle_1 : decode cX9_hasTriangle 1 = .ok (.ifCond .lt 15, 3) := by decide +kernel
theorem dX9_hasTriangle_4 : decode cX9_hasTriangle 4 = .ok (.iload_n 1, 1) := by decide +kernel
theorem dX9_hasTriangle_5 : decode cX9_hasTriangle 5 = .ok (.aload_n 0, 1) := by decide +kernel
theorem dX9_hasTriangle_6 : decode cX9_hasTriangle 6 = .ok (.getfield 25, 3) := by decide +kernel
theorem dX9_hasTriangle_9 : decode cX9_hasTriangle 9 = .ok (.if_icmp .ge 7, 3) := by decide +kernel
theorem dX9_hasTriangle_12 : decode cX9_hasTriangle 12 = .ok (.iconst 1, 1) := by decide +kernel
theorem dX9_hasTriangle_13 : decode cX9_hasTriangle 13 = .ok (.goto 4, 3) := by decide +kernel
theorem dX9_hasTriangle_16 : decode cX9_hasTriangle 16 = .ok (.iconst 0, 1) := by decide +kernel
theorem dX9_hasTriangle_17 : decode cX9_hasTriangle 17 = .ok (.ireturn, 1) := by decide +kernel
theorem dX9_hasSet_0 : decode cX9_hasSet 0 = .ok (.iload_n 1, 1) := by decide +kernel
theorem dX9_hasSet_1 : decode cX9_hasSet 1 = .ok (.ifCond .lt 16, 3) := by decide +kernel
theorem dX9_hasSet_4 : decode cX9_hasSet 4 = .ok (.iload_n 1, 1) := by decide +kernel
theorem dX9_hasSet_5 : decode cX9_hasSet 5 = .ok (.aload_n 0, 1) := by decide +kernel
theorem dX9_hasSet_6 : decode cX9_hasSet 6 = .ok (.getfield 25, 3) := by decide +kernel
theorem dX9_hasSet_9 : decode cX9_hasSet 9 = .ok (.ishr, 1) := by decide +kernel
theorem dX9_hasSet_10 : decode cX9_hasSet 10 = .ok (.ifCond .ne 7, 3) := by decide +kernel
theorem dX9_hasSet_13 : decode cX9_hasSet 13 = .ok (.iconst 1, 1) := by decide +kernel
theorem dX9_hasSet_14 : decode cX9_hasSet 14 = .ok (.goto 4, 3) := by decide +kernel
theorem dX9_hasSet_17 : decode cX9_hasSet 17 = .ok (.iconst 0, 1) := by decide +kernel
theorem dX9_hasSet_18 : decode cX9_hasSet 18 = .ok (.ireturn, 1) := by decide +kernel
theorem dX9_areThree_0 : decode cX9_areThree 0 = .ok (.iload_n 1, 1) := by decide +kernel
theorem dX9_areThree_1 : decode cX9_areThree 1 = .ok (.ifCond .lt 30, 3) := by decide +kernel
theorem dX9_areThree_4 : decode cX9_areThree 4 = .ok (.iload_n 1, 1) := by decide +kernel
theorem dX9_areThree_5 : decode cX9_areThree 5 = .ok (.iload_n 0, 1) := by decide +kernel
theorem dX9_areThree_6 : decode cX9_areThree 6 = .ok (.if_icmp .ge 25, 3) := by decide +kernel
theorem dX9_areThree_9 : decode cX9_areThree 9 = .ok (.iload_n 2, 1) := by decide +kernel
theorem dX9_areThree_10 : decode cX9_areThree 10 = .ok (.ifCond .lt 21, 3) := by decide +kernel
theorem dX9_areThree_13 : decode cX9_areThree 13 = .ok (.iload_n 2, 1) := by decide +kernel
theorem dX9_areThree_14 : decode cX9_areThree 14 = .ok (.iload_n 0, 1) := by decide +kernel
theorem dX9_areThree_15 : decode cX9_areThree 15 = .ok (.if_icmp .ge 16, 3) := by decide +kernel
theorem dX9_areThree_18 : decode cX9_areThree 18 = .ok (.iload_n 3, 1) := by decide +kernel
theorem dX9_areThree_19 : decode cX9_areThree 19 = .ok (.ifCond .lt 12, 3) := by decide +kernel
theorem dX9_areThree_22 : decode cX9_areThree 22 = .ok (.iload_n 3, 1) := by decide +kernel
theorem dX9_areThree_23 : decode cX9_areThree 23 = .ok (.iload_n 0, 1) := by decide +kernel
theorem dX9_areThree_24 : decode cX9_areThree 24 = .ok (.if_icmp .ge 7, 3) := by decide +kernel
theorem dX9_areThree_27 : decode cX9_areThree 27 = .ok (.iconst 1, 1) := by decide +kernel
theorem dX9_areThree_28 : decode cX9_areThree 28 = .ok (.goto 4, 3) := by decide +kernel
theorem dX9_areThree_31 : decode cX9_areThree 31 = .ok (.iconst 0, 1) := by decide +kernel
theorem dX9_areThree_32 : decode cX9_areThree 32 = .ok (.istore 4, 2) := by decide +kernel
theorem dX9_areThree_34 : decode cX9_areThree 34 = .ok (.iload 4, 2) := by decide +kernel
theorem dX9_areThree_36 : decode cX9_areThree 36 = .ok (.ifCond .eq 22, 3) := by decide +kernel
theorem dX9_areThree_39 : decode cX9_areThree 39 = .ok (.iload_n 1, 1) := by decide +kernel
theorem dX9_areThree_40 : decode cX9_areThree 40 = .ok (.iload_n 2, 1) := by decide +kernel
theorem dX9_areThree_41 : decode cX9_areThree 41 = .ok (.if_icmp .eq 17, 3) := by decide +kernel
theorem dX9_areThree_44 : decode cX9_areThree 44 = .ok (.iload_n 1, 1) := by decide +kernel
theorem dX9_areThree_45 : decode cX9_areThree 45 = .ok (.iload_n 3, 1) := by decide +kernel
theorem dX9_areThree_46 : decode cX9_areThree 46 = .ok (.if_icmp .eq 12, 3) := by decide +kernel
theorem dX9_areThree_49 : decode cX9_areThree 49 = .ok (.iload_n 2, 1) := by decide +kernel
theorem dX9_areThree_50 : decode cX9_areThree 50 = .ok (.iload_n 3, 1) := by decide +kernel
theorem dX9_areThree_51 : decode cX9_areThree 51 = .ok (.if_icmp .eq 7, 3) := by decide +kernel
theorem dX9_areThree_54 : decode cX9_areThree 54 = .ok (.iconst 1, 1) := by decide +kernel
theorem dX9_areThree_55 : decode cX9_areThree 55 = .ok (.goto 4, 3) := by decide +kernel
theorem dX9_areThree_58 : decode cX9_areThree 58 = .ok (.iconst 0, 1) := by decide +kernel
theorem dX9_areThree_59 : decode cX9_areThree 59 = .ok (.ireturn, 1) := by decide +kernel
theorem dX9_addPoint_0 : decode cX9_addPoint 0 = .ok (.aload_n 0, 1) := by decide +kernel
theorem dX9_addPoint_1 : decode cX9_addPoint 1 = .ok (.getfield 21, 3) := by decide +kernel
theorem dX9_addPoint_4 : decode cX9_addPoint 4 = .ok (.bipush 10, 2) := by decide +kernel
theorem dX9_addPoint_6 : decode cX9_addPoint 6 = .ok (.if_icmp .ge 37, 3) := by decide +kernel
theorem dX9_addPoint_9 : decode cX9_addPoint 9 = .ok (.aload_n 0, 1) := by decide +kernel
theorem dX9_addPoint_10 : decode cX9_addPoint 10 = .ok (.getfield 11, 3) := by decide +kernel
theorem dX9_addPoint_13 : decode cX9_addPoint 13 = .ok (.aload_n 0, 1) := by decide +kernel
theorem dX9_addPoint_14 : decode cX9_addPoint 14 = .ok (.getfield 21, 3) := by decide +kernel
theorem dX9_addPoint_17 : decode cX9_addPoint 17 = .ok (.new 9, 3) := by decide +kernel
theorem dX9_addPoint_20 : decode cX9_addPoint 20 = .ok (.dup, 1) := by decide +kernel
theorem dX9_addPoint_21 : decode cX9_addPoint 21 = .ok (.iload_n 1, 1) := by decide +kernel
theorem dX9_addPoint_22 : decode cX9_addPoint 22 = .ok (.invokestatic 28, 3) := by decide +kernel
theorem dX9_addPoint_25 : decode cX9_addPoint 25 = .ok (.iload_n 2, 1) := by decide +kernel
theorem dX9_addPoint_26 : decode cX9_addPoint 26 = .ok (.invokestatic 28, 3) := by decide +kernel
theorem dX9_addPoint_29 : decode cX9_addPoint 29 = .ok (.invokespecial 32, 3) := by decide +kernel
theorem dX9_addPoint_32 : decode cX9_addPoint 32 = .ok (.aastore, 1) := by decide +kernel
theorem dX9_addPoint_33 : decode cX9_addPoint 33 = .ok (.aload_n 0, 1) := by decide +kernel
theorem dX9_addPoint_34 : decode cX9_addPoint 34 = .ok (.dup, 1) := by decide +kernel
theorem dX9_addPoint_35 : decode cX9_addPoint 35 = .ok (.getfield 21, 3) := by decide +kernel
theorem dX9_addPoint_38 : decode cX9_addPoint 38 = .ok (.iconst 1, 1) := by decide +kernel
theorem dX9_addPoint_39 : decode cX9_addPoint 39 = .ok (.iadd, 1) := by decide +kernel
theorem dX9_addPoint_40 : decode cX9_addPoint 40 = .ok (.putfield 21, 3) := by decide +kernel
theorem dX9_addPoint_43 : decode cX9_addPoint 43 = .ok (.return_, 1) := by decide +kernel
theorem dX9_fractionOf_0 : decode cX9_fractionOf 0 = .ok (.iload_n 0, 1) := by decide +kernel
theorem dX9_fractionOf_1 : decode cX9_fractionOf 1 = .ok (.bipush 100, 2) := by decide +kernel
theorem dX9_fractionOf_3 : decode cX9_fractionOf 3 = .ok (.idiv, 1) := by decide +kernel
theorem dX9_fractionOf_4 : decode cX9_fractionOf 4 = .ok (.i2l, 1) := by decide +kernel
theorem dX9_fractionOf_5 : decode cX9_fractionOf 5 = .ok (.iload_n 0, 1) := by decide +kernel
theorem dX9_fractionOf_6 : decode cX9_fractionOf 6 = .ok (.bipush 100, 2) := by decide +kernel
theorem dX9_fractionOf_8 : decode cX9_fractionOf 8 = .ok (.irem, 1) := by decide +kernel
theorem dX9_fractionOf_9 : decode cX9_fractionOf 9 = .ok (.i2l, 1) := by decide +kernel
theorem dX9_fractionOf_10 : decode cX9_fractionOf 10 = .ok (.invokestatic 35, 3) := by decide +kernel
theorem dX9_fractionOf_13 : decode cX9_fractionOf 13 = .ok (.areturn, 1) := by decide +kernel
theorem dX9_addTriangle_0 : decode cX9_addTriangle 0 = .ok (.aload_n 0, 1) := by decide +kernel
theorem dX9_addTriangle_1 : decode cX9_addTriangle 1 = .ok (.getfield 25, 3) := by decide +kernel
theorem dX9_addTriangle_4 : decode cX9_addTriangle 4 = .ok (.bipush 10, 2) := by decide +kernel
theorem dX9_addTriangle_6 : decode cX9_addTriangle 6 = .ok (.if_icmp .ge 48, 3) := by decide +kernel
theorem dX9_addTriangle_9 : decode cX9_addTriangle 9 = .ok (.aload_n 0, 1) := by decide +kernel
theorem dX9_addTriangle_10 : decode cX9_addTriangle 10 = .ok (.getfield 21, 3) := by decide +kernel
theorem dX9_addTriangle_13 : decode cX9_addTriangle 13 = .ok (.iload_n 2, 1) := by decide +kernel
theorem dX9_addTriangle_14 : decode cX9_addTriangle 14 = .ok (.iload_n 3, 1) := by decide +kernel
theorem dX9_addTriangle_15 : decode cX9_addTriangle 15 = .ok (.iload 4, 2) := by decide +kernel
theorem dX9_addTriangle_17 : decode cX9_addTriangle 17 = .ok (.invokestatic 41, 3) := by decide +kernel
theorem dX9_addTriangle_20 : decode cX9_addTriangle 20 = .ok (.ifCond .eq 34, 3) := by decide +kernel
theorem dX9_addTriangle_23 : decode cX9_addTriangle 23 = .ok (.aload_n 0, 1) := by decide +kernel
theorem dX9_addTriangle_24 : decode cX9_addTriangle 24 = .ok (.getfield 17, 3) := by decide +kernel
theorem dX9_addTriangle_27 : decode cX9_addTriangle 27 = .ok (.aload_n 0, 1) := by decide +kernel
theorem dX9_addTriangle_28 : decode cX9_addTriangle 28 = .ok (.getfield 25, 3) := by decide +kernel
theorem dX9_addTriangle_31 : decode cX9_addTriangle 31 = .ok (.aload_n 0, 1) := by decide +kernel
theorem dX9_addTriangle_32 : decode cX9_addTriangle 32 = .ok (.getfield 11, 3) := by decide +kernel
theorem dX9_addTriangle_35 : decode cX9_addTriangle 35 = .ok (.iload_n 1, 1) := by decide +kernel
theorem dX9_addTriangle_36 : decode cX9_addTriangle 36 = .ok (.iload_n 2, 1) := by decide +kernel
theorem dX9_addTriangle_37 : decode cX9_addTriangle 37 = .ok (.iload_n 3, 1) := by decide +kernel
theorem dX9_addTriangle_38 : decode cX9_addTriangle 38 = .ok (.iload 4, 2) := by decide +kernel
theorem dX9_addTriangle_40 : decode cX9_addTriangle 40 = .ok (.invokestatic 45, 3) := by decide +kernel
theorem dX9_addTriangle_43 : decode cX9_addTriangle 43 = .ok (.aastore, 1) := by decide +kernel
theorem dX9_addTriangle_44 : decode cX9_addTriangle 44 = .ok (.aload_n 0, 1) := by decide +kernel
theorem dX9_addTriangle_45 : decode cX9_addTriangle 45 = .ok (.dup, 1) := by decide +kernel
theorem dX9_addTriangle_46 : decode cX9_addTriangle 46 = .ok (.getfield 25, 3) := by decide +kernel
theorem dX9_addTriangle_49 : decode cX9_addTriangle 49 = .ok (.iconst 1, 1) := by decide +kernel
theorem dX9_addTriangle_50 : decode cX9_addTriangle 50 = .ok (.iadd, 1) := by decide +kernel
theorem dX9_addTriangle_51 : decode cX9_addTriangle 51 = .ok (.putfield 25, 3) := by decide +kernel
theorem dX9_addTriangle_54 : decode cX9_addTriangle 54 = .ok (.return_, 1) := by decide +kernel
theorem dX9_isIn_0 : decode cX9_isIn 0 = .ok (.iload_n 1, 1) := by decide +kernel
theorem dX9_isIn_1 : decode cX9_isIn 1 = .ok (.iload_n 2, 1) := by decide +kernel
theorem dX9_isIn_2 : decode cX9_isIn 2 = .ok (.ishr, 1) := by decide +kernel
theorem dX9_isIn_3 : decode cX9_isIn 3 = .ok (.iconst 1, 1) := by decide +kernel
theorem dX9_isIn_4 : decode cX9_isIn 4 = .ok (.iand, 1) := by decide +kernel
theorem dX9_isIn_5 : decode cX9_isIn 5 = .ok (.iconst 1, 1) := by decide +kernel
theorem dX9_isIn_6 : decode cX9_isIn 6 = .ok (.if_icmp .ne 7, 3) := by decide +kernel
theorem dX9_isIn_9 : decode cX9_isIn 9 = .ok (.iconst 1, 1) := by decide +kernel
theorem dX9_isIn_10 : decode cX9_isIn 10 = .ok (.goto 4, 3) := by decide +kernel
theorem dX9_isIn_13 : decode cX9_isIn 13 = .ok (.iconst 0, 1) := by decide +kernel
theorem dX9_isIn_14 : decode cX9_isIn 14 = .ok (.ireturn, 1) := by decide +kernel
theorem dX9_exactSum_0 : decode cX9_exactSum 0 = .ok (.lconst 0, 1) := by decide +kernel
theorem dX9_exactSum_1 : decode cX9_exactSum 1 = .ok (.lconst 1, 1) := by decide +kernel
theorem dX9_exactSum_2 : decode cX9_exactSum 2 = .ok (.invokestatic 35, 3) := by decide +kernel
theorem dX9_exactSum_5 : decode cX9_exactSum 5 = .ok (.astore_n 2, 1) := by decide +kernel
theorem dX9_exactSum_6 : decode cX9_exactSum 6 = .ok (.iconst 0, 1) := by decide +kernel
theorem dX9_exactSum_7 : decode cX9_exactSum 7 = .ok (.istore_n 3, 1) := by decide +kernel
theorem dX9_exactSum_8 : decode cX9_exactSum 8 = .ok (.iload_n 3, 1) := by decide +kernel
theorem dX9_exactSum_9 : decode cX9_exactSum 9 = .ok (.aload_n 0, 1) := by decide +kernel
theorem dX9_exactSum_10 : decode cX9_exactSum 10 = .ok (.getfield 25, 3) := by decide +kernel
theorem dX9_exactSum_13 : decode cX9_exactSum 13 = .ok (.if_icmp .ge 61, 3) := by decide +kernel
theorem dX9_exactSum_16 : decode cX9_exactSum 16 = .ok (.aload_n 0, 1) := by decide +kernel
theorem dX9_exactSum_17 : decode cX9_exactSum 17 = .ok (.iload_n 1, 1) := by decide +kernel
theorem dX9_exactSum_18 : decode cX9_exactSum 18 = .ok (.iload_n 3, 1) := by decide +kernel
theorem dX9_exactSum_19 : decode cX9_exactSum 19 = .ok (.invokevirtual 49, 3) := by decide +kernel
theorem dX9_exactSum_22 : decode cX9_exactSum 22 = .ok (.ifCond .eq 46, 3) := by decide +kernel
theorem dX9_exactSum_25 : decode cX9_exactSum 25 = .ok (.aload_n 0, 1) := by decide +kernel
theorem dX9_exactSum_26 : decode cX9_exactSum 26 = .ok (.getfield 17, 3) := by decide +kernel
theorem dX9_exactSum_29 : decode cX9_exactSum 29 = .ok (.iload_n 3, 1) := by decide +kernel
theorem dX9_exactSum_30 : decode cX9_exactSum 30 = .ok (.aaload, 1) := by decide +kernel
theorem dX9_exactSum_31 : decode cX9_exactSum 31 = .ok (.getfield 53, 3) := by decide +kernel
theorem dX9_exactSum_34 : decode cX9_exactSum 34 = .ok (.astore 4, 2) := by decide +kernel
theorem dX9_exactSum_36 : decode cX9_exactSum 36 = .ok (.aload 4, 2) := by decide +kernel
theorem dX9_exactSum_38 : decode cX9_exactSum 38 = .ok (.ldc2_w 57, 3) := by decide +kernel
theorem dX9_exactSum_41 : decode cX9_exactSum 41 = .ok (.invokevirtual 59, 3) := by decide +kernel
theorem dX9_exactSum_44 : decode cX9_exactSum 44 = .ok (.ifCond .eq 5, 3) := by decide +kernel
theorem dX9_exactSum_47 : decode cX9_exactSum 47 = .ok (.aconst_null, 1) := by decide +kernel
theorem dX9_exactSum_48 : decode cX9_exactSum 48 = .ok (.areturn, 1) := by decide +kernel
theorem dX9_exactSum_49 : decode cX9_exactSum 49 = .ok (.aload_n 2, 1) := by decide +kernel
theorem dX9_exactSum_50 : decode cX9_exactSum 50 = .ok (.aload 4, 2) := by decide +kernel
theorem dX9_exactSum_52 : decode cX9_exactSum 52 = .ok (.invokevirtual 63, 3) := by decide +kernel
theorem dX9_exactSum_55 : decode cX9_exactSum 55 = .ok (.astore_n 2, 1) := by decide +kernel
theorem dX9_exactSum_56 : decode cX9_exactSum 56 = .ok (.aload_n 2, 1) := by decide +kernel
theorem dX9_exactSum_57 : decode cX9_exactSum 57 = .ok (.ldc2_w 57, 3) := by decide +kernel
theorem dX9_exactSum_60 : decode cX9_exactSum 60 = .ok (.invokevirtual 59, 3) := by decide +kernel
theorem dX9_exactSum_63 : decode cX9_exactSum 63 = .ok (.ifCond .eq 5, 3) := by decide +kernel
theorem dX9_exactSum_66 : decode cX9_exactSum 66 = .ok (.aconst_null, 1) := by decide +kernel
theorem dX9_exactSum_67 : decode cX9_exactSum 67 = .ok (.areturn, 1) := by decide +kernel
theorem dX9_exactSum_68 : decode cX9_exactSum 68 = .ok (.iinc 3 1, 3) := by decide +kernel
theorem dX9_exactSum_71 : decode cX9_exactSum 71 = .ok (.goto (-63), 3) := by decide +kernel
theorem dX9_exactSum_74 : decode cX9_exactSum 74 = .ok (.aload_n 2, 1) := by decide +kernel
theorem dX9_exactSum_75 : decode cX9_exactSum 75 = .ok (.areturn, 1) := by decide +kernel
theorem dX9_evenOnes_0 : decode cX9_evenOnes 0 = .ok (.iconst 0, 1) := by decide +kernel
theorem dX9_evenOnes_1 : decode cX9_evenOnes 1 = .ok (.istore_n 2, 1) := by decide +kernel
theorem dX9_evenOnes_2 : decode cX9_evenOnes 2 = .ok (.iconst 0, 1) := by decide +kernel
theorem dX9_evenOnes_3 : decode cX9_evenOnes 3 = .ok (.istore_n 3, 1) := by decide +kernel
theorem dX9_evenOnes_4 : decode cX9_evenOnes 4 = .ok (.iload_n 3, 1) := by decide +kernel
theorem dX9_evenOnes_5 : decode cX9_evenOnes 5 = .ok (.aload_n 0, 1) := by decide +kernel
theorem dX9_evenOnes_6 : decode cX9_evenOnes 6 = .ok (.getfield 25, 3) := by decide +kernel
theorem dX9_evenOnes_9 : decode cX9_evenOnes 9 = .ok (.if_icmp .ge 40, 3) := by decide +kernel
theorem dX9_evenOnes_12 : decode cX9_evenOnes 12 = .ok (.aload_n 0, 1) := by decide +kernel
theorem dX9_evenOnes_13 : decode cX9_evenOnes 13 = .ok (.iload_n 1, 1) := by decide +kernel
theorem dX9_evenOnes_14 : decode cX9_evenOnes 14 = .ok (.iload_n 3, 1) := by decide +kernel
theorem dX9_evenOnes_15 : decode cX9_evenOnes 15 = .ok (.invokevirtual 49, 3) := by decide +kernel
theorem dX9_evenOnes_18 : decode cX9_evenOnes 18 = .ok (.ifCond .eq 25, 3) := by decide +kernel
theorem dX9_evenOnes_21 : decode cX9_evenOnes 21 = .ok (.aload_n 0, 1) := by decide +kernel
theorem dX9_evenOnes_22 : decode cX9_evenOnes 22 = .ok (.getfield 17, 3) := by decide +kernel
theorem dX9_evenOnes_25 : decode cX9_evenOnes 25 = .ok (.iload_n 3, 1) := by decide +kernel
theorem dX9_evenOnes_26 : decode cX9_evenOnes 26 = .ok (.aaload, 1) := by decide +kernel
theorem dX9_evenOnes_27 : decode cX9_evenOnes 27 = .ok (.getfield 53, 3) := by decide +kernel
theorem dX9_evenOnes_30 : decode cX9_evenOnes 30 = .ok (.invokevirtual 67, 3) := by decide +kernel
theorem dX9_evenOnes_33 : decode cX9_evenOnes 33 = .ok (.iconst (-1), 1) := by decide +kernel
theorem dX9_evenOnes_34 : decode cX9_evenOnes 34 = .ok (.if_icmp .gt 9, 3) := by decide +kernel
theorem dX9_evenOnes_37 : decode cX9_evenOnes 37 = .ok (.iload_n 2, 1) := by decide +kernel
theorem dX9_evenOnes_38 : decode cX9_evenOnes 38 = .ok (.iconst 1, 1) := by decide +kernel
theorem dX9_evenOnes_39 : decode cX9_evenOnes 39 = .ok (.iload_n 3, 1) := by decide +kernel
theorem dX9_evenOnes_40 : decode cX9_evenOnes 40 = .ok (.ishl, 1) := by decide +kernel
theorem dX9_evenOnes_41 : decode cX9_evenOnes 41 = .ok (.ior, 1) := by decide +kernel
theorem dX9_evenOnes_42 : decode cX9_evenOnes 42 = .ok (.istore_n 2, 1) := by decide +kernel
theorem dX9_evenOnes_43 : decode cX9_evenOnes 43 = .ok (.iinc 3 1, 3) := by decide +kernel
theorem dX9_evenOnes_46 : decode cX9_evenOnes 46 = .ok (.goto (-42), 3) := by decide +kernel
theorem dX9_evenOnes_49 : decode cX9_evenOnes 49 = .ok (.iload_n 2, 1) := by decide +kernel
theorem dX9_evenOnes_50 : decode cX9_evenOnes 50 = .ok (.ireturn, 1) := by decide +kernel
theorem dX9_rainbows_0 : decode cX9_rainbows 0 = .ok (.iconst 0, 1) := by decide +kernel
theorem dX9_rainbows_1 : decode cX9_rainbows 1 = .ok (.istore_n 2, 1) := by decide +kernel
theorem dX9_rainbows_2 : decode cX9_rainbows 2 = .ok (.iconst 0, 1) := by decide +kernel
theorem dX9_rainbows_3 : decode cX9_rainbows 3 = .ok (.istore_n 3, 1) := by decide +kernel
theorem dX9_rainbows_4 : decode cX9_rainbows 4 = .ok (.iload_n 3, 1) := by decide +kernel
theorem dX9_rainbows_5 : decode cX9_rainbows 5 = .ok (.aload_n 0, 1) := by decide +kernel
theorem dX9_rainbows_6 : decode cX9_rainbows 6 = .ok (.getfield 25, 3) := by decide +kernel
theorem dX9_rainbows_9 : decode cX9_rainbows 9 = .ok (.if_icmp .ge 36, 3) := by decide +kernel
theorem dX9_rainbows_12 : decode cX9_rainbows 12 = .ok (.aload_n 0, 1) := by decide +kernel
theorem dX9_rainbows_13 : decode cX9_rainbows 13 = .ok (.iload_n 1, 1) := by decide +kernel
theorem dX9_rainbows_14 : decode cX9_rainbows 14 = .ok (.iload_n 3, 1) := by decide +kernel
theorem dX9_rainbows_15 : decode cX9_rainbows 15 = .ok (.invokevirtual 49, 3) := by decide +kernel
theorem dX9_rainbows_18 : decode cX9_rainbows 18 = .ok (.ifCond .eq 21, 3) := by decide +kernel
theorem dX9_rainbows_21 : decode cX9_rainbows 21 = .ok (.aload_n 0, 1) := by decide +kernel
theorem dX9_rainbows_22 : decode cX9_rainbows 22 = .ok (.getfield 17, 3) := by decide +kernel
theorem dX9_rainbows_25 : decode cX9_rainbows 25 = .ok (.iload_n 3, 1) := by decide +kernel
theorem dX9_rainbows_26 : decode cX9_rainbows 26 = .ok (.aaload, 1) := by decide +kernel
theorem dX9_rainbows_27 : decode cX9_rainbows 27 = .ok (.invokevirtual 71, 3) := by decide +kernel
theorem dX9_rainbows_30 : decode cX9_rainbows 30 = .ok (.ifCond .eq 9, 3) := by decide +kernel
theorem dX9_rainbows_33 : decode cX9_rainbows 33 = .ok (.iload_n 2, 1) := by decide +kernel
theorem dX9_rainbows_34 : decode cX9_rainbows 34 = .ok (.iconst 1, 1) := by decide +kernel
theorem dX9_rainbows_35 : decode cX9_rainbows 35 = .ok (.iload_n 3, 1) := by decide +kernel
theorem dX9_rainbows_36 : decode cX9_rainbows 36 = .ok (.ishl, 1) := by decide +kernel
theorem dX9_rainbows_37 : decode cX9_rainbows 37 = .ok (.ior, 1) := by decide +kernel
theorem dX9_rainbows_38 : decode cX9_rainbows 38 = .ok (.istore_n 2, 1) := by decide +kernel
theorem dX9_rainbows_39 : decode cX9_rainbows 39 = .ok (.iinc 3 1, 3) := by decide +kernel
theorem dX9_rainbows_42 : decode cX9_rainbows 42 = .ok (.goto (-38), 3) := by decide +kernel
theorem dX9_rainbows_45 : decode cX9_rainbows 45 = .ok (.iload_n 2, 1) := by decide +kernel
theorem dX9_rainbows_46 : decode cX9_rainbows 46 = .ok (.ireturn, 1) := by decide +kernel
theorem dX9_areAlike_0 : decode cX9_areAlike 0 = .ok (.aconst_null, 1) := by decide +kernel
theorem dX9_areAlike_1 : decode cX9_areAlike 1 = .ok (.astore_n 2, 1) := by decide +kernel
theorem dX9_areAlike_2 : decode cX9_areAlike 2 = .ok (.iconst 0, 1) := by decide +kernel
theorem dX9_areAlike_3 : decode cX9_areAlike 3 = .ok (.istore_n 3, 1) := by decide +kernel
theorem dX9_areAlike_4 : decode cX9_areAlike 4 = .ok (.iload_n 3, 1) := by decide +kernel
theorem dX9_areAlike_5 : decode cX9_areAlike 5 = .ok (.aload_n 0, 1) := by decide +kernel
theorem dX9_areAlike_6 : decode cX9_areAlike 6 = .ok (.getfield 25, 3) := by decide +kernel
theorem dX9_areAlike_9 : decode cX9_areAlike 9 = .ok (.if_icmp .ge 50, 3) := by decide +kernel
theorem dX9_areAlike_12 : decode cX9_areAlike 12 = .ok (.aload_n 0, 1) := by decide +kernel
theorem dX9_areAlike_13 : decode cX9_areAlike 13 = .ok (.iload_n 1, 1) := by decide +kernel
theorem dX9_areAlike_14 : decode cX9_areAlike 14 = .ok (.iload_n 3, 1) := by decide +kernel
theorem dX9_areAlike_15 : decode cX9_areAlike 15 = .ok (.invokevirtual 49, 3) := by decide +kernel
theorem dX9_areAlike_18 : decode cX9_areAlike 18 = .ok (.ifCond .eq 35, 3) := by decide +kernel
theorem dX9_areAlike_21 : decode cX9_areAlike 21 = .ok (.aload_n 2, 1) := by decide +kernel
theorem dX9_areAlike_22 : decode cX9_areAlike 22 = .ok (.ifnull 21, 3) := by decide +kernel
theorem dX9_areAlike_25 : decode cX9_areAlike 25 = .ok (.aload_n 2, 1) := by decide +kernel
theorem dX9_areAlike_26 : decode cX9_areAlike 26 = .ok (.aload_n 0, 1) := by decide +kernel
theorem dX9_areAlike_27 : decode cX9_areAlike 27 = .ok (.getfield 17, 3) := by decide +kernel
theorem dX9_areAlike_30 : decode cX9_areAlike 30 = .ok (.iload_n 3, 1) := by decide +kernel
theorem dX9_areAlike_31 : decode cX9_areAlike 31 = .ok (.aaload, 1) := by decide +kernel
theorem dX9_areAlike_32 : decode cX9_areAlike 32 = .ok (.getfield 53, 3) := by decide +kernel
theorem dX9_areAlike_35 : decode cX9_areAlike 35 = .ok (.invokevirtual 75, 3) := by decide +kernel
theorem dX9_areAlike_38 : decode cX9_areAlike 38 = .ok (.ifCond .ne 5, 3) := by decide +kernel
theorem dX9_areAlike_41 : decode cX9_areAlike 41 = .ok (.iconst 0, 1) := by decide +kernel
theorem dX9_areAlike_42 : decode cX9_areAlike 42 = .ok (.ireturn, 1) := by decide +kernel
theorem dX9_areAlike_43 : decode cX9_areAlike 43 = .ok (.aload_n 0, 1) := by decide +kernel
theorem dX9_areAlike_44 : decode cX9_areAlike 44 = .ok (.getfield 17, 3) := by decide +kernel
theorem dX9_areAlike_47 : decode cX9_areAlike 47 = .ok (.iload_n 3, 1) := by decide +kernel
theorem dX9_areAlike_48 : decode cX9_areAlike 48 = .ok (.aaload, 1) := by decide +kernel
theorem dX9_areAlike_49 : decode cX9_areAlike 49 = .ok (.getfield 53, 3) := by decide +kernel
theorem dX9_areAlike_52 : decode cX9_areAlike 52 = .ok (.astore_n 2, 1) := by decide +kernel
theorem dX9_areAlike_53 : decode cX9_areAlike 53 = .ok (.iinc 3 1, 3) := by decide +kernel
theorem dX9_areAlike_56 : decode cX9_areAlike 56 = .ok (.goto (-52), 3) := by decide +kernel
theorem dX9_areAlike_59 : decode cX9_areAlike 59 = .ok (.iconst 1, 1) := by decide +kernel
theorem dX9_areAlike_60 : decode cX9_areAlike 60 = .ok (.ireturn, 1) := by decide +kernel
theorem dX9_floatSum_0 : decode cX9_floatSum 0 = .ok (.fconst 0, 1) := by decide +kernel
theorem dX9_floatSum_1 : decode cX9_floatSum 1 = .ok (.fstore_n 2, 1) := by decide +kernel
theorem dX9_floatSum_2 : decode cX9_floatSum 2 = .ok (.iconst 0, 1) := by decide +kernel
theorem dX9_floatSum_3 : decode cX9_floatSum 3 = .ok (.istore_n 3, 1) := by decide +kernel
theorem dX9_floatSum_4 : decode cX9_floatSum 4 = .ok (.iload_n 3, 1) := by decide +kernel
theorem dX9_floatSum_5 : decode cX9_floatSum 5 = .ok (.aload_n 0, 1) := by decide +kernel
theorem dX9_floatSum_6 : decode cX9_floatSum 6 = .ok (.getfield 25, 3) := by decide +kernel
theorem dX9_floatSum_9 : decode cX9_floatSum 9 = .ok (.if_icmp .ge 33, 3) := by decide +kernel
theorem dX9_floatSum_12 : decode cX9_floatSum 12 = .ok (.aload_n 0, 1) := by decide +kernel
theorem dX9_floatSum_13 : decode cX9_floatSum 13 = .ok (.iload_n 1, 1) := by decide +kernel
theorem dX9_floatSum_14 : decode cX9_floatSum 14 = .ok (.iload_n 3, 1) := by decide +kernel
theorem dX9_floatSum_15 : decode cX9_floatSum 15 = .ok (.invokevirtual 49, 3) := by decide +kernel
theorem dX9_floatSum_18 : decode cX9_floatSum 18 = .ok (.ifCond .eq 18, 3) := by decide +kernel
theorem dX9_floatSum_21 : decode cX9_floatSum 21 = .ok (.fload_n 2, 1) := by decide +kernel
theorem dX9_floatSum_22 : decode cX9_floatSum 22 = .ok (.aload_n 0, 1) := by decide +kernel
theorem dX9_floatSum_23 : decode cX9_floatSum 23 = .ok (.getfield 17, 3) := by decide +kernel
theorem dX9_floatSum_26 : decode cX9_floatSum 26 = .ok (.iload_n 3, 1) := by decide +kernel
theorem dX9_floatSum_27 : decode cX9_floatSum 27 = .ok (.aaload, 1) := by decide +kernel
theorem dX9_floatSum_28 : decode cX9_floatSum 28 = .ok (.getfield 53, 3) := by decide +kernel
theorem dX9_floatSum_31 : decode cX9_floatSum 31 = .ok (.invokevirtual 79, 3) := by decide +kernel
theorem dX9_floatSum_34 : decode cX9_floatSum 34 = .ok (.fadd, 1) := by decide +kernel
theorem dX9_floatSum_35 : decode cX9_floatSum 35 = .ok (.fstore_n 2, 1) := by decide +kernel
theorem dX9_floatSum_36 : decode cX9_floatSum 36 = .ok (.iinc 3 1, 3) := by decide +kernel
theorem dX9_floatSum_39 : decode cX9_floatSum 39 = .ok (.goto (-35), 3) := by decide +kernel
theorem dX9_floatSum_42 : decode cX9_floatSum 42 = .ok (.fload_n 2, 1) := by decide +kernel
theorem dX9_floatSum_43 : decode cX9_floatSum 43 = .ok (.freturn, 1) := by decide +kernel
theorem dX9_doubleSum_0 : decode cX9_doubleSum 0 = .ok (.dconst 0, 1) := by decide +kernel
theorem dX9_doubleSum_1 : decode cX9_doubleSum 1 = .ok (.dstore_n 2, 1) := by decide +kernel
theorem dX9_doubleSum_2 : decode cX9_doubleSum 2 = .ok (.iconst 0, 1) := by decide +kernel
theorem dX9_doubleSum_3 : decode cX9_doubleSum 3 = .ok (.istore 4, 2) := by decide +kernel
theorem dX9_doubleSum_5 : decode cX9_doubleSum 5 = .ok (.iload 4, 2) := by decide +kernel
theorem dX9_doubleSum_7 : decode cX9_doubleSum 7 = .ok (.aload_n 0, 1) := by decide +kernel
theorem dX9_doubleSum_8 : decode cX9_doubleSum 8 = .ok (.getfield 25, 3) := by decide +kernel
theorem dX9_doubleSum_11 : decode cX9_doubleSum 11 = .ok (.if_icmp .ge 35, 3) := by decide +kernel
theorem dX9_doubleSum_14 : decode cX9_doubleSum 14 = .ok (.aload_n 0, 1) := by decide +kernel
theorem dX9_doubleSum_15 : decode cX9_doubleSum 15 = .ok (.iload_n 1, 1) := by decide +kernel
theorem dX9_doubleSum_16 : decode cX9_doubleSum 16 = .ok (.iload 4, 2) := by decide +kernel
theorem dX9_doubleSum_18 : decode cX9_doubleSum 18 = .ok (.invokevirtual 49, 3) := by decide +kernel
theorem dX9_doubleSum_21 : decode cX9_doubleSum 21 = .ok (.ifCond .eq 19, 3) := by decide +kernel
theorem dX9_doubleSum_24 : decode cX9_doubleSum 24 = .ok (.dload_n 2, 1) := by decide +kernel
theorem dX9_doubleSum_25 : decode cX9_doubleSum 25 = .ok (.aload_n 0, 1) := by decide +kernel
theorem dX9_doubleSum_26 : decode cX9_doubleSum 26 = .ok (.getfield 17, 3) := by decide +kernel
theorem dX9_doubleSum_29 : decode cX9_doubleSum 29 = .ok (.iload 4, 2) := by decide +kernel
theorem dX9_doubleSum_31 : decode cX9_doubleSum 31 = .ok (.aaload, 1) := by decide +kernel
theorem dX9_doubleSum_32 : decode cX9_doubleSum 32 = .ok (.getfield 53, 3) := by decide +kernel
theorem dX9_doubleSum_35 : decode cX9_doubleSum 35 = .ok (.invokevirtual 83, 3) := by decide +kernel
theorem dX9_doubleSum_38 : decode cX9_doubleSum 38 = .ok (.dadd, 1) := by decide +kernel
theorem dX9_doubleSum_39 : decode cX9_doubleSum 39 = .ok (.dstore_n 2, 1) := by decide +kernel
theorem dX9_doubleSum_40 : decode cX9_doubleSum 40 = .ok (.iinc 4 1, 3) := by decide +kernel
theorem dX9_doubleSum_43 : decode cX9_doubleSum 43 = .ok (.goto (-38), 3) := by decide +kernel
theorem dX9_doubleSum_46 : decode cX9_doubleSum 46 = .ok (.dload_n 2, 1) := by decide +kernel
theorem dX9_doubleSum_47 : decode cX9_doubleSum 47 = .ok (.dreturn, 1) := by decide +kernel
theorem dX10_init_0 : decode cX10_init 0 = .ok (.aload_n 0, 1) := by decide +kernel
theorem dX10_init_1 : decode cX10_init 1 = .ok (.invokespecial 1, 3) := by decide +kernel
theorem dX10_init_4 : decode cX10_init 4 = .ok (.aload_n 0, 1) := by decide +kernel
theorem dX10_init_5 : decode cX10_init 5 = .ok (.iload_n 1, 1) := by decide +kernel
theorem dX10_init_6 : decode cX10_init 6 = .ok (.putfield 7, 3) := by decide +kernel
theorem dX10_init_9 : decode cX10_init 9 = .ok (.aload_n 0, 1) := by decide +kernel
theorem dX10_init_10 : decode cX10_init 10 = .ok (.iload_n 2, 1) := by decide +kernel
theorem dX10_init_11 : decode cX10_init 11 = .ok (.putfield 13, 3) := by decide +kernel
theorem dX10_init_14 : decode cX10_init 14 = .ok (.aload_n 0, 1) := by decide +kernel
theorem dX10_init_15 : decode cX10_init 15 = .ok (.iload_n 3, 1) := by decide +kernel
theorem dX10_init_16 : decode cX10_init 16 = .ok (.putfield 16, 3) := by decide +kernel
theorem dX10_init_19 : decode cX10_init 19 = .ok (.aload_n 0, 1) := by decide +kernel
theorem dX10_init_20 : decode cX10_init 20 = .ok (.iload 4, 2) := by decide +kernel
theorem dX10_init_22 : decode cX10_init 22 = .ok (.putfield 19, 3) := by decide +kernel
theorem dX10_init_25 : decode cX10_init 25 = .ok (.aload_n 0, 1) := by decide +kernel
theorem dX10_init_26 : decode cX10_init 26 = .ok (.iload 5, 2) := by decide +kernel
theorem dX10_init_28 : decode cX10_init 28 = .ok (.putfield 22, 3) := by decide +kernel
theorem dX10_init_31 : decode cX10_init 31 = .ok (.aload_n 0, 1) := by decide +kernel
theorem dX10_init_32 : decode cX10_init 32 = .ok (.aload 6, 2) := by decide +kernel
theorem dX10_init_34 : decode cX10_init 34 = .ok (.putfield 25, 3) := by decide +kernel
theorem dX10_init_37 : decode cX10_init 37 = .ok (.return_, 1) := by decide +kernel
theorem dX10_lyingOn_0 : decode cX10_lyingOn 0 = .ok (.aload_n 0, 1) := by decide +kernel
theorem dX10_lyingOn_1 : decode cX10_lyingOn 1 = .ok (.iload_n 2, 1) := by decide +kernel
theorem dX10_lyingOn_2 : decode cX10_lyingOn 2 = .ok (.aaload, 1) := by decide +kernel
theorem dX10_lyingOn_3 : decode cX10_lyingOn 3 = .ok (.astore 5, 2) := by decide +kernel
theorem dX10_lyingOn_5 : decode cX10_lyingOn 5 = .ok (.aload_n 0, 1) := by decide +kernel
theorem dX10_lyingOn_6 : decode cX10_lyingOn 6 = .ok (.iload_n 3, 1) := by decide +kernel
theorem dX10_lyingOn_7 : decode cX10_lyingOn 7 = .ok (.aaload, 1) := by decide +kernel
theorem dX10_lyingOn_8 : decode cX10_lyingOn 8 = .ok (.astore 6, 2) := by decide +kernel
theorem dX10_lyingOn_10 : decode cX10_lyingOn 10 = .ok (.aload_n 0, 1) := by decide +kernel
theorem dX10_lyingOn_11 : decode cX10_lyingOn 11 = .ok (.iload 4, 2) := by decide +kernel
theorem dX10_lyingOn_13 : decode cX10_lyingOn 13 = .ok (.aaload, 1) := by decide +kernel
theorem dX10_lyingOn_14 : decode cX10_lyingOn 14 = .ok (.astore 7, 2) := by decide +kernel
theorem dX10_lyingOn_16 : decode cX10_lyingOn 16 = .ok (.iload_n 1, 1) := by decide +kernel
theorem dX10_lyingOn_17 : decode cX10_lyingOn 17 = .ok (.iconst 3, 1) := by decide +kernel
theorem dX10_lyingOn_18 : decode cX10_lyingOn 18 = .ok (.invokestatic 29, 3) := by decide +kernel
theorem dX10_lyingOn_21 : decode cX10_lyingOn 21 = .ok (.istore 8, 2) := by decide +kernel
theorem dX10_lyingOn_23 : decode cX10_lyingOn 23 = .ok (.iconst 1, 1) := by decide +kernel
theorem dX10_lyingOn_24 : decode cX10_lyingOn 24 = .ok (.aload 5, 2) := by decide +kernel
theorem dX10_lyingOn_26 : decode cX10_lyingOn 26 = .ok (.iload 8, 2) := by decide +kernel
theorem dX10_lyingOn_28 : decode cX10_lyingOn 28 = .ok (.invokevirtual 33, 3) := by decide +kernel
theorem dX10_lyingOn_31 : decode cX10_lyingOn 31 = .ok (.ishl, 1) := by decide +kernel
theorem dX10_lyingOn_32 : decode cX10_lyingOn 32 = .ok (.iconst 1, 1) := by decide +kernel
theorem dX10_lyingOn_33 : decode cX10_lyingOn 33 = .ok (.aload 6, 2) := by decide +kernel
theorem dX10_lyingOn_35 : decode cX10_lyingOn 35 = .ok (.iload 8, 2) := by decide +kernel
theorem dX10_lyingOn_37 : decode cX10_lyingOn 37 = .ok (.invokevirtual 33, 3) := by decide +kernel
theorem dX10_lyingOn_40 : decode cX10_lyingOn 40 = .ok (.ishl, 1) := by decide +kernel
theorem dX10_lyingOn_41 : decode cX10_lyingOn 41 = .ok (.ior, 1) := by decide +kernel
theorem dX10_lyingOn_42 : decode cX10_lyingOn 42 = .ok (.iconst 1, 1) := by decide +kernel
theorem dX10_lyingOn_43 : decode cX10_lyingOn 43 = .ok (.aload 7, 2) := by decide +kernel
theorem dX10_lyingOn_45 : decode cX10_lyingOn 45 = .ok (.iload 8, 2) := by decide +kernel
theorem dX10_lyingOn_47 : decode cX10_lyingOn 47 = .ok (.invokevirtual 33, 3) := by decide +kernel
theorem dX10_lyingOn_50 : decode cX10_lyingOn 50 = .ok (.ishl, 1) := by decide +kernel
theorem dX10_lyingOn_51 : decode cX10_lyingOn 51 = .ok (.ior, 1) := by decide +kernel
theorem dX10_lyingOn_52 : decode cX10_lyingOn 52 = .ok (.istore 9, 2) := by decide +kernel
theorem dX10_lyingOn_54 : decode cX10_lyingOn 54 = .ok (.aload 6, 2) := by decide +kernel
theorem dX10_lyingOn_56 : decode cX10_lyingOn 56 = .ok (.getfield 39, 3) := by decide +kernel
theorem dX10_lyingOn_59 : decode cX10_lyingOn 59 = .ok (.aload 5, 2) := by decide +kernel
theorem dX10_lyingOn_61 : decode cX10_lyingOn 61 = .ok (.getfield 39, 3) := by decide +kernel
theorem dX10_lyingOn_64 : decode cX10_lyingOn 64 = .ok (.invokevirtual 42, 3) := by decide +kernel
theorem dX10_lyingOn_67 : decode cX10_lyingOn 67 = .ok (.aload 7, 2) := by decide +kernel
theorem dX10_lyingOn_69 : decode cX10_lyingOn 69 = .ok (.getfield 48, 3) := by decide +kernel
theorem dX10_lyingOn_72 : decode cX10_lyingOn 72 = .ok (.aload 5, 2) := by decide +kernel
theorem dX10_lyingOn_74 : decode cX10_lyingOn 74 = .ok (.getfield 48, 3) := by decide +kernel
theorem dX10_lyingOn_77 : decode cX10_lyingOn 77 = .ok (.invokevirtual 42, 3) := by decide +kernel
theorem dX10_lyingOn_80 : decode cX10_lyingOn 80 = .ok (.invokevirtual 51, 3) := by decide +kernel
theorem dX10_lyingOn_83 : decode cX10_lyingOn 83 = .ok (.astore 10, 2) := by decide +kernel
theorem dX10_lyingOn_85 : decode cX10_lyingOn 85 = .ok (.aload 7, 2) := by decide +kernel
theorem dX10_lyingOn_87 : decode cX10_lyingOn 87 = .ok (.getfield 39, 3) := by decide +kernel
theorem dX10_lyingOn_90 : decode cX10_lyingOn 90 = .ok (.aload 5, 2) := by decide +kernel
theorem dX10_lyingOn_92 : decode cX10_lyingOn 92 = .ok (.getfield 39, 3) := by decide +kernel
theorem dX10_lyingOn_95 : decode cX10_lyingOn 95 = .ok (.invokevirtual 42, 3) := by decide +kernel
theorem dX10_lyingOn_98 : decode cX10_lyingOn 98 = .ok (.aload 6, 2) := by decide +kernel
theorem dX10_lyingOn_100 : decode cX10_lyingOn 100 = .ok (.getfield 48, 3) := by decide +kernel
theorem dX10_lyingOn_103 : decode cX10_lyingOn 103 = .ok (.aload 5, 2) := by decide +kernel
theorem dX10_lyingOn_105 : decode cX10_lyingOn 105 = .ok (.getfield 48, 3) := by decide +kernel
theorem dX10_lyingOn_108 : decode cX10_lyingOn 108 = .ok (.invokevirtual 42, 3) := by decide +kernel
theorem dX10_lyingOn_111 : decode cX10_lyingOn 111 = .ok (.invokevirtual 51, 3) := by decide +kernel
theorem dX10_lyingOn_114 : decode cX10_lyingOn 114 = .ok (.astore 11, 2) := by decide +kernel
theorem dX10_lyingOn_116 : decode cX10_lyingOn 116 = .ok (.aload 10, 2) := by decide +kernel
theorem dX10_lyingOn_118 : decode cX10_lyingOn 118 = .ok (.aload 11, 2) := by decide +kernel
theorem dX10_lyingOn_120 : decode cX10_lyingOn 120 = .ok (.invokevirtual 42, 3) := by decide +kernel
theorem dX10_lyingOn_123 : decode cX10_lyingOn 123 = .ok (.astore 12, 2) := by decide +kernel
theorem dX10_lyingOn_125 : decode cX10_lyingOn 125 = .ok (.aload 12, 2) := by decide +kernel
theorem dX10_lyingOn_127 : decode cX10_lyingOn 127 = .ok (.getfield 54, 3) := by decide +kernel
theorem dX10_lyingOn_130 : decode cX10_lyingOn 130 = .ok (.invokestatic 58, 3) := by decide +kernel
theorem dX10_lyingOn_133 : decode cX10_lyingOn 133 = .ok (.getstatic 64, 3) := by decide +kernel
theorem dX10_lyingOn_136 : decode cX10_lyingOn 136 = .ok (.iload_n 1, 1) := by decide +kernel
theorem dX10_lyingOn_137 : decode cX10_lyingOn 137 = .ok (.iaload, 1) := by decide +kernel
theorem dX10_lyingOn_138 : decode cX10_lyingOn 138 = .ok (.i2l, 1) := by decide +kernel
theorem dX10_lyingOn_139 : decode cX10_lyingOn 139 = .ok (.lmul, 1) := by decide +kernel
theorem dX10_lyingOn_140 : decode cX10_lyingOn 140 = .ok (.aload 12, 2) := by decide +kernel
theorem dX10_lyingOn_142 : decode cX10_lyingOn 142 = .ok (.getfield 68, 3) := by decide +kernel
theorem dX10_lyingOn_145 : decode cX10_lyingOn 145 = .ok (.ldc2_w 71, 3) := by decide +kernel
theorem dX10_lyingOn_148 : decode cX10_lyingOn 148 = .ok (.lmul, 1) := by decide +kernel
theorem dX10_lyingOn_149 : decode cX10_lyingOn 149 = .ok (.getstatic 73, 3) := by decide +kernel
theorem dX10_lyingOn_152 : decode cX10_lyingOn 152 = .ok (.iload_n 1, 1) := by decide +kernel
theorem dX10_lyingOn_153 : decode cX10_lyingOn 153 = .ok (.iaload, 1) := by decide +kernel
theorem dX10_lyingOn_154 : decode cX10_lyingOn 154 = .ok (.i2l, 1) := by decide +kernel
theorem dX10_lyingOn_155 : decode cX10_lyingOn 155 = .ok (.lmul, 1) := by decide +kernel
theorem dX10_lyingOn_156 : decode cX10_lyingOn 156 = .ok (.invokestatic 76, 3) := by decide +kernel
theorem dX10_lyingOn_159 : decode cX10_lyingOn 159 = .ok (.astore 13, 2) := by decide +kernel
theorem dX10_lyingOn_161 : decode cX10_lyingOn 161 = .ok (.new 8, 3) := by decide +kernel
theorem dX10_lyingOn_164 : decode cX10_lyingOn 164 = .ok (.dup, 1) := by decide +kernel
theorem dX10_lyingOn_165 : decode cX10_lyingOn 165 = .ok (.iload_n 1, 1) := by decide +kernel
theorem dX10_lyingOn_166 : decode cX10_lyingOn 166 = .ok (.iload_n 2, 1) := by decide +kernel
theorem dX10_lyingOn_167 : decode cX10_lyingOn 167 = .ok (.iload_n 3, 1) := by decide +kernel
theorem dX10_lyingOn_168 : decode cX10_lyingOn 168 = .ok (.iload 4, 2) := by decide +kernel
theorem dX10_lyingOn_170 : decode cX10_lyingOn 170 = .ok (.iload 9, 2) := by decide +kernel
theorem dX10_lyingOn_172 : decode cX10_lyingOn 172 = .ok (.aload 13, 2) := by decide +kernel
theorem dX10_lyingOn_174 : decode cX10_lyingOn 174 = .ok (.invokespecial 80, 3) := by decide +kernel
theorem dX10_lyingOn_177 : decode cX10_lyingOn 177 = .ok (.areturn, 1) := by decide +kernel
theorem dX10_isKind_0 : decode cX10_isKind 0 = .ok (.iload_n 0, 1) := by decide +kernel
theorem dX10_isKind_1 : decode cX10_isKind 1 = .ok (.ifCond .lt 13, 3) := by decide +kernel
theorem dX10_isKind_4 : decode cX10_isKind 4 = .ok (.iload_n 0, 1) := by decide +kernel
theorem dX10_isKind_5 : decode cX10_isKind 5 = .ok (.bipush 6, 2) := by decide +kernel
theorem dX10_isKind_7 : decode cX10_isKind 7 = .ok (.if_icmp .ge 7, 3) := by decide +kernel
theorem dX10_isKind_10 : decode cX10_isKind 10 = .ok (.iconst 1, 1) := by decide +kernel
theorem dX10_isKind_11 : decode cX10_isKind 11 = .ok (.goto 4, 3) := by decide +kernel
theorem dX10_isKind_14 : decode cX10_isKind 14 = .ok (.iconst 0, 1) := by decide +kernel
theorem dX10_isKind_15 : decode cX10_isKind 15 = .ok (.ireturn, 1) := by decide +kernel
theorem dX10_isUnder_0 : decode cX10_isUnder 0 = .ok (.iload_n 0, 1) := by decide +kernel
theorem dX10_isUnder_1 : decode cX10_isUnder 1 = .ok (.istore_n 2, 1) := by decide +kernel
theorem dX10_isUnder_2 : decode cX10_isUnder 2 = .ok (.iconst 0, 1) := by decide +kernel
theorem dX10_isUnder_3 : decode cX10_isUnder 3 = .ok (.istore_n 3, 1) := by decide +kernel
theorem dX10_isUnder_4 : decode cX10_isUnder 4 = .ok (.iload_n 3, 1) := by decide +kernel
theorem dX10_isUnder_5 : decode cX10_isUnder 5 = .ok (.bipush 6, 2) := by decide +kernel
theorem dX10_isUnder_7 : decode cX10_isUnder 7 = .ok (.if_icmp .ge 29, 3) := by decide +kernel
theorem dX10_isUnder_10 : decode cX10_isUnder 10 = .ok (.iload_n 2, 1) := by decide +kernel
theorem dX10_isUnder_11 : decode cX10_isUnder 11 = .ok (.invokestatic 83, 3) := by decide +kernel
theorem dX10_isUnder_14 : decode cX10_isUnder 14 = .ok (.ifCond .eq 22, 3) := by decide +kernel
theorem dX10_isUnder_17 : decode cX10_isUnder 17 = .ok (.iload_n 2, 1) := by decide +kernel
theorem dX10_isUnder_18 : decode cX10_isUnder 18 = .ok (.iload_n 1, 1) := by decide +kernel
theorem dX10_isUnder_19 : decode cX10_isUnder 19 = .ok (.if_icmp .ne 5, 3) := by decide +kernel
theorem dX10_isUnder_22 : decode cX10_isUnder 22 = .ok (.iconst 1, 1) := by decide +kernel
theorem dX10_isUnder_23 : decode cX10_isUnder 23 = .ok (.ireturn, 1) := by decide +kernel
theorem dX10_isUnder_24 : decode cX10_isUnder 24 = .ok (.getstatic 87, 3) := by decide +kernel
theorem dX10_isUnder_27 : decode cX10_isUnder 27 = .ok (.iload_n 2, 1) := by decide +kernel
theorem dX10_isUnder_28 : decode cX10_isUnder 28 = .ok (.iaload, 1) := by decide +kernel
theorem dX10_isUnder_29 : decode cX10_isUnder 29 = .ok (.istore_n 2, 1) := by decide +kernel
theorem dX10_isUnder_30 : decode cX10_isUnder 30 = .ok (.iinc 3 1, 3) := by decide +kernel
theorem dX10_isUnder_33 : decode cX10_isUnder 33 = .ok (.goto (-29), 3) := by decide +kernel
theorem dX10_isUnder_36 : decode cX10_isUnder 36 = .ok (.iconst 0, 1) := by decide +kernel
theorem dX10_isUnder_37 : decode cX10_isUnder 37 = .ok (.ireturn, 1) := by decide +kernel
theorem dX10_isRainbow_0 : decode cX10_isRainbow 0 = .ok (.aload_n 0, 1) := by decide +kernel
theorem dX10_isRainbow_1 : decode cX10_isRainbow 1 = .ok (.getfield 22, 3) := by decide +kernel
theorem dX10_isRainbow_4 : decode cX10_isRainbow 4 = .ok (.bipush 7, 2) := by decide +kernel
theorem dX10_isRainbow_6 : decode cX10_isRainbow 6 = .ok (.if_icmp .ne 7, 3) := by decide +kernel
theorem dX10_isRainbow_9 : decode cX10_isRainbow 9 = .ok (.iconst 1, 1) := by decide +kernel
theorem dX10_isRainbow_10 : decode cX10_isRainbow 10 = .ok (.goto 4, 3) := by decide +kernel
theorem dX10_isRainbow_13 : decode cX10_isRainbow 13 = .ok (.iconst 0, 1) := by decide +kernel
theorem dX10_isRainbow_14 : decode cX10_isRainbow 14 = .ok (.ireturn, 1) := by decide +kernel
theorem dJxe99ae_isNaN_b9ae7_0 : decode cJxe99ae_isNaN_b9ae7 0 = .ok (.dload_n 0, 1) := by decide +kernel
theorem dJxe99ae_isNaN_b9ae7_1 : decode cJxe99ae_isNaN_b9ae7 1 = .ok (.dload_n 0, 1) := by decide +kernel
theorem dJxe99ae_isNaN_b9ae7_2 : decode cJxe99ae_isNaN_b9ae7 2 = .ok (.dcmp .l, 1) := by decide +kernel
theorem dJxe99ae_isNaN_b9ae7_3 : decode cJxe99ae_isNaN_b9ae7 3 = .ok (.ifCond .eq 7, 3) := by decide +kernel
theorem dJxe99ae_isNaN_b9ae7_6 : decode cJxe99ae_isNaN_b9ae7 6 = .ok (.iconst 1, 1) := by decide +kernel
theorem dJxe99ae_isNaN_b9ae7_7 : decode cJxe99ae_isNaN_b9ae7 7 = .ok (.goto 4, 3) := by decide +kernel
theorem dJxe99ae_isNaN_b9ae7_10 : decode cJxe99ae_isNaN_b9ae7 10 = .ok (.iconst 0, 1) := by decide +kernel
theorem dJxe99ae_isNaN_b9ae7_11 : decode cJxe99ae_isNaN_b9ae7 11 = .ok (.ireturn, 1) := by decide +kernel
theorem dJxe99ae_doubleToLongBits_ccdee_0 : decode cJxe99ae_doubleToLongBits_ccdee 0 = .ok (.dload_n 0, 1) := by decide +kernel
theorem dJxe99ae_doubleToLongBits_ccdee_1 : decode cJxe99ae_doubleToLongBits_ccdee 1 = .ok (.invokestatic 122, 3) := by decide +kernel
theorem dJxe99ae_doubleToLongBits_ccdee_4 : decode cJxe99ae_doubleToLongBits_ccdee 4 = .ok (.ifCond .ne 8, 3) := by decide +kernel
theorem dJxe99ae_doubleToLongBits_ccdee_7 : decode cJxe99ae_doubleToLongBits_ccdee 7 = .ok (.dload_n 0, 1) := by decide +kernel
theorem dJxe99ae_doubleToLongBits_ccdee_8 : decode cJxe99ae_doubleToLongBits_ccdee 8 = .ok (.invokestatic 134, 3) := by decide +kernel
theorem dJxe99ae_doubleToLongBits_ccdee_11 : decode cJxe99ae_doubleToLongBits_ccdee 11 = .ok (.lreturn, 1) := by decide +kernel
theorem dJxe99ae_doubleToLongBits_ccdee_12 : decode cJxe99ae_doubleToLongBits_ccdee 12 = .ok (.ldc2_w 137, 3) := by decide +kernel
theorem dJxe99ae_doubleToLongBits_ccdee_15 : decode cJxe99ae_doubleToLongBits_ccdee 15 = .ok (.lreturn, 1) := by decide +kernel
theorem dJxf58ca_isNaN_12338_0 : decode cJxf58ca_isNaN_12338 0 = .ok (.fload_n 0, 1) := by decide +kernel
theorem dJxf58ca_isNaN_12338_1 : decode cJxf58ca_isNaN_12338 1 = .ok (.fload_n 0, 1) := by decide +kernel
theorem dJxf58ca_isNaN_12338_2 : decode cJxf58ca_isNaN_12338 2 = .ok (.fcmp .l, 1) := by decide +kernel
theorem dJxf58ca_isNaN_12338_3 : decode cJxf58ca_isNaN_12338 3 = .ok (.ifCond .eq 7, 3) := by decide +kernel
theorem dJxf58ca_isNaN_12338_6 : decode cJxf58ca_isNaN_12338 6 = .ok (.iconst 1, 1) := by decide +kernel
theorem dJxf58ca_isNaN_12338_7 : decode cJxf58ca_isNaN_12338 7 = .ok (.goto 4, 3) := by decide +kernel
theorem dJxf58ca_isNaN_12338_10 : decode cJxf58ca_isNaN_12338 10 = .ok (.iconst 0, 1) := by decide +kernel
theorem dJxf58ca_isNaN_12338_11 : decode cJxf58ca_isNaN_12338 11 = .ok (.ireturn, 1) := by decide +kernel
theorem dJxf58ca_floatToIntBits_5c35a_0 : decode cJxf58ca_floatToIntBits_5c35a 0 = .ok (.fload_n 0, 1) := by decide +kernel
theorem dJxf58ca_floatToIntBits_5c35a_1 : decode cJxf58ca_floatToIntBits_5c35a 1 = .ok (.invokestatic 59, 3) := by decide +kernel
theorem dJxf58ca_floatToIntBits_5c35a_4 : decode cJxf58ca_floatToIntBits_5c35a 4 = .ok (.ifCond .ne 8, 3) := by decide +kernel
theorem dJxf58ca_floatToIntBits_5c35a_7 : decode cJxf58ca_floatToIntBits_5c35a 7 = .ok (.fload_n 0, 1) := by decide +kernel
theorem dJxf58ca_floatToIntBits_5c35a_8 : decode cJxf58ca_floatToIntBits_5c35a 8 = .ok (.invokestatic 74, 3) := by decide +kernel
theorem dJxf58ca_floatToIntBits_5c35a_11 : decode cJxf58ca_floatToIntBits_5c35a 11 = .ok (.ireturn, 1) := by decide +kernel
theorem dJxf58ca_floatToIntBits_5c35a_12 : decode cJxf58ca_floatToIntBits_5c35a 12 = .ok (.ldc 77, 2) := by decide +kernel
theorem dJxf58ca_floatToIntBits_5c35a_14 : decode cJxf58ca_floatToIntBits_5c35a 14 = .ok (.ireturn, 1) := by decide +kernel
theorem dJ6_numberOfTrailingZeros_0f7a4_0 : decode cJ6_numberOfTrailingZeros_0f7a4 0 = .ok (.iload_n 0, 1) := by decide +kernel
theorem dJ6_numberOfTrailingZeros_0f7a4_1 : decode cJ6_numberOfTrailingZeros_0f7a4 1 = .ok (.iconst (-1), 1) := by decide +kernel
theorem dJ6_numberOfTrailingZeros_0f7a4_2 : decode cJ6_numberOfTrailingZeros_0f7a4 2 = .ok (.ixor, 1) := by decide +kernel
theorem dJ6_numberOfTrailingZeros_0f7a4_3 : decode cJ6_numberOfTrailingZeros_0f7a4 3 = .ok (.iload_n 0, 1) := by decide +kernel
theorem dJ6_numberOfTrailingZeros_0f7a4_4 : decode cJ6_numberOfTrailingZeros_0f7a4 4 = .ok (.iconst 1, 1) := by decide +kernel
theorem dJ6_numberOfTrailingZeros_0f7a4_5 : decode cJ6_numberOfTrailingZeros_0f7a4 5 = .ok (.isub, 1) := by decide +kernel
theorem dJ6_numberOfTrailingZeros_0f7a4_6 : decode cJ6_numberOfTrailingZeros_0f7a4 6 = .ok (.iand, 1) := by decide +kernel
theorem dJ6_numberOfTrailingZeros_0f7a4_7 : decode cJ6_numberOfTrailingZeros_0f7a4 7 = .ok (.istore_n 0, 1) := by decide +kernel
theorem dJ6_numberOfTrailingZeros_0f7a4_8 : decode cJ6_numberOfTrailingZeros_0f7a4 8 = .ok (.iload_n 0, 1) := by decide +kernel
theorem dJ6_numberOfTrailingZeros_0f7a4_9 : decode cJ6_numberOfTrailingZeros_0f7a4 9 = .ok (.ifCond .gt 8, 3) := by decide +kernel
theorem dJ6_numberOfTrailingZeros_0f7a4_12 : decode cJ6_numberOfTrailingZeros_0f7a4 12 = .ok (.iload_n 0, 1) := by decide +kernel
theorem dJ6_numberOfTrailingZeros_0f7a4_13 : decode cJ6_numberOfTrailingZeros_0f7a4 13 = .ok (.bipush 32, 2) := by decide +kernel
theorem dJ6_numberOfTrailingZeros_0f7a4_15 : decode cJ6_numberOfTrailingZeros_0f7a4 15 = .ok (.iand, 1) := by decide +kernel
theorem dJ6_numberOfTrailingZeros_0f7a4_16 : decode cJ6_numberOfTrailingZeros_0f7a4 16 = .ok (.ireturn, 1) := by decide +kernel
theorem dJ6_numberOfTrailingZeros_0f7a4_17 : decode cJ6_numberOfTrailingZeros_0f7a4 17 = .ok (.iconst 1, 1) := by decide +kernel
theorem dJ6_numberOfTrailingZeros_0f7a4_18 : decode cJ6_numberOfTrailingZeros_0f7a4 18 = .ok (.istore_n 1, 1) := by decide +kernel
theorem dJ6_numberOfTrailingZeros_0f7a4_19 : decode cJ6_numberOfTrailingZeros_0f7a4 19 = .ok (.iload_n 0, 1) := by decide +kernel
theorem dJ6_numberOfTrailingZeros_0f7a4_20 : decode cJ6_numberOfTrailingZeros_0f7a4 20 = .ok (.ldc_w 264, 3) := by decide +kernel
theorem dJ6_numberOfTrailingZeros_0f7a4_23 : decode cJ6_numberOfTrailingZeros_0f7a4 23 = .ok (.if_icmp .le 11, 3) := by decide +kernel
theorem dJ6_numberOfTrailingZeros_0f7a4_26 : decode cJ6_numberOfTrailingZeros_0f7a4 26 = .ok (.iinc 1 16, 3) := by decide +kernel
theorem dJ6_numberOfTrailingZeros_0f7a4_29 : decode cJ6_numberOfTrailingZeros_0f7a4 29 = .ok (.iload_n 0, 1) := by decide +kernel
theorem dJ6_numberOfTrailingZeros_0f7a4_30 : decode cJ6_numberOfTrailingZeros_0f7a4 30 = .ok (.bipush 16, 2) := by decide +kernel
theorem dJ6_numberOfTrailingZeros_0f7a4_32 : decode cJ6_numberOfTrailingZeros_0f7a4 32 = .ok (.iushr, 1) := by decide +kernel
theorem dJ6_numberOfTrailingZeros_0f7a4_33 : decode cJ6_numberOfTrailingZeros_0f7a4 33 = .ok (.istore_n 0, 1) := by decide +kernel
theorem dJ6_numberOfTrailingZeros_0f7a4_34 : decode cJ6_numberOfTrailingZeros_0f7a4 34 = .ok (.iload_n 0, 1) := by decide +kernel
theorem dJ6_numberOfTrailingZeros_0f7a4_35 : decode cJ6_numberOfTrailingZeros_0f7a4 35 = .ok (.sipush 256, 3) := by decide +kernel
theorem dJ6_numberOfTrailingZeros_0f7a4_38 : decode cJ6_numberOfTrailingZeros_0f7a4 38 = .ok (.if_icmp .le 11, 3) := by decide +kernel
theorem dJ6_numberOfTrailingZeros_0f7a4_41 : decode cJ6_numberOfTrailingZeros_0f7a4 41 = .ok (.iinc 1 8, 3) := by decide +kernel
theorem dJ6_numberOfTrailingZeros_0f7a4_44 : decode cJ6_numberOfTrailingZeros_0f7a4 44 = .ok (.iload_n 0, 1) := by decide +kernel
theorem dJ6_numberOfTrailingZeros_0f7a4_45 : decode cJ6_numberOfTrailingZeros_0f7a4 45 = .ok (.bipush 8, 2) := by decide +kernel
theorem dJ6_numberOfTrailingZeros_0f7a4_47 : decode cJ6_numberOfTrailingZeros_0f7a4 47 = .ok (.iushr, 1) := by decide +kernel
theorem dJ6_numberOfTrailingZeros_0f7a4_48 : decode cJ6_numberOfTrailingZeros_0f7a4 48 = .ok (.istore_n 0, 1) := by decide +kernel
theorem dJ6_numberOfTrailingZeros_0f7a4_49 : decode cJ6_numberOfTrailingZeros_0f7a4 49 = .ok (.iload_n 0, 1) := by decide +kernel
theorem dJ6_numberOfTrailingZeros_0f7a4_50 : decode cJ6_numberOfTrailingZeros_0f7a4 50 = .ok (.bipush 16, 2) := by decide +kernel
theorem dJ6_numberOfTrailingZeros_0f7a4_52 : decode cJ6_numberOfTrailingZeros_0f7a4 52 = .ok (.if_icmp .le 10, 3) := by decide +kernel
theorem dJ6_numberOfTrailingZeros_0f7a4_55 : decode cJ6_numberOfTrailingZeros_0f7a4 55 = .ok (.iinc 1 4, 3) := by decide +kernel
theorem dJ6_numberOfTrailingZeros_0f7a4_58 : decode cJ6_numberOfTrailingZeros_0f7a4 58 = .ok (.iload_n 0, 1) := by decide +kernel
theorem dJ6_numberOfTrailingZeros_0f7a4_59 : decode cJ6_numberOfTrailingZeros_0f7a4 59 = .ok (.iconst 4, 1) := by decide +kernel
theorem dJ6_numberOfTrailingZeros_0f7a4_60 : decode cJ6_numberOfTrailingZeros_0f7a4 60 = .ok (.iushr, 1) := by decide +kernel
theorem dJ6_numberOfTrailingZeros_0f7a4_61 : decode cJ6_numberOfTrailingZeros_0f7a4 61 = .ok (.istore_n 0, 1) := by decide +kernel
theorem dJ6_numberOfTrailingZeros_0f7a4_62 : decode cJ6_numberOfTrailingZeros_0f7a4 62 = .ok (.iload_n 0, 1) := by decide +kernel
theorem dJ6_numberOfTrailingZeros_0f7a4_63 : decode cJ6_numberOfTrailingZeros_0f7a4 63 = .ok (.iconst 4, 1) := by decide +kernel
theorem dJ6_numberOfTrailingZeros_0f7a4_64 : decode cJ6_numberOfTrailingZeros_0f7a4 64 = .ok (.if_icmp .le 10, 3) := by decide +kernel
theorem dJ6_numberOfTrailingZeros_0f7a4_67 : decode cJ6_numberOfTrailingZeros_0f7a4 67 = .ok (.iinc 1 2, 3) := by decide +kernel
theorem dJ6_numberOfTrailingZeros_0f7a4_70 : decode cJ6_numberOfTrailingZeros_0f7a4 70 = .ok (.iload_n 0, 1) := by decide +kernel
theorem dJ6_numberOfTrailingZeros_0f7a4_71 : decode cJ6_numberOfTrailingZeros_0f7a4 71 = .ok (.iconst 2, 1) := by decide +kernel
theorem dJ6_numberOfTrailingZeros_0f7a4_72 : decode cJ6_numberOfTrailingZeros_0f7a4 72 = .ok (.iushr, 1) := by decide +kernel
theorem dJ6_numberOfTrailingZeros_0f7a4_73 : decode cJ6_numberOfTrailingZeros_0f7a4 73 = .ok (.istore_n 0, 1) := by decide +kernel
theorem dJ6_numberOfTrailingZeros_0f7a4_74 : decode cJ6_numberOfTrailingZeros_0f7a4 74 = .ok (.iload_n 1, 1) := by decide +kernel
theorem dJ6_numberOfTrailingZeros_0f7a4_75 : decode cJ6_numberOfTrailingZeros_0f7a4 75 = .ok (.iload_n 0, 1) := by decide +kernel
theorem dJ6_numberOfTrailingZeros_0f7a4_76 : decode cJ6_numberOfTrailingZeros_0f7a4 76 = .ok (.iconst 1, 1) := by decide +kernel
theorem dJ6_numberOfTrailingZeros_0f7a4_77 : decode cJ6_numberOfTrailingZeros_0f7a4 77 = .ok (.iushr, 1) := by decide +kernel
theorem dJ6_numberOfTrailingZeros_0f7a4_78 : decode cJ6_numberOfTrailingZeros_0f7a4 78 = .ok (.iadd, 1) := by decide +kernel
theorem dJ6_numberOfTrailingZeros_0f7a4_79 : decode cJ6_numberOfTrailingZeros_0f7a4 79 = .ok (.ireturn, 1) := by decide +kernel
theorem dJ13_numberOfTrailingZeros_95d88_0 : decode cJ13_numberOfTrailingZeros_95d88 0 = .ok (.lload_n 0, 1) := by decide +kernel
theorem dJ13_numberOfTrailingZeros_95d88_1 : decode cJ13_numberOfTrailingZeros_95d88 1 = .ok (.l2i, 1) := by decide +kernel
theorem dJ13_numberOfTrailingZeros_95d88_2 : decode cJ13_numberOfTrailingZeros_95d88 2 = .ok (.istore_n 2, 1) := by decide +kernel
theorem dJ13_numberOfTrailingZeros_95d88_3 : decode cJ13_numberOfTrailingZeros_95d88 3 = .ok (.iload_n 2, 1) := by decide +kernel
theorem dJ13_numberOfTrailingZeros_95d88_4 : decode cJ13_numberOfTrailingZeros_95d88 4 = .ok (.ifCond .ne 17, 3) := by decide +kernel
theorem dJ13_numberOfTrailingZeros_95d88_7 : decode cJ13_numberOfTrailingZeros_95d88 7 = .ok (.bipush 32, 2) := by decide +kernel
theorem dJ13_numberOfTrailingZeros_95d88_9 : decode cJ13_numberOfTrailingZeros_95d88 9 = .ok (.lload_n 0, 1) := by decide +kernel
theorem dJ13_numberOfTrailingZeros_95d88_10 : decode cJ13_numberOfTrailingZeros_95d88 10 = .ok (.bipush 32, 2) := by decide +kernel
theorem dJ13_numberOfTrailingZeros_95d88_12 : decode cJ13_numberOfTrailingZeros_95d88 12 = .ok (.lushr, 1) := by decide +kernel
theorem dJ13_numberOfTrailingZeros_95d88_13 : decode cJ13_numberOfTrailingZeros_95d88 13 = .ok (.l2i, 1) := by decide +kernel
theorem dJ13_numberOfTrailingZeros_95d88_14 : decode cJ13_numberOfTrailingZeros_95d88 14 = .ok (.invokestatic 311, 3) := by decide +kernel
theorem dJ13_numberOfTrailingZeros_95d88_17 : decode cJ13_numberOfTrailingZeros_95d88 17 = .ok (.iadd, 1) := by decide +kernel
theorem dJ13_numberOfTrailingZeros_95d88_18 : decode cJ13_numberOfTrailingZeros_95d88 18 = .ok (.goto 7, 3) := by decide +kernel
theorem dJ13_numberOfTrailingZeros_95d88_21 : decode cJ13_numberOfTrailingZeros_95d88 21 = .ok (.iload_n 2, 1) := by decide +kernel
theorem dJ13_numberOfTrailingZeros_95d88_22 : decode cJ13_numberOfTrailingZeros_95d88 22 = .ok (.invokestatic 311, 3) := by decide +kernel
theorem dJ13_numberOfTrailingZeros_95d88_25 : decode cJ13_numberOfTrailingZeros_95d88 25 = .ok (.ireturn, 1) := by decide +kernel
theorem dJ9_abs_067f4_0 : decode cJ9_abs_067f4 0 = .ok (.lload_n 0, 1) := by decide +kernel
theorem dJ9_abs_067f4_1 : decode cJ9_abs_067f4 1 = .ok (.lconst 0, 1) := by decide +kernel
theorem dJ9_abs_067f4_2 : decode cJ9_abs_067f4 2 = .ok (.lcmp, 1) := by decide +kernel
theorem dJ9_abs_067f4_3 : decode cJ9_abs_067f4 3 = .ok (.ifCond .ge 8, 3) := by decide +kernel
theorem dJ9_abs_067f4_6 : decode cJ9_abs_067f4 6 = .ok (.lload_n 0, 1) := by decide +kernel
theorem dJ9_abs_067f4_7 : decode cJ9_abs_067f4 7 = .ok (.lneg, 1) := by decide +kernel
theorem dJ9_abs_067f4_8 : decode cJ9_abs_067f4 8 = .ok (.goto 4, 3) := by decide +kernel
theorem dJ9_abs_067f4_11 : decode cJ9_abs_067f4 11 = .ok (.lload_n 0, 1) := by decide +kernel
theorem dJ9_abs_067f4_12 : decode cJ9_abs_067f4 12 = .ok (.lreturn, 1) := by decide +kernel
