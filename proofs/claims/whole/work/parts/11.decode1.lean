theorem dX11_init_0 : decode cX11_init 0 = .ok (.aload_n 0, 1) := by decide +kernel
theorem dX11_init_1 : decode cX11_init 1 = .ok (.invokespecial 1, 3) := by decide +kernel
theorem dX11_init_4 : decode cX11_init 4 = .ok (.aload_n 0, 1) := by decide +kernel
theorem dX11_init_5 : decode cX11_init 5 = .ok (.new 7, 3) := by decide +kernel
theorem dX11_init_8 : decode cX11_init 8 = .ok (.dup, 1) := by decide +kernel
theorem dX11_init_9 : decode cX11_init 9 = .ok (.invokespecial 9, 3) := by decide +kernel
theorem dX11_init_12 : decode cX11_init 12 = .ok (.putfield 10, 3) := by decide +kernel
theorem dX11_init_15 : decode cX11_init 15 = .ok (.aload_n 0, 1) := by decide +kernel
theorem dX11_init_16 : decode cX11_init 16 = .ok (.new 16, 3) := by decide +kernel
theorem dX11_init_19 : decode cX11_init 19 = .ok (.dup, 1) := by decide +kernel
theorem dX11_init_20 : decode cX11_init 20 = .ok (.invokespecial 18, 3) := by decide +kernel
theorem dX11_init_23 : decode cX11_init 23 = .ok (.putfield 19, 3) := by decide +kernel
theorem dX11_init_26 : decode cX11_init 26 = .ok (.aload_n 0, 1) := by decide +kernel
theorem dX11_init_27 : decode cX11_init 27 = .ok (.new 23, 3) := by decide +kernel
theorem dX11_init_30 : decode cX11_init 30 = .ok (.dup, 1) := by decide +kernel
theorem dX11_init_31 : decode cX11_init 31 = .ok (.invokespecial 25, 3) := by decide +kernel
theorem dX11_init_34 : decode cX11_init 34 = .ok (.putfield 26, 3) := by decide +kernel
theorem dX11_init_37 : decode cX11_init 37 = .ok (.aload_n 0, 1) := by decide +kernel
theorem dX11_init_38 : decode cX11_init 38 = .ok (.new 30, 3) := by decide +kernel
theorem dX11_init_41 : decode cX11_init 41 = .ok (.dup, 1) := by decide +kernel
theorem dX11_init_42 : decode cX11_init 42 = .ok (.invokespecial 32, 3) := by decide +kernel
theorem dX11_init_45 : decode cX11_init 45 = .ok (.putfield 33, 3) := by decide +kernel
theorem dX11_init_48 : decode cX11_init 48 = .ok (.aload_n 0, 1) := by decide +kernel
theorem dX11_init_49 : decode cX11_init 49 = .ok (.new 37, 3) := by decide +kernel
theorem dX11_init_52 : decode cX11_init 52 = .ok (.dup, 1) := by decide +kernel
theorem dX11_init_53 : decode cX11_init 53 = .ok (.invokespecial 39, 3) := by decide +kernel
theorem dX11_init_56 : decode cX11_init 56 = .ok (.putfield 40, 3) := by decide +kernel
theorem dX11_init_59 : decode cX11_init 59 = .ok (.aload_n 0, 1) := by decide +kernel
theorem dX11_init_60 : decode cX11_init 60 = .ok (.iconst 3, 1) := by decide +kernel
theorem dX11_init_61 : decode cX11_init 61 = .ok (.anewarray 44, 3) := by decide +kernel
theorem dX11_init_64 : decode cX11_init 64 = .ok (.putfield 46, 3) := by decide +kernel
theorem dX11_init_67 : decode cX11_init 67 = .ok (.aload_n 0, 1) := by decide +kernel
theorem dX11_init_68 : decode cX11_init 68 = .ok (.iconst 3, 1) := by decide +kernel
theorem dX11_init_69 : decode cX11_init 69 = .ok (.anewarray 50, 3) := by decide +kernel
theorem dX11_init_72 : decode cX11_init 72 = .ok (.putfield 52, 3) := by decide +kernel
theorem dX11_init_75 : decode cX11_init 75 = .ok (.aload_n 0, 1) := by decide +kernel
theorem dX11_init_76 : decode cX11_init 76 = .ok (.bipush 7, 2) := by decide +kernel
theorem dX11_init_78 : decode cX11_init 78 = .ok (.newarray .int, 2) := by decide +kernel
theorem dX11_init_80 : decode cX11_init 80 = .ok (.putfield 56, 3) := by decide +kernel
theorem dX11_init_83 : decode cX11_init 83 = .ok (.iconst 0, 1) := by decide +kernel
theorem dX11_init_84 : decode cX11_init 84 = .ok (.istore_n 1, 1) := by decide +kernel
theorem dX11_init_85 : decode cX11_init 85 = .ok (.iload_n 1, 1) := by decide +kernel
theorem dX11_init_86 : decode cX11_init 86 = .ok (.iconst 3, 1) := by decide +kernel
theorem dX11_init_87 : decode cX11_init 87 = .ok (.if_icmp .ge 35, 3) := by decide +kernel
theorem dX11_init_90 : decode cX11_init 90 = .ok (.aload_n 0, 1) := by decide +kernel
theorem dX11_init_91 : decode cX11_init 91 = .ok (.getfield 46, 3) := by decide +kernel
theorem dX11_init_94 : decode cX11_init 94 = .ok (.iload_n 1, 1) := by decide +kernel
theorem dX11_init_95 : decode cX11_init 95 = .ok (.new 44, 3) := by decide +kernel
theorem dX11_init_98 : decode cX11_init 98 = .ok (.dup, 1) := by decide +kernel
theorem dX11_init_99 : decode cX11_init 99 = .ok (.invokespecial 60, 3) := by decide +kernel
theorem dX11_init_102 : decode cX11_init 102 = .ok (.aastore, 1) := by decide +kernel
theorem dX11_init_103 : decode cX11_init 103 = .ok (.aload_n 0, 1) := by decide +kernel
theorem dX11_init_104 : decode cX11_init 104 = .ok (.getfield 52, 3) := by decide +kernel
theorem dX11_init_107 : decode cX11_init 107 = .ok (.iload_n 1, 1) := by decide +kernel
theorem dX11_init_108 : decode cX11_init 108 = .ok (.new 50, 3) := by decide +kernel
theorem dX11_init_111 : decode cX11_init 111 = .ok (.dup, 1) := by decide +kernel
theorem dX11_init_112 : decode cX11_init 112 = .ok (.invokespecial 61, 3) := by decide +kernel
theorem dX11_init_115 : decode cX11_init 115 = .ok (.aastore, 1) := by decide +kernel
theorem dX11_init_116 : decode cX11_init 116 = .ok (.iinc 1 1, 3) := by decide +kernel
theorem dX11_init_119 : decode cX11_init 119 = .ok (.goto (-34), 3) := by decide +kernel
theorem dX11_init_122 : decode cX11_init 122 = .ok (.aload_n 0, 1) := by decide +kernel
theorem dX11_init_123 : decode cX11_init 123 = .ok (.getfield 10, 3) := by decide +kernel
theorem dX11_init_126 : decode cX11_init 126 = .ok (.iconst 2, 1) := by decide +kernel
theorem dX11_init_127 : decode cX11_init 127 = .ok (.iconst 0, 1) := by decide +kernel
theorem dX11_init_128 : decode cX11_init 128 = .ok (.iconst 0, 1) := by decide +kernel
theorem dX11_init_129 : decode cX11_init 129 = .ok (.invokevirtual 62, 3) := by decide +kernel
theorem dX11_init_132 : decode cX11_init 132 = .ok (.return_, 1) := by decide +kernel
theorem dX11_letter_0 : decode cX11_letter 0 = .ok (.iload_n 1, 1) := by decide +kernel
theorem dX11_letter_1 : decode cX11_letter 1 = .ok (.ifCond .ge 10, 3) := by decide +kernel
theorem dX11_letter_4 : decode cX11_letter 4 = .ok (.aload_n 0, 1) := by decide +kernel
theorem dX11_letter_5 : decode cX11_letter 5 = .ok (.bipush (-4), 2) := by decide +kernel
theorem dX11_letter_7 : decode cX11_letter 7 = .ok (.invokevirtual 66, 3) := by decide +kernel
theorem dX11_letter_10 : decode cX11_letter 10 = .ok (.ireturn, 1) := by decide +kernel
theorem dX11_letter_11 : decode cX11_letter 11 = .ok (.iload_n 1, 1) := by decide +kernel
theorem dX11_letter_12 : decode cX11_letter 12 = .ok (.sipush 255, 3) := by decide +kernel
theorem dX11_letter_15 : decode cX11_letter 15 = .ok (.if_icmp .gt 13, 3) := by decide +kernel
theorem dX11_letter_18 : decode cX11_letter 18 = .ok (.aload_n 0, 1) := by decide +kernel
theorem dX11_letter_19 : decode cX11_letter 19 = .ok (.getfield 33, 3) := by decide +kernel
theorem dX11_letter_22 : decode cX11_letter 22 = .ok (.invokevirtual 70, 3) := by decide +kernel
theorem dX11_letter_25 : decode cX11_letter 25 = .ok (.ifCond .eq 10, 3) := by decide +kernel
theorem dX11_letter_28 : decode cX11_letter 28 = .ok (.aload_n 0, 1) := by decide +kernel
theorem dX11_letter_29 : decode cX11_letter 29 = .ok (.bipush (-6), 2) := by decide +kernel
theorem dX11_letter_31 : decode cX11_letter 31 = .ok (.invokevirtual 66, 3) := by decide +kernel
theorem dX11_letter_34 : decode cX11_letter 34 = .ok (.ireturn, 1) := by decide +kernel
theorem dX11_letter_35 : decode cX11_letter 35 = .ok (.aload_n 0, 1) := by decide +kernel
theorem dX11_letter_36 : decode cX11_letter 36 = .ok (.getfield 33, 3) := by decide +kernel
theorem dX11_letter_39 : decode cX11_letter 39 = .ok (.iload_n 1, 1) := by decide +kernel
theorem dX11_letter_40 : decode cX11_letter 40 = .ok (.invokevirtual 74, 3) := by decide +kernel
theorem dX11_letter_43 : decode cX11_letter 43 = .ok (.aload_n 0, 1) := by decide +kernel
theorem dX11_letter_44 : decode cX11_letter 44 = .ok (.getfield 33, 3) := by decide +kernel
theorem dX11_letter_47 : decode cX11_letter 47 = .ok (.getfield 78, 3) := by decide +kernel
theorem dX11_letter_50 : decode cX11_letter 50 = .ok (.ireturn, 1) := by decide +kernel
theorem dX11_text_0 : decode cX11_text 0 = .ok (.aload_n 0, 1) := by decide +kernel
theorem dX11_text_1 : decode cX11_text 1 = .ok (.invokevirtual 82, 3) := by decide +kernel
theorem dX11_text_4 : decode cX11_text 4 = .ok (.istore_n 1, 1) := by decide +kernel
theorem dX11_text_5 : decode cX11_text 5 = .ok (.iload_n 1, 1) := by decide +kernel
theorem dX11_text_6 : decode cX11_text 6 = .ok (.ifCond .ne 43, 3) := by decide +kernel
theorem dX11_text_9 : decode cX11_text 9 = .ok (.aload_n 0, 1) := by decide +kernel
theorem dX11_text_10 : decode cX11_text 10 = .ok (.getfield 33, 3) := by decide +kernel
theorem dX11_text_13 : decode cX11_text 13 = .ok (.getfield 86, 3) := by decide +kernel
theorem dX11_text_16 : decode cX11_text 16 = .ok (.istore_n 1, 1) := by decide +kernel
theorem dX11_text_17 : decode cX11_text 17 = .ok (.iconst 0, 1) := by decide +kernel
theorem dX11_text_18 : decode cX11_text 18 = .ok (.istore_n 2, 1) := by decide +kernel
theorem dX11_text_19 : decode cX11_text 19 = .ok (.iload_n 2, 1) := by decide +kernel
theorem dX11_text_20 : decode cX11_text 20 = .ok (.aload_n 0, 1) := by decide +kernel
theorem dX11_text_21 : decode cX11_text 21 = .ok (.getfield 33, 3) := by decide +kernel
theorem dX11_text_24 : decode cX11_text 24 = .ok (.getfield 86, 3) := by decide +kernel
theorem dX11_text_27 : decode cX11_text 27 = .ok (.if_icmp .ge 22, 3) := by decide +kernel
theorem dX11_text_30 : decode cX11_text 30 = .ok (.aload_n 0, 1) := by decide +kernel
theorem dX11_text_31 : decode cX11_text 31 = .ok (.aload_n 0, 1) := by decide +kernel
theorem dX11_text_32 : decode cX11_text 32 = .ok (.getfield 33, 3) := by decide +kernel
theorem dX11_text_35 : decode cX11_text 35 = .ok (.getfield 89, 3) := by decide +kernel
theorem dX11_text_38 : decode cX11_text 38 = .ok (.iload_n 2, 1) := by decide +kernel
theorem dX11_text_39 : decode cX11_text 39 = .ok (.iaload, 1) := by decide +kernel
theorem dX11_text_40 : decode cX11_text 40 = .ok (.invokevirtual 92, 3) := by decide +kernel
theorem dX11_text_43 : decode cX11_text 43 = .ok (.iinc 2 1, 3) := by decide +kernel
theorem dX11_text_46 : decode cX11_text 46 = .ok (.goto (-27), 3) := by decide +kernel
theorem dX11_text_49 : decode cX11_text 49 = .ok (.aload_n 0, 1) := by decide +kernel
theorem dX11_text_50 : decode cX11_text 50 = .ok (.getfield 33, 3) := by decide +kernel
theorem dX11_text_53 : decode cX11_text 53 = .ok (.invokevirtual 95, 3) := by decide +kernel
theorem dX11_text_56 : decode cX11_text 56 = .ok (.iload_n 1, 1) := by decide +kernel
theorem dX11_text_57 : decode cX11_text 57 = .ok (.ireturn, 1) := by decide +kernel
theorem dX11_board_0 : decode cX11_board 0 = .ok (.iload_n 1, 1) := by decide +kernel
theorem dX11_board_1 : decode cX11_board 1 = .ok (.ifCond .ge 10, 3) := by decide +kernel
theorem dX11_board_4 : decode cX11_board 4 = .ok (.aload_n 0, 1) := by decide +kernel
theorem dX11_board_5 : decode cX11_board 5 = .ok (.bipush (-4), 2) := by decide +kernel
theorem dX11_board_7 : decode cX11_board 7 = .ok (.invokevirtual 66, 3) := by decide +kernel
theorem dX11_board_10 : decode cX11_board 10 = .ok (.ireturn, 1) := by decide +kernel
theorem dX11_board_11 : decode cX11_board 11 = .ok (.iload_n 1, 1) := by decide +kernel
theorem dX11_board_12 : decode cX11_board 12 = .ok (.iconst 4, 1) := by decide +kernel
theorem dX11_board_13 : decode cX11_board 13 = .ok (.if_icmp .le 10, 3) := by decide +kernel
theorem dX11_board_16 : decode cX11_board 16 = .ok (.aload_n 0, 1) := by decide +kernel
theorem dX11_board_17 : decode cX11_board 17 = .ok (.bipush (-6), 2) := by decide +kernel
theorem dX11_board_19 : decode cX11_board 19 = .ok (.invokevirtual 66, 3) := by decide +kernel
theorem dX11_board_22 : decode cX11_board 22 = .ok (.ireturn, 1) := by decide +kernel
theorem dX11_board_23 : decode cX11_board 23 = .ok (.iload_n 1, 1) := by decide +kernel
theorem dX11_board_24 : decode cX11_board 24 = .ok (.iload_n 2, 1) := by decide +kernel
theorem dX11_board_25 : decode cX11_board 25 = .ok (.iload_n 3, 1) := by decide +kernel
theorem dX11_board_26 : decode cX11_board 26 = .ok (.invokestatic 98, 3) := by decide +kernel
theorem dX11_board_29 : decode cX11_board 29 = .ok (.ifCond .ne 9, 3) := by decide +kernel
theorem dX11_board_32 : decode cX11_board 32 = .ok (.aload_n 0, 1) := by decide +kernel
theorem dX11_board_33 : decode cX11_board 33 = .ok (.iconst (-1), 1) := by decide +kernel
theorem dX11_board_34 : decode cX11_board 34 = .ok (.invokevirtual 66, 3) := by decide +kernel
theorem dX11_board_37 : decode cX11_board 37 = .ok (.ireturn, 1) := by decide +kernel
theorem dX11_board_38 : decode cX11_board 38 = .ok (.aload_n 0, 1) := by decide +kernel
theorem dX11_board_39 : decode cX11_board 39 = .ok (.getfield 10, 3) := by decide +kernel
theorem dX11_board_42 : decode cX11_board 42 = .ok (.iload_n 1, 1) := by decide +kernel
theorem dX11_board_43 : decode cX11_board 43 = .ok (.iload_n 2, 1) := by decide +kernel
theorem dX11_board_44 : decode cX11_board 44 = .ok (.iload_n 3, 1) := by decide +kernel
theorem dX11_board_45 : decode cX11_board 45 = .ok (.invokevirtual 62, 3) := by decide +kernel
theorem dX11_board_48 : decode cX11_board 48 = .ok (.aload_n 0, 1) := by decide +kernel
theorem dX11_board_49 : decode cX11_board 49 = .ok (.getfield 10, 3) := by decide +kernel
theorem dX11_board_52 : decode cX11_board 52 = .ok (.getfield 102, 3) := by decide +kernel
theorem dX11_board_55 : decode cX11_board 55 = .ok (.ireturn, 1) := by decide +kernel
theorem dX11_piece_0 : decode cX11_piece 0 = .ok (.aload_n 0, 1) := by decide +kernel
theorem dX11_piece_1 : decode cX11_piece 1 = .ok (.getfield 10, 3) := by decide +kernel
theorem dX11_piece_4 : decode cX11_piece 4 = .ok (.iload_n 1, 1) := by decide +kernel
theorem dX11_piece_5 : decode cX11_piece 5 = .ok (.iload_n 2, 1) := by decide +kernel
theorem dX11_piece_6 : decode cX11_piece 6 = .ok (.invokevirtual 105, 3) := by decide +kernel
theorem dX11_piece_9 : decode cX11_piece 9 = .ok (.ifCond .ne 9, 3) := by decide +kernel
theorem dX11_piece_12 : decode cX11_piece 12 = .ok (.aload_n 0, 1) := by decide +kernel
theorem dX11_piece_13 : decode cX11_piece 13 = .ok (.iconst (-1), 1) := by decide +kernel
theorem dX11_piece_14 : decode cX11_piece 14 = .ok (.invokevirtual 66, 3) := by decide +kernel
theorem dX11_piece_17 : decode cX11_piece 17 = .ok (.ireturn, 1) := by decide +kernel
theorem dX11_piece_18 : decode cX11_piece 18 = .ok (.aload_n 0, 1) := by decide +kernel
theorem dX11_piece_19 : decode cX11_piece 19 = .ok (.getfield 10, 3) := by decide +kernel
theorem dX11_piece_22 : decode cX11_piece 22 = .ok (.iload_n 1, 1) := by decide +kernel
theorem dX11_piece_23 : decode cX11_piece 23 = .ok (.iload_n 2, 1) := by decide +kernel
theorem dX11_piece_24 : decode cX11_piece 24 = .ok (.invokevirtual 109, 3) := by decide +kernel
theorem dX11_piece_27 : decode cX11_piece 27 = .ok (.ireturn, 1) := by decide +kernel
theorem dX11_of_0 : decode cX11_of 0 = .ok (.aload_n 0, 1) := by decide +kernel
theorem dX11_of_1 : decode cX11_of 1 = .ok (.getfield 10, 3) := by decide +kernel
theorem dX11_of_4 : decode cX11_of 4 = .ok (.iload_n 1, 1) := by decide +kernel
theorem dX11_of_5 : decode cX11_of 5 = .ok (.invokevirtual 113, 3) := by decide +kernel
theorem dX11_of_8 : decode cX11_of 8 = .ok (.ifCond .ne 9, 3) := by decide +kernel
theorem dX11_of_11 : decode cX11_of 11 = .ok (.aload_n 0, 1) := by decide +kernel
theorem dX11_of_12 : decode cX11_of 12 = .ok (.iconst (-1), 1) := by decide +kernel
theorem dX11_of_13 : decode cX11_of 13 = .ok (.invokevirtual 66, 3) := by decide +kernel
theorem dX11_of_16 : decode cX11_of 16 = .ok (.ireturn, 1) := by decide +kernel
theorem dX11_of_17 : decode cX11_of 17 = .ok (.iload_n 2, 1) := by decide +kernel
theorem dX11_of_18 : decode cX11_of 18 = .ok (.tableswitch 79 0 4 #[34, 43, 52, 61, 70], 34) := by decide +kernel
theorem dX11_of_52 : decode cX11_of 52 = .ok (.aload_n 0, 1) := by decide +kernel
theorem dX11_of_53 : decode cX11_of 53 = .ok (.getfield 10, 3) := by decide +kernel
theorem dX11_of_56 : decode cX11_of 56 = .ok (.iload_n 1, 1) := by decide +kernel
theorem dX11_of_57 : decode cX11_of 57 = .ok (.invokevirtual 117, 3) := by decide +kernel
theorem dX11_of_60 : decode cX11_of 60 = .ok (.ireturn, 1) := by decide +kernel
theorem dX11_of_61 : decode cX11_of 61 = .ok (.aload_n 0, 1) := by decide +kernel
theorem dX11_of_62 : decode cX11_of 62 = .ok (.getfield 10, 3) := by decide +kernel
theorem dX11_of_65 : decode cX11_of 65 = .ok (.iload_n 1, 1) := by decide +kernel
theorem dX11_of_66 : decode cX11_of 66 = .ok (.invokevirtual 120, 3) := by decide +kernel
theorem dX11_of_69 : decode cX11_of 69 = .ok (.ireturn, 1) := by decide +kernel
theorem dX11_of_70 : decode cX11_of 70 = .ok (.aload_n 0, 1) := by decide +kernel
theorem dX11_of_71 : decode cX11_of 71 = .ok (.getfield 10, 3) := by decide +kernel
theorem dX11_of_74 : decode cX11_of 74 = .ok (.iload_n 1, 1) := by decide +kernel
theorem dX11_of_75 : decode cX11_of 75 = .ok (.invokevirtual 123, 3) := by decide +kernel
theorem dX11_of_78 : decode cX11_of 78 = .ok (.ireturn, 1) := by decide +kernel
theorem dX11_of_79 : decode cX11_of 79 = .ok (.aload_n 0, 1) := by decide +kernel
theorem dX11_of_80 : decode cX11_of 80 = .ok (.getfield 10, 3) := by decide +kernel
theorem dX11_of_83 : decode cX11_of 83 = .ok (.iload_n 1, 1) := by decide +kernel
theorem dX11_of_84 : decode cX11_of 84 = .ok (.invokevirtual 126, 3) := by decide +kernel
theorem dX11_of_87 : decode cX11_of 87 = .ok (.ireturn, 1) := by decide +kernel
theorem dX11_of_88 : decode cX11_of 88 = .ok (.aload_n 0, 1) := by decide +kernel
theorem dX11_of_89 : decode cX11_of 89 = .ok (.getfield 10, 3) := by decide +kernel
theorem dX11_of_92 : decode cX11_of 92 = .ok (.iload_n 1, 1) := by decide +kernel
theorem dX11_of_93 : decode cX11_of 93 = .ok (.invokevirtual 129, 3) := by decide +kernel
theorem dX11_of_96 : decode cX11_of 96 = .ok (.ireturn, 1) := by decide +kernel
theorem dX11_of_97 : decode cX11_of 97 = .ok (.aload_n 0, 1) := by decide +kernel
theorem dX11_of_98 : decode cX11_of 98 = .ok (.bipush (-2), 2) := by decide +kernel
theorem dX11_of_100 : decode cX11_of 100 = .ok (.invokevirtual 66, 3) := by decide +kernel
theorem dX11_of_103 : decode cX11_of 103 = .ok (.ireturn, 1) := by decide +kernel
theorem dX11_within_0 : decode cX11_within 0 = .ok (.aload_n 0, 1) := by decide +kernel
theorem dX11_within_1 : decode cX11_within 1 = .ok (.getfield 10, 3) := by decide +kernel
theorem dX11_within_4 : decode cX11_within 4 = .ok (.iload_n 1, 1) := by decide +kernel
theorem dX11_within_5 : decode cX11_within 5 = .ok (.iload_n 3, 1) := by decide +kernel
theorem dX11_within_6 : decode cX11_within 6 = .ok (.invokevirtual 105, 3) := by decide +kernel
theorem dX11_within_9 : decode cX11_within 9 = .ok (.ifCond .eq 16, 3) := by decide +kernel
theorem dX11_within_12 : decode cX11_within 12 = .ok (.aload_n 0, 1) := by decide +kernel
theorem dX11_within_13 : decode cX11_within 13 = .ok (.getfield 10, 3) := by decide +kernel
theorem dX11_within_16 : decode cX11_within 16 = .ok (.iload_n 2, 1) := by decide +kernel
theorem dX11_within_17 : decode cX11_within 17 = .ok (.iload 4, 2) := by decide +kernel
theorem dX11_within_19 : decode cX11_within 19 = .ok (.invokevirtual 105, 3) := by decide +kernel
theorem dX11_within_22 : decode cX11_within 22 = .ok (.ifCond .ne 9, 3) := by decide +kernel
theorem dX11_within_25 : decode cX11_within 25 = .ok (.aload_n 0, 1) := by decide +kernel
theorem dX11_within_26 : decode cX11_within 26 = .ok (.iconst (-1), 1) := by decide +kernel
theorem dX11_within_27 : decode cX11_within 27 = .ok (.invokevirtual 66, 3) := by decide +kernel
theorem dX11_within_30 : decode cX11_within 30 = .ok (.ireturn, 1) := by decide +kernel
theorem dX11_within_31 : decode cX11_within 31 = .ok (.aload_n 0, 1) := by decide +kernel
theorem dX11_within_32 : decode cX11_within 32 = .ok (.getfield 10, 3) := by decide +kernel
theorem dX11_within_35 : decode cX11_within 35 = .ok (.iload_n 1, 1) := by decide +kernel
theorem dX11_within_36 : decode cX11_within 36 = .ok (.iload_n 2, 1) := by decide +kernel
theorem dX11_within_37 : decode cX11_within 37 = .ok (.iload_n 3, 1) := by decide +kernel
theorem dX11_within_38 : decode cX11_within 38 = .ok (.iload 4, 2) := by decide +kernel
theorem dX11_within_40 : decode cX11_within 40 = .ok (.invokevirtual 132, 3) := by decide +kernel
theorem dX11_within_43 : decode cX11_within 43 = .ok (.ireturn, 1) := by decide +kernel
theorem dX11_pieces_0 : decode cX11_pieces 0 = .ok (.iload_n 1, 1) := by decide +kernel
theorem dX11_pieces_1 : decode cX11_pieces 1 = .ok (.ifCond .ne 11, 3) := by decide +kernel
theorem dX11_pieces_4 : decode cX11_pieces 4 = .ok (.aload_n 0, 1) := by decide +kernel
theorem dX11_pieces_5 : decode cX11_pieces 5 = .ok (.getfield 10, 3) := by decide +kernel
theorem dX11_pieces_8 : decode cX11_pieces 8 = .ok (.getfield 102, 3) := by decide +kernel
theorem dX11_pieces_11 : decode cX11_pieces 11 = .ok (.ireturn, 1) := by decide +kernel
theorem dX11_pieces_12 : decode cX11_pieces 12 = .ok (.iload_n 1, 1) := by decide +kernel
theorem dX11_pieces_13 : decode cX11_pieces 13 = .ok (.iconst 1, 1) := by decide +kernel
theorem dX11_pieces_14 : decode cX11_pieces 14 = .ok (.if_icmp .ne 11, 3) := by decide +kernel
theorem dX11_pieces_17 : decode cX11_pieces 17 = .ok (.aload_n 0, 1) := by decide +kernel
theorem dX11_pieces_18 : decode cX11_pieces 18 = .ok (.getfield 10, 3) := by decide +kernel
theorem dX11_pieces_21 : decode cX11_pieces 21 = .ok (.invokevirtual 136, 3) := by decide +kernel
theorem dX11_pieces_24 : decode cX11_pieces 24 = .ok (.ireturn, 1) := by decide +kernel
theorem dX11_pieces_25 : decode cX11_pieces 25 = .ok (.iload_n 1, 1) := by decide +kernel
theorem dX11_pieces_26 : decode cX11_pieces 26 = .ok (.bipush 10, 2) := by decide +kernel
theorem dX11_pieces_28 : decode cX11_pieces 28 = .ok (.if_icmp .lt 25, 3) := by decide +kernel
theorem dX11_pieces_31 : decode cX11_pieces 31 = .ok (.iload_n 1, 1) := by decide +kernel
theorem dX11_pieces_32 : decode cX11_pieces 32 = .ok (.bipush 10, 2) := by decide +kernel
theorem dX11_pieces_34 : decode cX11_pieces 34 = .ok (.isub, 1) := by decide +kernel
theorem dX11_pieces_35 : decode cX11_pieces 35 = .ok (.invokestatic 139, 3) := by decide +kernel
theorem dX11_pieces_38 : decode cX11_pieces 38 = .ok (.ifCond .eq 15, 3) := by decide +kernel
theorem dX11_pieces_41 : decode cX11_pieces 41 = .ok (.aload_n 0, 1) := by decide +kernel
theorem dX11_pieces_42 : decode cX11_pieces 42 = .ok (.getfield 10, 3) := by decide +kernel
theorem dX11_pieces_45 : decode cX11_pieces 45 = .ok (.iload_n 1, 1) := by decide +kernel
theorem dX11_pieces_46 : decode cX11_pieces 46 = .ok (.bipush 10, 2) := by decide +kernel
theorem dX11_pieces_48 : decode cX11_pieces 48 = .ok (.isub, 1) := by decide +kernel
theorem dX11_pieces_49 : decode cX11_pieces 49 = .ok (.invokevirtual 142, 3) := by decide +kernel
theorem dX11_pieces_52 : decode cX11_pieces 52 = .ok (.ireturn, 1) := by decide +kernel
theorem dX11_pieces_53 : decode cX11_pieces 53 = .ok (.aload_n 0, 1) := by decide +kernel
theorem dX11_pieces_54 : decode cX11_pieces 54 = .ok (.bipush (-2), 2) := by decide +kernel
theorem dX11_pieces_56 : decode cX11_pieces 56 = .ok (.invokevirtual 66, 3) := by decide +kernel
theorem dX11_pieces_59 : decode cX11_pieces 59 = .ok (.ireturn, 1) := by decide +kernel
theorem dX11_odds_0 : decode cX11_odds 0 = .ok (.iload_n 1, 1) := by decide +kernel
theorem dX11_odds_1 : decode cX11_odds 1 = .ok (.invokestatic 139, 3) := by decide +kernel
theorem dX11_odds_4 : decode cX11_odds 4 = .ok (.ifCond .eq 10, 3) := by decide +kernel
theorem dX11_odds_7 : decode cX11_odds 7 = .ok (.iload_n 2, 1) := by decide +kernel
theorem dX11_odds_8 : decode cX11_odds 8 = .ok (.invokestatic 145, 3) := by decide +kernel
theorem dX11_odds_11 : decode cX11_odds 11 = .ok (.ifCond .ne 10, 3) := by decide +kernel
theorem dX11_odds_14 : decode cX11_odds 14 = .ok (.aload_n 0, 1) := by decide +kernel
theorem dX11_odds_15 : decode cX11_odds 15 = .ok (.bipush (-2), 2) := by decide +kernel
theorem dX11_odds_17 : decode cX11_odds 17 = .ok (.invokevirtual 148, 3) := by decide +kernel
theorem dX11_odds_20 : decode cX11_odds 20 = .ok (.lreturn, 1) := by decide +kernel
theorem dX11_odds_21 : decode cX11_odds 21 = .ok (.aload_n 0, 1) := by decide +kernel
theorem dX11_odds_22 : decode cX11_odds 22 = .ok (.getfield 10, 3) := by decide +kernel
theorem dX11_odds_25 : decode cX11_odds 25 = .ok (.iload_n 1, 1) := by decide +kernel
theorem dX11_odds_26 : decode cX11_odds 26 = .ok (.invokevirtual 152, 3) := by decide +kernel
theorem dX11_odds_29 : decode cX11_odds 29 = .ok (.iload_n 2, 1) := by decide +kernel
theorem dX11_odds_30 : decode cX11_odds 30 = .ok (.invokevirtual 156, 3) := by decide +kernel
theorem dX11_odds_33 : decode cX11_odds 33 = .ok (.lreturn, 1) := by decide +kernel
theorem dX11_rule_0 : decode cX11_rule 0 = .ok (.iload_n 1, 1) := by decide +kernel
theorem dX11_rule_1 : decode cX11_rule 1 = .ok (.invokestatic 139, 3) := by decide +kernel
theorem dX11_rule_4 : decode cX11_rule 4 = .ok (.ifCond .eq 17, 3) := by decide +kernel
theorem dX11_rule_7 : decode cX11_rule 7 = .ok (.iload_n 2, 1) := by decide +kernel
theorem dX11_rule_8 : decode cX11_rule 8 = .ok (.invokestatic 139, 3) := by decide +kernel
theorem dX11_rule_11 : decode cX11_rule 11 = .ok (.ifCond .eq 10, 3) := by decide +kernel
theorem dX11_rule_14 : decode cX11_rule 14 = .ok (.iload_n 3, 1) := by decide +kernel
theorem dX11_rule_15 : decode cX11_rule 15 = .ok (.invokestatic 139, 3) := by decide +kernel
theorem dX11_rule_18 : decode cX11_rule 18 = .ok (.ifCond .ne 10, 3) := by decide +kernel
theorem dX11_rule_21 : decode cX11_rule 21 = .ok (.aload_n 0, 1) := by decide +kernel
theorem dX11_rule_22 : decode cX11_rule 22 = .ok (.bipush (-2), 2) := by decide +kernel
theorem dX11_rule_24 : decode cX11_rule 24 = .ok (.invokevirtual 66, 3) := by decide +kernel
theorem dX11_rule_27 : decode cX11_rule 27 = .ok (.ireturn, 1) := by decide +kernel
theorem dX11_rule_28 : decode cX11_rule 28 = .ok (.aload_n 0, 1) := by decide +kernel
theorem dX11_rule_29 : decode cX11_rule 29 = .ok (.getfield 19, 3) := by decide +kernel
theorem dX11_rule_32 : decode cX11_rule 32 = .ok (.iload_n 1, 1) := by decide +kernel
theorem dX11_rule_33 : decode cX11_rule 33 = .ok (.iload_n 2, 1) := by decide +kernel
theorem dX11_rule_34 : decode cX11_rule 34 = .ok (.invokevirtual 161, 3) := by decide +kernel
theorem dX11_rule_37 : decode cX11_rule 37 = .ok (.istore 4, 2) := by decide +kernel
theorem dX11_rule_39 : decode cX11_rule 39 = .ok (.aload_n 0, 1) := by decide +kernel
theorem dX11_rule_40 : decode cX11_rule 40 = .ok (.getfield 19, 3) := by decide +kernel
theorem dX11_rule_43 : decode cX11_rule 43 = .ok (.iload_n 1, 1) := by decide +kernel
theorem dX11_rule_44 : decode cX11_rule 44 = .ok (.iload_n 2, 1) := by decide +kernel
theorem dX11_rule_45 : decode cX11_rule 45 = .ok (.iload_n 3, 1) := by decide +kernel
theorem dX11_rule_46 : decode cX11_rule 46 = .ok (.invokevirtual 164, 3) := by decide +kernel
theorem dX11_rule_49 : decode cX11_rule 49 = .ok (.iload 4, 2) := by decide +kernel
theorem dX11_rule_51 : decode cX11_rule 51 = .ok (.ireturn, 1) := by decide +kernel
theorem dX11_behind_0 : decode cX11_behind 0 = .ok (.iload_n 1, 1) := by decide +kernel
theorem dX11_behind_1 : decode cX11_behind 1 = .ok (.invokestatic 139, 3) := by decide +kernel
theorem dX11_behind_4 : decode cX11_behind 4 = .ok (.ifCond .eq 10, 3) := by decide +kernel
theorem dX11_behind_7 : decode cX11_behind 7 = .ok (.iload_n 3, 1) := by decide +kernel
theorem dX11_behind_8 : decode cX11_behind 8 = .ok (.invokestatic 139, 3) := by decide +kernel
theorem dX11_behind_11 : decode cX11_behind 11 = .ok (.ifCond .ne 10, 3) := by decide +kernel
theorem dX11_behind_14 : decode cX11_behind 14 = .ok (.aload_n 0, 1) := by decide +kernel
theorem dX11_behind_15 : decode cX11_behind 15 = .ok (.bipush (-2), 2) := by decide +kernel
theorem dX11_behind_17 : decode cX11_behind 17 = .ok (.invokevirtual 148, 3) := by decide +kernel
theorem dX11_behind_20 : decode cX11_behind 20 = .ok (.lreturn, 1) := by decide +kernel
theorem dX11_behind_21 : decode cX11_behind 21 = .ok (.iload_n 2, 1) := by decide +kernel
theorem dX11_behind_22 : decode cX11_behind 22 = .ok (.ifCond .ge 10, 3) := by decide +kernel
theorem dX11_behind_25 : decode cX11_behind 25 = .ok (.aload_n 0, 1) := by decide +kernel
theorem dX11_behind_26 : decode cX11_behind 26 = .ok (.bipush (-4), 2) := by decide +kernel
theorem dX11_behind_28 : decode cX11_behind 28 = .ok (.invokevirtual 148, 3) := by decide +kernel
theorem dX11_behind_31 : decode cX11_behind 31 = .ok (.lreturn, 1) := by decide +kernel
theorem dX11_behind_32 : decode cX11_behind 32 = .ok (.iload_n 2, 1) := by decide +kernel
theorem dX11_behind_33 : decode cX11_behind 33 = .ok (.bipush 15, 2) := by decide +kernel
theorem dX11_behind_35 : decode cX11_behind 35 = .ok (.if_icmp .le 10, 3) := by decide +kernel
theorem dX11_behind_38 : decode cX11_behind 38 = .ok (.aload_n 0, 1) := by decide +kernel
theorem dX11_behind_39 : decode cX11_behind 39 = .ok (.bipush (-6), 2) := by decide +kernel
theorem dX11_behind_41 : decode cX11_behind 41 = .ok (.invokevirtual 148, 3) := by decide +kernel
theorem dX11_behind_44 : decode cX11_behind 44 = .ok (.lreturn, 1) := by decide +kernel
theorem dX11_behind_45 : decode cX11_behind 45 = .ok (.aload_n 0, 1) := by decide +kernel
theorem dX11_behind_46 : decode cX11_behind 46 = .ok (.getfield 19, 3) := by decide +kernel
theorem dX11_behind_49 : decode cX11_behind 49 = .ok (.iload_n 1, 1) := by decide +kernel
theorem dX11_behind_50 : decode cX11_behind 50 = .ok (.iload_n 2, 1) := by decide +kernel
theorem dX11_behind_51 : decode cX11_behind 51 = .ok (.iload_n 3, 1) := by decide +kernel
theorem dX11_behind_52 : decode cX11_behind 52 = .ok (.invokevirtual 167, 3) := by decide +kernel
theorem dX11_behind_55 : decode cX11_behind 55 = .ok (.lreturn, 1) := by decide +kernel
theorem dX11_address_0 : decode cX11_address 0 = .ok (.iload_n 1, 1) := by decide +kernel
theorem dX11_address_1 : decode cX11_address 1 = .ok (.invokestatic 139, 3) := by decide +kernel
theorem dX11_address_4 : decode cX11_address 4 = .ok (.ifCond .ne 10, 3) := by decide +kernel
theorem dX11_address_7 : decode cX11_address 7 = .ok (.aload_n 0, 1) := by decide +kernel
theorem dX11_address_8 : decode cX11_address 8 = .ok (.bipush (-2), 2) := by decide +kernel
theorem dX11_address_10 : decode cX11_address 10 = .ok (.invokevirtual 66, 3) := by decide +kernel
theorem dX11_address_13 : decode cX11_address 13 = .ok (.ireturn, 1) := by decide +kernel
theorem dX11_address_14 : decode cX11_address 14 = .ok (.iload_n 2, 1) := by decide +kernel
theorem dX11_address_15 : decode cX11_address 15 = .ok (.ifCond .lt 7, 3) := by decide +kernel
theorem dX11_address_18 : decode cX11_address 18 = .ok (.iload_n 3, 1) := by decide +kernel
theorem dX11_address_19 : decode cX11_address 19 = .ok (.ifCond .ge 10, 3) := by decide +kernel
theorem dX11_address_22 : decode cX11_address 22 = .ok (.aload_n 0, 1) := by decide +kernel
theorem dX11_address_23 : decode cX11_address 23 = .ok (.bipush (-4), 2) := by decide +kernel
theorem dX11_address_25 : decode cX11_address 25 = .ok (.invokevirtual 66, 3) := by decide +kernel
theorem dX11_address_28 : decode cX11_address 28 = .ok (.ireturn, 1) := by decide +kernel
theorem dX11_address_29 : decode cX11_address 29 = .ok (.iload_n 3, 1) := by decide +kernel
theorem dX11_address_30 : decode cX11_address 30 = .ok (.bipush 15, 2) := by decide +kernel
theorem dX11_address_32 : decode cX11_address 32 = .ok (.if_icmp .gt 11, 3) := by decide +kernel
theorem dX11_address_35 : decode cX11_address 35 = .ok (.iload_n 2, 1) := by decide +kernel
theorem dX11_address_36 : decode cX11_address 36 = .ok (.iconst 2, 1) := by decide +kernel
theorem dX11_address_37 : decode cX11_address 37 = .ok (.iload_n 3, 1) := by decide +kernel
theorem dX11_address_38 : decode cX11_address 38 = .ok (.imul, 1) := by decide +kernel
theorem dX11_address_39 : decode cX11_address 39 = .ok (.ishr, 1) := by decide +kernel
theorem dX11_address_40 : decode cX11_address 40 = .ok (.ifCond .eq 10, 3) := by decide +kernel
theorem dX11_address_43 : decode cX11_address 43 = .ok (.aload_n 0, 1) := by decide +kernel
theorem dX11_address_44 : decode cX11_address 44 = .ok (.bipush (-6), 2) := by decide +kernel
theorem dX11_address_46 : decode cX11_address 46 = .ok (.invokevirtual 66, 3) := by decide +kernel
theorem dX11_address_49 : decode cX11_address 49 = .ok (.ireturn, 1) := by decide +kernel
theorem dX11_address_50 : decode cX11_address 50 = .ok (.aload_n 0, 1) := by decide +kernel
theorem dX11_address_51 : decode cX11_address 51 = .ok (.getfield 19, 3) := by decide +kernel
theorem dX11_address_54 : decode cX11_address 54 = .ok (.iload_n 1, 1) := by decide +kernel
theorem dX11_address_55 : decode cX11_address 55 = .ok (.iload_n 2, 1) := by decide +kernel
theorem dX11_address_56 : decode cX11_address 56 = .ok (.iload_n 3, 1) := by decide +kernel
theorem dX11_address_57 : decode cX11_address 57 = .ok (.invokevirtual 171, 3) := by decide +kernel
theorem dX11_address_60 : decode cX11_address 60 = .ok (.ireturn, 1) := by decide +kernel
theorem dX11_meet_0 : decode cX11_meet 0 = .ok (.iload_n 1, 1) := by decide +kernel
theorem dX11_meet_1 : decode cX11_meet 1 = .ok (.invokestatic 139, 3) := by decide +kernel
theorem dX11_meet_4 : decode cX11_meet 4 = .ok (.ifCond .eq 19, 3) := by decide +kernel
theorem dX11_meet_7 : decode cX11_meet 7 = .ok (.iload_n 2, 1) := by decide +kernel
theorem dX11_meet_8 : decode cX11_meet 8 = .ok (.invokestatic 139, 3) := by decide +kernel
theorem dX11_meet_11 : decode cX11_meet 11 = .ok (.ifCond .eq 12, 3) := by decide +kernel
theorem dX11_meet_14 : decode cX11_meet 14 = .ok (.iload_n 3, 1) := by decide +kernel
theorem dX11_meet_15 : decode cX11_meet 15 = .ok (.ifCond .lt 8, 3) := by decide +kernel
theorem dX11_meet_18 : decode cX11_meet 18 = .ok (.iload_n 3, 1) := by decide +kernel
theorem dX11_meet_19 : decode cX11_meet 19 = .ok (.iconst 1, 1) := by decide +kernel
theorem dX11_meet_20 : decode cX11_meet 20 = .ok (.if_icmp .le 10, 3) := by decide +kernel
theorem dX11_meet_23 : decode cX11_meet 23 = .ok (.aload_n 0, 1) := by decide +kernel
theorem dX11_meet_24 : decode cX11_meet 24 = .ok (.bipush (-2), 2) := by decide +kernel
theorem dX11_meet_26 : decode cX11_meet 26 = .ok (.invokevirtual 66, 3) := by decide +kernel
theorem dX11_meet_29 : decode cX11_meet 29 = .ok (.ireturn, 1) := by decide +kernel
theorem dX11_meet_30 : decode cX11_meet 30 = .ok (.aload_n 0, 1) := by decide +kernel
theorem dX11_meet_31 : decode cX11_meet 31 = .ok (.getfield 19, 3) := by decide +kernel
theorem dX11_meet_34 : decode cX11_meet 34 = .ok (.iload_n 1, 1) := by decide +kernel
theorem dX11_meet_35 : decode cX11_meet 35 = .ok (.iload_n 2, 1) := by decide +kernel
theorem dX11_meet_36 : decode cX11_meet 36 = .ok (.iload_n 3, 1) := by decide +kernel
theorem dX11_meet_37 : decode cX11_meet 37 = .ok (.iconst 1, 1) := by decide +kernel
theorem dX11_meet_38 : decode cX11_meet 38 = .ok (.if_icmp .ne 7, 3) := by decide +kernel
theorem dX11_meet_41 : decode cX11_meet 41 = .ok (.iconst 1, 1) := by decide +kernel
theorem dX11_meet_42 : decode cX11_meet 42 = .ok (.goto 4, 3) := by decide +kernel
theorem dX11_meet_45 : decode cX11_meet 45 = .ok (.iconst 0, 1) := by decide +kernel
theorem dX11_meet_46 : decode cX11_meet 46 = .ok (.invokevirtual 175, 3) := by decide +kernel
theorem dX11_meet_49 : decode cX11_meet 49 = .ok (.ireturn, 1) := by decide +kernel
theorem dX11_steady_0 : decode cX11_steady 0 = .ok (.iload_n 1, 1) := by decide +kernel
theorem dX11_steady_1 : decode cX11_steady 1 = .ok (.invokestatic 139, 3) := by decide +kernel
theorem dX11_steady_4 : decode cX11_steady 4 = .ok (.ifCond .ne 10, 3) := by decide +kernel
theorem dX11_steady_7 : decode cX11_steady 7 = .ok (.aload_n 0, 1) := by decide +kernel
theorem dX11_steady_8 : decode cX11_steady 8 = .ok (.bipush (-2), 2) := by decide +kernel
theorem dX11_steady_10 : decode cX11_steady 10 = .ok (.invokevirtual 66, 3) := by decide +kernel
theorem dX11_steady_13 : decode cX11_steady 13 = .ok (.ireturn, 1) := by decide +kernel
theorem dX11_steady_14 : decode cX11_steady 14 = .ok (.aload_n 0, 1) := by decide +kernel
theorem dX11_steady_15 : decode cX11_steady 15 = .ok (.getfield 19, 3) := by decide +kernel
theorem dX11_steady_18 : decode cX11_steady 18 = .ok (.iload_n 1, 1) := by decide +kernel
theorem dX11_steady_19 : decode cX11_steady 19 = .ok (.invokevirtual 179, 3) := by decide +kernel
theorem dX11_steady_22 : decode cX11_steady 22 = .ok (.ireturn, 1) := by decide +kernel
theorem dX11_falls_0 : decode cX11_falls 0 = .ok (.iload_n 1, 1) := by decide +kernel
theorem dX11_falls_1 : decode cX11_falls 1 = .ok (.invokestatic 139, 3) := by decide +kernel
theorem dX11_falls_4 : decode cX11_falls 4 = .ok (.ifCond .ne 10, 3) := by decide +kernel
theorem dX11_falls_7 : decode cX11_falls 7 = .ok (.aload_n 0, 1) := by decide +kernel
theorem dX11_falls_8 : decode cX11_falls 8 = .ok (.bipush (-2), 2) := by decide +kernel
theorem dX11_falls_10 : decode cX11_falls 10 = .ok (.invokevirtual 66, 3) := by decide +kernel
theorem dX11_falls_13 : decode cX11_falls 13 = .ok (.ireturn, 1) := by decide +kernel
theorem dX11_falls_14 : decode cX11_falls 14 = .ok (.aload_n 0, 1) := by decide +kernel
theorem dX11_falls_15 : decode cX11_falls 15 = .ok (.getfield 19, 3) := by decide +kernel
theorem dX11_falls_18 : decode cX11_falls 18 = .ok (.iload_n 1, 1) := by decide +kernel
theorem dX11_falls_19 : decode cX11_falls 19 = .ok (.invokevirtual 182, 3) := by decide +kernel
theorem dX11_falls_22 : decode cX11_falls 22 = .ok (.ireturn, 1) := by decide +kernel
theorem dX11_lots_0 : decode cX11_lots 0 = .ok (.iload_n 1, 1) := by decide +kernel
theorem dX11_lots_1 : decode cX11_lots 1 = .ok (.invokestatic 139, 3) := by decide +kernel
theorem dX11_lots_4 : decode cX11_lots 4 = .ok (.ifCond .eq 14, 3) := by decide +kernel
theorem dX11_lots_7 : decode cX11_lots 7 = .ok (.iload 4, 2) := by decide +kernel
theorem dX11_lots_9 : decode cX11_lots 9 = .ok (.ifCond .lt 9, 3) := by decide +kernel
theorem dX11_lots_12 : decode cX11_lots 12 = .ok (.iload 4, 2) := by decide +kernel
theorem dX11_lots_14 : decode cX11_lots 14 = .ok (.iconst 1, 1) := by decide +kernel
theorem dX11_lots_15 : decode cX11_lots 15 = .ok (.if_icmp .le 10, 3) := by decide +kernel
theorem dX11_lots_18 : decode cX11_lots 18 = .ok (.aload_n 0, 1) := by decide +kernel
theorem dX11_lots_19 : decode cX11_lots 19 = .ok (.bipush (-2), 2) := by decide +kernel
theorem dX11_lots_21 : decode cX11_lots 21 = .ok (.invokevirtual 66, 3) := by decide +kernel
theorem dX11_lots_24 : decode cX11_lots 24 = .ok (.ireturn, 1) := by decide +kernel
theorem dX11_lots_25 : decode cX11_lots 25 = .ok (.iload_n 2, 1) := by decide +kernel
theorem dX11_lots_26 : decode cX11_lots 26 = .ok (.iconst 1, 1) := by decide +kernel
theorem dX11_lots_27 : decode cX11_lots 27 = .ok (.if_icmp .ge 10, 3) := by decide +kernel
theorem dX11_lots_30 : decode cX11_lots 30 = .ok (.aload_n 0, 1) := by decide +kernel
theorem dX11_lots_31 : decode cX11_lots 31 = .ok (.bipush (-4), 2) := by decide +kernel
theorem dX11_lots_33 : decode cX11_lots 33 = .ok (.invokevirtual 66, 3) := by decide +kernel
theorem dX11_lots_36 : decode cX11_lots 36 = .ok (.ireturn, 1) := by decide +kernel
theorem dX11_lots_37 : decode cX11_lots 37 = .ok (.iload_n 2, 1) := by decide +kernel
theorem dX11_lots_38 : decode cX11_lots 38 = .ok (.bipush 50, 2) := by decide +kernel
theorem dX11_lots_40 : decode cX11_lots 40 = .ok (.if_icmp .le 10, 3) := by decide +kernel
theorem dX11_lots_43 : decode cX11_lots 43 = .ok (.aload_n 0, 1) := by decide +kernel
theorem dX11_lots_44 : decode cX11_lots 44 = .ok (.bipush (-6), 2) := by decide +kernel
theorem dX11_lots_46 : decode cX11_lots 46 = .ok (.invokevirtual 66, 3) := by decide +kernel
theorem dX11_lots_49 : decode cX11_lots 49 = .ok (.ireturn, 1) := by decide +kernel
theorem dX11_lots_50 : decode cX11_lots 50 = .ok (.aload_n 0, 1) := by decide +kernel
theorem dX11_lots_51 : decode cX11_lots 51 = .ok (.getfield 19, 3) := by decide +kernel
theorem dX11_lots_54 : decode cX11_lots 54 = .ok (.iload_n 1, 1) := by decide +kernel
theorem dX11_lots_55 : decode cX11_lots 55 = .ok (.iload_n 2, 1) := by decide +kernel
theorem dX11_lots_56 : decode cX11_lots 56 = .ok (.iload_n 3, 1) := by decide +kernel
theorem dX11_lots_57 : decode cX11_lots 57 = .ok (.iload 4, 2) := by decide +kernel
theorem dX11_lots_59 : decode cX11_lots 59 = .ok (.iconst 1, 1) := by decide +kernel
theorem dX11_lots_60 : decode cX11_lots 60 = .ok (.if_icmp .ne 7, 3) := by decide +kernel
theorem dX11_lots_63 : decode cX11_lots 63 = .ok (.iconst 1, 1) := by decide +kernel
theorem dX11_lots_64 : decode cX11_lots 64 = .ok (.goto 4, 3) := by decide +kernel
theorem dX11_lots_67 : decode cX11_lots 67 = .ok (.iconst 0, 1) := by decide +kernel
theorem dX11_lots_68 : decode cX11_lots 68 = .ok (.invokevirtual 185, 3) := by decide +kernel
theorem dX11_lots_71 : decode cX11_lots 71 = .ok (.ireturn, 1) := by decide +kernel
theorem dX11_point_0 : decode cX11_point 0 = .ok (.iload_n 1, 1) := by decide +kernel
theorem dX11_point_1 : decode cX11_point 1 = .ok (.ifCond .lt 21, 3) := by decide +kernel
theorem dX11_point_4 : decode cX11_point 4 = .ok (.iload_n 2, 1) := by decide +kernel
theorem dX11_point_5 : decode cX11_point 5 = .ok (.ifCond .lt 17, 3) := by decide +kernel
theorem dX11_point_8 : decode cX11_point 8 = .ok (.iload_n 1, 1) := by decide +kernel
theorem dX11_point_9 : decode cX11_point 9 = .ok (.bipush 100, 2) := by decide +kernel
theorem dX11_point_11 : decode cX11_point 11 = .ok (.irem, 1) := by decide +kernel
theorem dX11_point_12 : decode cX11_point 12 = .ok (.ifCond .eq 10, 3) := by decide +kernel
theorem dX11_point_15 : decode cX11_point 15 = .ok (.iload_n 2, 1) := by decide +kernel
theorem dX11_point_16 : decode cX11_point 16 = .ok (.bipush 100, 2) := by decide +kernel
theorem dX11_point_18 : decode cX11_point 18 = .ok (.irem, 1) := by decide +kernel
theorem dX11_point_19 : decode cX11_point 19 = .ok (.ifCond .ne 10, 3) := by decide +kernel
theorem dX11_point_22 : decode cX11_point 22 = .ok (.aload_n 0, 1) := by decide +kernel
theorem dX11_point_23 : decode cX11_point 23 = .ok (.bipush (-4), 2) := by decide +kernel
theorem dX11_point_25 : decode cX11_point 25 = .ok (.invokevirtual 66, 3) := by decide +kernel
theorem dX11_point_28 : decode cX11_point 28 = .ok (.ireturn, 1) := by decide +kernel
theorem dX11_point_29 : decode cX11_point 29 = .ok (.iload_n 1, 1) := by decide +kernel
theorem dX11_point_30 : decode cX11_point 30 = .ok (.sipush 9999, 3) := by decide +kernel
theorem dX11_point_33 : decode cX11_point 33 = .ok (.if_icmp .gt 22, 3) := by decide +kernel
theorem dX11_point_36 : decode cX11_point 36 = .ok (.iload_n 2, 1) := by decide +kernel
theorem dX11_point_37 : decode cX11_point 37 = .ok (.sipush 9999, 3) := by decide +kernel
theorem dX11_point_40 : decode cX11_point 40 = .ok (.if_icmp .gt 15, 3) := by decide +kernel
theorem dX11_point_43 : decode cX11_point 43 = .ok (.aload_n 0, 1) := by decide +kernel
theorem dX11_point_44 : decode cX11_point 44 = .ok (.getfield 26, 3) := by decide +kernel
theorem dX11_point_47 : decode cX11_point 47 = .ok (.getfield 189, 3) := by decide +kernel
theorem dX11_point_50 : decode cX11_point 50 = .ok (.bipush 10, 2) := by decide +kernel
theorem dX11_point_52 : decode cX11_point 52 = .ok (.if_icmp .lt 10, 3) := by decide +kernel
theorem dX11_point_55 : decode cX11_point 55 = .ok (.aload_n 0, 1) := by decide +kernel
theorem dX11_point_56 : decode cX11_point 56 = .ok (.bipush (-6), 2) := by decide +kernel
theorem dX11_point_58 : decode cX11_point 58 = .ok (.invokevirtual 66, 3) := by decide +kernel
theorem dX11_point_61 : decode cX11_point 61 = .ok (.ireturn, 1) := by decide +kernel
theorem dX11_point_62 : decode cX11_point 62 = .ok (.aload_n 0, 1) := by decide +kernel
theorem dX11_point_63 : decode cX11_point 63 = .ok (.getfield 26, 3) := by decide +kernel
theorem dX11_point_66 : decode cX11_point 66 = .ok (.iload_n 1, 1) := by decide +kernel
theorem dX11_point_67 : decode cX11_point 67 = .ok (.iload_n 2, 1) := by decide +kernel
theorem dX11_point_68 : decode cX11_point 68 = .ok (.invokevirtual 192, 3) := by decide +kernel
theorem dX11_point_71 : decode cX11_point 71 = .ok (.aload_n 0, 1) := by decide +kernel
theorem dX11_point_72 : decode cX11_point 72 = .ok (.getfield 26, 3) := by decide +kernel
theorem dX11_point_75 : decode cX11_point 75 = .ok (.getfield 189, 3) := by decide +kernel
theorem dX11_point_78 : decode cX11_point 78 = .ok (.iconst 1, 1) := by decide +kernel
theorem dX11_point_79 : decode cX11_point 79 = .ok (.isub, 1) := by decide +kernel
theorem dX11_point_80 : decode cX11_point 80 = .ok (.ireturn, 1) := by decide +kernel
theorem dX11_colour_0 : decode cX11_colour 0 = .ok (.aload_n 0, 1) := by decide +kernel
theorem dX11_colour_1 : decode cX11_colour 1 = .ok (.getfield 26, 3) := by decide +kernel
theorem dX11_colour_4 : decode cX11_colour 4 = .ok (.iload_n 1, 1) := by decide +kernel
theorem dX11_colour_5 : decode cX11_colour 5 = .ok (.invokevirtual 196, 3) := by decide +kernel
theorem dX11_colour_8 : decode cX11_colour 8 = .ok (.ifCond .ne 9, 3) := by decide +kernel
theorem dX11_colour_11 : decode cX11_colour 11 = .ok (.aload_n 0, 1) := by decide +kernel
theorem dX11_colour_12 : decode cX11_colour 12 = .ok (.iconst (-1), 1) := by decide +kernel
theorem dX11_colour_13 : decode cX11_colour 13 = .ok (.invokevirtual 66, 3) := by decide +kernel
theorem dX11_colour_16 : decode cX11_colour 16 = .ok (.ireturn, 1) := by decide +kernel
theorem dX11_colour_17 : decode cX11_colour 17 = .ok (.aload_n 0, 1) := by decide +kernel
theorem dX11_colour_18 : decode cX11_colour 18 = .ok (.getfield 26, 3) := by decide +kernel
theorem dX11_colour_21 : decode cX11_colour 21 = .ok (.getfield 199, 3) := by decide +kernel
theorem dX11_colour_24 : decode cX11_colour 24 = .ok (.iload_n 1, 1) := by decide +kernel
theorem dX11_colour_25 : decode cX11_colour 25 = .ok (.aaload, 1) := by decide +kernel
theorem dX11_colour_26 : decode cX11_colour 26 = .ok (.astore_n 3, 1) := by decide +kernel
theorem dX11_colour_27 : decode cX11_colour 27 = .ok (.iload_n 2, 1) := by decide +kernel
theorem dX11_colour_28 : decode cX11_colour 28 = .ok (.tableswitch 56 0 2 #[28, 34, 45], 28) := by decide +kernel
theorem dX11_colour_56 : decode cX11_colour 56 = .ok (.aload_n 3, 1) := by decide +kernel
theorem dX11_colour_57 : decode cX11_colour 57 = .ok (.iconst 0, 1) := by decide +kernel
theorem dX11_colour_58 : decode cX11_colour 58 = .ok (.invokevirtual 203, 3) := by decide +kernel
theorem dX11_colour_61 : decode cX11_colour 61 = .ok (.ireturn, 1) := by decide +kernel
theorem dX11_colour_62 : decode cX11_colour 62 = .ok (.aload_n 3, 1) := by decide +kernel
theorem dX11_colour_63 : decode cX11_colour 63 = .ok (.getfield 209, 3) := by decide +kernel
theorem dX11_colour_66 : decode cX11_colour 66 = .ok (.invokevirtual 213, 3) := by decide +kernel
theorem dX11_colour_69 : decode cX11_colour 69 = .ok (.bipush 100, 2) := by decide +kernel
theorem dX11_colour_71 : decode cX11_colour 71 = .ok (.iadd, 1) := by decide +kernel
theorem dX11_colour_72 : decode cX11_colour 72 = .ok (.ireturn, 1) := by decide +kernel
theorem dX11_colour_73 : decode cX11_colour 73 = .ok (.aload_n 3, 1) := by decide +kernel
theorem dX11_colour_74 : decode cX11_colour 74 = .ok (.getfield 216, 3) := by decide +kernel
theorem dX11_colour_77 : decode cX11_colour 77 = .ok (.invokevirtual 213, 3) := by decide +kernel
theorem dX11_colour_80 : decode cX11_colour 80 = .ok (.bipush 100, 2) := by decide +kernel
theorem dX11_colour_82 : decode cX11_colour 82 = .ok (.iadd, 1) := by decide +kernel
theorem dX11_colour_83 : decode cX11_colour 83 = .ok (.ireturn, 1) := by decide +kernel
theorem dX11_colour_84 : decode cX11_colour 84 = .ok (.aload_n 0, 1) := by decide +kernel
theorem dX11_colour_85 : decode cX11_colour 85 = .ok (.bipush (-2), 2) := by decide +kernel
theorem dX11_colour_87 : decode cX11_colour 87 = .ok (.invokevirtual 66, 3) := by decide +kernel
theorem dX11_colour_90 : decode cX11_colour 90 = .ok (.ireturn, 1) := by decide +kernel
theorem dX11_triangle_0 : decode cX11_triangle 0 = .ok (.iload_n 1, 1) := by decide +kernel
theorem dX11_triangle_1 : decode cX11_triangle 1 = .ok (.invokestatic 219, 3) := by decide +kernel
theorem dX11_triangle_4 : decode cX11_triangle 4 = .ok (.ifCond .ne 10, 3) := by decide +kernel
theorem dX11_triangle_7 : decode cX11_triangle 7 = .ok (.aload_n 0, 1) := by decide +kernel
theorem dX11_triangle_8 : decode cX11_triangle 8 = .ok (.bipush (-2), 2) := by decide +kernel
theorem dX11_triangle_10 : decode cX11_triangle 10 = .ok (.invokevirtual 66, 3) := by decide +kernel
theorem dX11_triangle_13 : decode cX11_triangle 13 = .ok (.ireturn, 1) := by decide +kernel
theorem dX11_triangle_14 : decode cX11_triangle 14 = .ok (.aload_n 0, 1) := by decide +kernel
theorem dX11_triangle_15 : decode cX11_triangle 15 = .ok (.getfield 26, 3) := by decide +kernel
theorem dX11_triangle_18 : decode cX11_triangle 18 = .ok (.getfield 189, 3) := by decide +kernel
theorem dX11_triangle_21 : decode cX11_triangle 21 = .ok (.iload_n 2, 1) := by decide +kernel
theorem dX11_triangle_22 : decode cX11_triangle 22 = .ok (.iload_n 3, 1) := by decide +kernel
theorem dX11_triangle_23 : decode cX11_triangle 23 = .ok (.iload 4, 2) := by decide +kernel
theorem dX11_triangle_25 : decode cX11_triangle 25 = .ok (.invokestatic 224, 3) := by decide +kernel
theorem dX11_triangle_28 : decode cX11_triangle 28 = .ok (.ifCond .ne 9, 3) := by decide +kernel
theorem dX11_triangle_31 : decode cX11_triangle 31 = .ok (.aload_n 0, 1) := by decide +kernel
theorem dX11_triangle_32 : decode cX11_triangle 32 = .ok (.iconst (-1), 1) := by decide +kernel
theorem dX11_triangle_33 : decode cX11_triangle 33 = .ok (.invokevirtual 66, 3) := by decide +kernel
theorem dX11_triangle_36 : decode cX11_triangle 36 = .ok (.ireturn, 1) := by decide +kernel
theorem dX11_triangle_37 : decode cX11_triangle 37 = .ok (.aload_n 0, 1) := by decide +kernel
theorem dX11_triangle_38 : decode cX11_triangle 38 = .ok (.getfield 26, 3) := by decide +kernel
theorem dX11_triangle_41 : decode cX11_triangle 41 = .ok (.getfield 228, 3) := by decide +kernel
theorem dX11_triangle_44 : decode cX11_triangle 44 = .ok (.bipush 10, 2) := by decide +kernel
theorem dX11_triangle_46 : decode cX11_triangle 46 = .ok (.if_icmp .lt 10, 3) := by decide +kernel
theorem dX11_triangle_49 : decode cX11_triangle 49 = .ok (.aload_n 0, 1) := by decide +kernel
theorem dX11_triangle_50 : decode cX11_triangle 50 = .ok (.bipush (-6), 2) := by decide +kernel
theorem dX11_triangle_52 : decode cX11_triangle 52 = .ok (.invokevirtual 66, 3) := by decide +kernel
theorem dX11_triangle_55 : decode cX11_triangle 55 = .ok (.ireturn, 1) := by decide +kernel
theorem dX11_triangle_56 : decode cX11_triangle 56 = .ok (.aload_n 0, 1) := by decide +kernel
theorem dX11_triangle_57 : decode cX11_triangle 57 = .ok (.getfield 26, 3) := by decide +kernel
theorem dX11_triangle_60 : decode cX11_triangle 60 = .ok (.iload_n 1, 1) := by decide +kernel
theorem dX11_triangle_61 : decode cX11_triangle 61 = .ok (.iload_n 2, 1) := by decide +kernel
theorem dX11_triangle_62 : decode cX11_triangle 62 = .ok (.iload_n 3, 1) := by decide +kernel
theorem dX11_triangle_63 : decode cX11_triangle 63 = .ok (.iload 4, 2) := by decide +kernel
theorem dX11_triangle_65 : decode cX11_triangle 65 = .ok (.invokevirtual 231, 3) := by decide +kernel
theorem dX11_triangle_68 : decode cX11_triangle 68 = .ok (.aload_n 0, 1) := by decide +kernel
theorem dX11_triangle_69 : decode cX11_triangle 69 = .ok (.getfield 26, 3) := by decide +kernel
theorem dX11_triangle_72 : decode cX11_triangle 72 = .ok (.getfield 228, 3) := by decide +kernel
theorem dX11_triangle_75 : decode cX11_triangle 75 = .ok (.iconst 1, 1) := by decide +kernel
theorem dX11_triangle_76 : decode cX11_triangle 76 = .ok (.isub, 1) := by decide +kernel
theorem dX11_triangle_77 : decode cX11_triangle 77 = .ok (.ireturn, 1) := by decide +kernel
theorem dX11_tri_0 : decode cX11_tri 0 = .ok (.aload_n 0, 1) := by decide +kernel
theorem dX11_tri_1 : decode cX11_tri 1 = .ok (.getfield 26, 3) := by decide +kernel
theorem dX11_tri_4 : decode cX11_tri 4 = .ok (.iload_n 1, 1) := by decide +kernel
theorem dX11_tri_5 : decode cX11_tri 5 = .ok (.invokevirtual 235, 3) := by decide +kernel
theorem dX11_tri_8 : decode cX11_tri 8 = .ok (.ifCond .ne 9, 3) := by decide +kernel
theorem dX11_tri_11 : decode cX11_tri 11 = .ok (.aload_n 0, 1) := by decide +kernel
theorem dX11_tri_12 : decode cX11_tri 12 = .ok (.iconst (-1), 1) := by decide +kernel
theorem dX11_tri_13 : decode cX11_tri 13 = .ok (.invokevirtual 66, 3) := by decide +kernel
theorem dX11_tri_16 : decode cX11_tri 16 = .ok (.ireturn, 1) := by decide +kernel
theorem dX11_tri_17 : decode cX11_tri 17 = .ok (.aload_n 0, 1) := by decide +kernel
theorem dX11_tri_18 : decode cX11_tri 18 = .ok (.getfield 26, 3) := by decide +kernel
theorem dX11_tri_21 : decode cX11_tri 21 = .ok (.getfield 238, 3) := by decide +kernel
theorem dX11_tri_24 : decode cX11_tri 24 = .ok (.iload_n 1, 1) := by decide +kernel
theorem dX11_tri_25 : decode cX11_tri 25 = .ok (.aaload, 1) := by decide +kernel
theorem dX11_tri_26 : decode cX11_tri 26 = .ok (.astore_n 3, 1) := by decide +kernel
theorem dX11_tri_27 : decode cX11_tri 27 = .ok (.iload_n 2, 1) := by decide +kernel
theorem dX11_tri_28 : decode cX11_tri 28 = .ok (.tableswitch 93 0 6 #[44, 49, 54, 59, 64, 69, 82], 44) := by decide +kernel
theorem dX11_tri_72 : decode cX11_tri 72 = .ok (.aload_n 3, 1) := by decide +kernel
theorem dX11_tri_73 : decode cX11_tri 73 = .ok (.getfield 242, 3) := by decide +kernel
theorem dX11_tri_76 : decode cX11_tri 76 = .ok (.ireturn, 1) := by decide +kernel
theorem dX11_tri_77 : decode cX11_tri 77 = .ok (.aload_n 3, 1) := by decide +kernel
theorem dX11_tri_78 : decode cX11_tri 78 = .ok (.getfield 245, 3) := by decide +kernel
theorem dX11_tri_81 : decode cX11_tri 81 = .ok (.ireturn, 1) := by decide +kernel
theorem dX11_tri_82 : decode cX11_tri 82 = .ok (.aload_n 3, 1) := by decide +kernel
theorem dX11_tri_83 : decode cX11_tri 83 = .ok (.getfield 248, 3) := by decide +kernel
theorem dX11_tri_86 : decode cX11_tri 86 = .ok (.ireturn, 1) := by decide +kernel
theorem dX11_tri_87 : decode cX11_tri 87 = .ok (.aload_n 3, 1) := by decide +kernel
theorem dX11_tri_88 : decode cX11_tri 88 = .ok (.getfield 251, 3) := by decide +kernel
theorem dX11_tri_91 : decode cX11_tri 91 = .ok (.ireturn, 1) := by decide +kernel
theorem dX11_tri_92 : decode cX11_tri 92 = .ok (.aload_n 3, 1) := by decide +kernel
theorem dX11_tri_93 : decode cX11_tri 93 = .ok (.getfield 254, 3) := by decide +kernel
theorem dX11_tri_96 : decode cX11_tri 96 = .ok (.ireturn, 1) := by decide +kernel
theorem dX11_tri_97 : decode cX11_tri 97 = .ok (.aload_n 3, 1) := by decide +kernel
theorem dX11_tri_98 : decode cX11_tri 98 = .ok (.invokevirtual 257, 3) := by decide +kernel
theorem dX11_tri_101 : decode cX11_tri 101 = .ok (.ifCond .eq 7, 3) := by decide +kernel
theorem dX11_tri_104 : decode cX11_tri 104 = .ok (.iconst 1, 1) := by decide +kernel
theorem dX11_tri_105 : decode cX11_tri 105 = .ok (.goto 4, 3) := by decide +kernel
theorem dX11_tri_108 : decode cX11_tri 108 = .ok (.iconst 0, 1) := by decide +kernel
theorem dX11_tri_109 : decode cX11_tri 109 = .ok (.ireturn, 1) := by decide +kernel
theorem dX11_tri_110 : decode cX11_tri 110 = .ok (.aload_n 3, 1) := by decide +kernel
theorem dX11_tri_111 : decode cX11_tri 111 = .ok (.getfield 260, 3) := by decide +kernel
theorem dX11_tri_114 : decode cX11_tri 114 = .ok (.invokevirtual 213, 3) := by decide +kernel
theorem dX11_tri_117 : decode cX11_tri 117 = .ok (.bipush 100, 2) := by decide +kernel
theorem dX11_tri_119 : decode cX11_tri 119 = .ok (.iadd, 1) := by decide +kernel
theorem dX11_tri_120 : decode cX11_tri 120 = .ok (.ireturn, 1) := by decide +kernel
theorem dX11_tri_121 : decode cX11_tri 121 = .ok (.aload_n 0, 1) := by decide +kernel
theorem dX11_tri_122 : decode cX11_tri 122 = .ok (.bipush (-2), 2) := by decide +kernel
theorem dX11_tri_124 : decode cX11_tri 124 = .ok (.invokevirtual 66, 3) := by decide +kernel
theorem dX11_tri_127 : decode cX11_tri 127 = .ok (.ireturn, 1) := by decide +kernel
theorem dX11_area_0 : decode cX11_area 0 = .ok (.aload_n 0, 1) := by decide +kernel
theorem dX11_area_1 : decode cX11_area 1 = .ok (.getfield 26, 3) := by decide +kernel
theorem dX11_area_4 : decode cX11_area 4 = .ok (.iload_n 1, 1) := by decide +kernel
theorem dX11_area_5 : decode cX11_area 5 = .ok (.invokevirtual 235, 3) := by decide +kernel
theorem dX11_area_8 : decode cX11_area 8 = .ok (.ifCond .ne 9, 3) := by decide +kernel
theorem dX11_area_11 : decode cX11_area 11 = .ok (.aload_n 0, 1) := by decide +kernel
theorem dX11_area_12 : decode cX11_area 12 = .ok (.iconst (-1), 1) := by decide +kernel
theorem dX11_area_13 : decode cX11_area 13 = .ok (.invokevirtual 148, 3) := by decide +kernel
theorem dX11_area_16 : decode cX11_area 16 = .ok (.lreturn, 1) := by decide +kernel
theorem dX11_area_17 : decode cX11_area 17 = .ok (.iload_n 2, 1) := by decide +kernel
theorem dX11_area_18 : decode cX11_area 18 = .ok (.invokestatic 145, 3) := by decide +kernel
theorem dX11_area_21 : decode cX11_area 21 = .ok (.ifCond .ne 10, 3) := by decide +kernel
theorem dX11_area_24 : decode cX11_area 24 = .ok (.aload_n 0, 1) := by decide +kernel
theorem dX11_area_25 : decode cX11_area 25 = .ok (.bipush (-2), 2) := by decide +kernel
theorem dX11_area_27 : decode cX11_area 27 = .ok (.invokevirtual 148, 3) := by decide +kernel
theorem dX11_area_30 : decode cX11_area 30 = .ok (.lreturn, 1) := by decide +kernel
theorem dX11_area_31 : decode cX11_area 31 = .ok (.aload_n 0, 1) := by decide +kernel
theorem dX11_area_32 : decode cX11_area 32 = .ok (.getfield 26, 3) := by decide +kernel
theorem dX11_area_35 : decode cX11_area 35 = .ok (.getfield 238, 3) := by decide +kernel
theorem dX11_area_38 : decode cX11_area 38 = .ok (.iload_n 1, 1) := by decide +kernel
theorem dX11_area_39 : decode cX11_area 39 = .ok (.aaload, 1) := by decide +kernel
theorem dX11_area_40 : decode cX11_area 40 = .ok (.getfield 260, 3) := by decide +kernel
theorem dX11_area_43 : decode cX11_area 43 = .ok (.iload_n 2, 1) := by decide +kernel
theorem dX11_area_44 : decode cX11_area 44 = .ok (.invokevirtual 156, 3) := by decide +kernel
theorem dX11_area_47 : decode cX11_area 47 = .ok (.lreturn, 1) := by decide +kernel
theorem dX11_sum_0 : decode cX11_sum 0 = .ok (.aload_n 0, 1) := by decide +kernel
theorem dX11_sum_1 : decode cX11_sum 1 = .ok (.getfield 26, 3) := by decide +kernel
theorem dX11_sum_4 : decode cX11_sum 4 = .ok (.iload_n 1, 1) := by decide +kernel
theorem dX11_sum_5 : decode cX11_sum 5 = .ok (.invokevirtual 263, 3) := by decide +kernel
theorem dX11_sum_8 : decode cX11_sum 8 = .ok (.ifCond .ne 9, 3) := by decide +kernel
theorem dX11_sum_11 : decode cX11_sum 11 = .ok (.aload_n 0, 1) := by decide +kernel
theorem dX11_sum_12 : decode cX11_sum 12 = .ok (.iconst (-1), 1) := by decide +kernel
theorem dX11_sum_13 : decode cX11_sum 13 = .ok (.invokevirtual 148, 3) := by decide +kernel
theorem dX11_sum_16 : decode cX11_sum 16 = .ok (.lreturn, 1) := by decide +kernel
theorem dX11_sum_17 : decode cX11_sum 17 = .ok (.iload_n 2, 1) := by decide +kernel
theorem dX11_sum_18 : decode cX11_sum 18 = .ok (.invokestatic 145, 3) := by decide +kernel
theorem dX11_sum_21 : decode cX11_sum 21 = .ok (.ifCond .ne 10, 3) := by decide +kernel
theorem dX11_sum_24 : decode cX11_sum 24 = .ok (.aload_n 0, 1) := by decide +kernel
theorem dX11_sum_25 : decode cX11_sum 25 = .ok (.bipush (-2), 2) := by decide +kernel
theorem dX11_sum_27 : decode cX11_sum 27 = .ok (.invokevirtual 148, 3) := by decide +kernel
theorem dX11_sum_30 : decode cX11_sum 30 = .ok (.lreturn, 1) := by decide +kernel
theorem dX11_sum_31 : decode cX11_sum 31 = .ok (.aload_n 0, 1) := by decide +kernel
theorem dX11_sum_32 : decode cX11_sum 32 = .ok (.getfield 26, 3) := by decide +kernel
theorem dX11_sum_35 : decode cX11_sum 35 = .ok (.iload_n 1, 1) := by decide +kernel
theorem dX11_sum_36 : decode cX11_sum 36 = .ok (.invokevirtual 266, 3) := by decide +kernel
theorem dX11_sum_39 : decode cX11_sum 39 = .ok (.astore_n 3, 1) := by decide +kernel
theorem dX11_sum_40 : decode cX11_sum 40 = .ok (.aload_n 3, 1) := by decide +kernel
theorem dX11_sum_41 : decode cX11_sum 41 = .ok (.ifnonnull 10, 3) := by decide +kernel
theorem dX11_sum_44 : decode cX11_sum 44 = .ok (.aload_n 0, 1) := by decide +kernel
theorem dX11_sum_45 : decode cX11_sum 45 = .ok (.bipush (-3), 2) := by decide +kernel
theorem dX11_sum_47 : decode cX11_sum 47 = .ok (.invokevirtual 148, 3) := by decide +kernel
theorem dX11_sum_50 : decode cX11_sum 50 = .ok (.lreturn, 1) := by decide +kernel
theorem dX11_sum_51 : decode cX11_sum 51 = .ok (.aload_n 3, 1) := by decide +kernel
theorem dX11_sum_52 : decode cX11_sum 52 = .ok (.iload_n 2, 1) := by decide +kernel
theorem dX11_sum_53 : decode cX11_sum 53 = .ok (.invokevirtual 156, 3) := by decide +kernel
theorem dX11_sum_56 : decode cX11_sum 56 = .ok (.lreturn, 1) := by decide +kernel
theorem dX11_even_0 : decode cX11_even 0 = .ok (.aload_n 0, 1) := by decide +kernel
theorem dX11_even_1 : decode cX11_even 1 = .ok (.getfield 26, 3) := by decide +kernel
theorem dX11_even_4 : decode cX11_even 4 = .ok (.iload_n 1, 1) := by decide +kernel
theorem dX11_even_5 : decode cX11_even 5 = .ok (.invokevirtual 263, 3) := by decide +kernel
theorem dX11_even_8 : decode cX11_even 8 = .ok (.ifCond .ne 9, 3) := by decide +kernel
theorem dX11_even_11 : decode cX11_even 11 = .ok (.aload_n 0, 1) := by decide +kernel
theorem dX11_even_12 : decode cX11_even 12 = .ok (.iconst (-1), 1) := by decide +kernel
theorem dX11_even_13 : decode cX11_even 13 = .ok (.invokevirtual 66, 3) := by decide +kernel
theorem dX11_even_16 : decode cX11_even 16 = .ok (.ireturn, 1) := by decide +kernel
theorem dX11_even_17 : decode cX11_even 17 = .ok (.iload_n 2, 1) := by decide +kernel
theorem dX11_even_18 : decode cX11_even 18 = .ok (.tableswitch 61 0 2 #[26, 35, 44], 26) := by decide +kernel
theorem dX11_even_44 : decode cX11_even 44 = .ok (.aload_n 0, 1) := by decide +kernel
theorem dX11_even_45 : decode cX11_even 45 = .ok (.getfield 26, 3) := by decide +kernel
theorem dX11_even_48 : decode cX11_even 48 = .ok (.iload_n 1, 1) := by decide +kernel
theorem dX11_even_49 : decode cX11_even 49 = .ok (.invokevirtual 269, 3) := by decide +kernel
theorem dX11_even_52 : decode cX11_even 52 = .ok (.ireturn, 1) := by decide +kernel
theorem dX11_even_53 : decode cX11_even 53 = .ok (.aload_n 0, 1) := by decide +kernel
theorem dX11_even_54 : decode cX11_even 54 = .ok (.getfield 26, 3) := by decide +kernel
theorem dX11_even_57 : decode cX11_even 57 = .ok (.iload_n 1, 1) := by decide +kernel
theorem dX11_even_58 : decode cX11_even 58 = .ok (.invokevirtual 272, 3) := by decide +kernel
theorem dX11_even_61 : decode cX11_even 61 = .ok (.ireturn, 1) := by decide +kernel
theorem dX11_even_62 : decode cX11_even 62 = .ok (.aload_n 0, 1) := by decide +kernel
theorem dX11_even_63 : decode cX11_even 63 = .ok (.getfield 26, 3) := by decide +kernel
theorem dX11_even_66 : decode cX11_even 66 = .ok (.iload_n 1, 1) := by decide +kernel
theorem dX11_even_67 : decode cX11_even 67 = .ok (.invokevirtual 275, 3) := by decide +kernel
theorem dX11_even_70 : decode cX11_even 70 = .ok (.ifCond .eq 7, 3) := by decide +kernel
theorem dX11_even_73 : decode cX11_even 73 = .ok (.iconst 1, 1) := by decide +kernel
theorem dX11_even_74 : decode cX11_even 74 = .ok (.goto 4, 3) := by decide +kernel
theorem dX11_even_77 : decode cX11_even 77 = .ok (.iconst 0, 1) := by decide +kernel
theorem dX11_even_78 : decode cX11_even 78 = .ok (.ireturn, 1) := by decide +kernel
theorem dX11_even_79 : decode cX11_even 79 = .ok (.aload_n 0, 1) := by decide +kernel
theorem dX11_even_80 : decode cX11_even 80 = .ok (.bipush (-2), 2) := by decide +kernel
theorem dX11_even_82 : decode cX11_even 82 = .ok (.invokevirtual 66, 3) := by decide +kernel
theorem dX11_even_85 : decode cX11_even 85 = .ok (.ireturn, 1) := by decide +kernel
theorem dX11_bits_0 : decode cX11_bits 0 = .ok (.aload_n 0, 1) := by decide +kernel
theorem dX11_bits_1 : decode cX11_bits 1 = .ok (.getfield 26, 3) := by decide +kernel
theorem dX11_bits_4 : decode cX11_bits 4 = .ok (.iload_n 1, 1) := by decide +kernel
theorem dX11_bits_5 : decode cX11_bits 5 = .ok (.invokevirtual 235, 3) := by decide +kernel
theorem dX11_bits_8 : decode cX11_bits 8 = .ok (.ifCond .ne 9, 3) := by decide +kernel
theorem dX11_bits_11 : decode cX11_bits 11 = .ok (.aload_n 0, 1) := by decide +kernel
theorem dX11_bits_12 : decode cX11_bits 12 = .ok (.iconst (-1), 1) := by decide +kernel
theorem dX11_bits_13 : decode cX11_bits 13 = .ok (.invokevirtual 66, 3) := by decide +kernel
theorem dX11_bits_16 : decode cX11_bits 16 = .ok (.ireturn, 1) := by decide +kernel
theorem dX11_bits_17 : decode cX11_bits 17 = .ok (.aload_n 0, 1) := by decide +kernel
theorem dX11_bits_18 : decode cX11_bits 18 = .ok (.getfield 26, 3) := by decide +kernel
theorem dX11_bits_21 : decode cX11_bits 21 = .ok (.getfield 238, 3) := by decide +kernel
theorem dX11_bits_24 : decode cX11_bits 24 = .ok (.iload_n 1, 1) := by decide +kernel
theorem dX11_bits_25 : decode cX11_bits 25 = .ok (.aaload, 1) := by decide +kernel
theorem dX11_bits_26 : decode cX11_bits 26 = .ok (.getfield 260, 3) := by decide +kernel
theorem dX11_bits_29 : decode cX11_bits 29 = .ok (.invokevirtual 278, 3) := by decide +kernel
theorem dX11_bits_32 : decode cX11_bits 32 = .ok (.invokestatic 282, 3) := by decide +kernel
theorem dX11_bits_35 : decode cX11_bits 35 = .ok (.ireturn, 1) := by decide +kernel
theorem dX11_bitsOf_0 : decode cX11_bitsOf 0 = .ok (.aload_n 0, 1) := by decide +kernel
theorem dX11_bitsOf_1 : decode cX11_bitsOf 1 = .ok (.getfield 26, 3) := by decide +kernel
theorem dX11_bitsOf_4 : decode cX11_bitsOf 4 = .ok (.iload_n 1, 1) := by decide +kernel
theorem dX11_bitsOf_5 : decode cX11_bitsOf 5 = .ok (.invokevirtual 263, 3) := by decide +kernel
theorem dX11_bitsOf_8 : decode cX11_bitsOf 8 = .ok (.ifCond .ne 9, 3) := by decide +kernel
theorem dX11_bitsOf_11 : decode cX11_bitsOf 11 = .ok (.aload_n 0, 1) := by decide +kernel
theorem dX11_bitsOf_12 : decode cX11_bitsOf 12 = .ok (.iconst (-1), 1) := by decide +kernel
theorem dX11_bitsOf_13 : decode cX11_bitsOf 13 = .ok (.invokevirtual 66, 3) := by decide +kernel
theorem dX11_bitsOf_16 : decode cX11_bitsOf 16 = .ok (.ireturn, 1) := by decide +kernel
theorem dX11_bitsOf_17 : decode cX11_bitsOf 17 = .ok (.iload_n 2, 1) := by decide +kernel
theorem dX11_bitsOf_18 : decode cX11_bitsOf 18 = .ok (.ifCond .ne 15, 3) := by decide +kernel
theorem dX11_bitsOf_21 : decode cX11_bitsOf 21 = .ok (.aload_n 0, 1) := by decide +kernel
theorem dX11_bitsOf_22 : decode cX11_bitsOf 22 = .ok (.getfield 26, 3) := by decide +kernel
theorem dX11_bitsOf_25 : decode cX11_bitsOf 25 = .ok (.iload_n 1, 1) := by decide +kernel
theorem dX11_bitsOf_26 : decode cX11_bitsOf 26 = .ok (.invokevirtual 288, 3) := by decide +kernel
theorem dX11_bitsOf_29 : decode cX11_bitsOf 29 = .ok (.invokestatic 282, 3) := by decide +kernel
theorem dX11_bitsOf_32 : decode cX11_bitsOf 32 = .ok (.ireturn, 1) := by decide +kernel
theorem dX11_bitsOf_33 : decode cX11_bitsOf 33 = .ok (.iload_n 2, 1) := by decide +kernel
theorem dX11_bitsOf_34 : decode cX11_bitsOf 34 = .ok (.iconst 1, 1) := by decide +kernel
theorem dX11_bitsOf_35 : decode cX11_bitsOf 35 = .ok (.if_icmp .ne 17, 3) := by decide +kernel
theorem dX11_bitsOf_38 : decode cX11_bitsOf 38 = .ok (.aload_n 0, 1) := by decide +kernel
theorem dX11_bitsOf_39 : decode cX11_bitsOf 39 = .ok (.getfield 26, 3) := by decide +kernel
theorem dX11_bitsOf_42 : decode cX11_bitsOf 42 = .ok (.iload_n 1, 1) := by decide +kernel
theorem dX11_bitsOf_43 : decode cX11_bitsOf 43 = .ok (.invokevirtual 288, 3) := by decide +kernel
theorem dX11_bitsOf_46 : decode cX11_bitsOf 46 = .ok (.ldc_w 292, 3) := by decide +kernel
theorem dX11_bitsOf_49 : decode cX11_bitsOf 49 = .ok (.fmul, 1) := by decide +kernel
theorem dX11_bitsOf_50 : decode cX11_bitsOf 50 = .ok (.f2i, 1) := by decide +kernel
theorem dX11_bitsOf_51 : decode cX11_bitsOf 51 = .ok (.ireturn, 1) := by decide +kernel
theorem dX11_bitsOf_52 : decode cX11_bitsOf 52 = .ok (.aload_n 0, 1) := by decide +kernel
theorem dX11_bitsOf_53 : decode cX11_bitsOf 53 = .ok (.bipush (-2), 2) := by decide +kernel
theorem dX11_bitsOf_55 : decode cX11_bitsOf 55 = .ok (.invokevirtual 66, 3) := by decide +kernel
theorem dX11_bitsOf_58 : decode cX11_bitsOf 58 = .ok (.ireturn, 1) := by decide +kernel
theorem dX11_longBits_0 : decode cX11_longBits 0 = .ok (.aload_n 0, 1) := by decide +kernel
theorem dX11_longBits_1 : decode cX11_longBits 1 = .ok (.getfield 26, 3) := by decide +kernel
theorem dX11_longBits_4 : decode cX11_longBits 4 = .ok (.iload_n 1, 1) := by decide +kernel
theorem dX11_longBits_5 : decode cX11_longBits 5 = .ok (.invokevirtual 263, 3) := by decide +kernel
theorem dX11_longBits_8 : decode cX11_longBits 8 = .ok (.ifCond .ne 9, 3) := by decide +kernel
theorem dX11_longBits_11 : decode cX11_longBits 11 = .ok (.aload_n 0, 1) := by decide +kernel
theorem dX11_longBits_12 : decode cX11_longBits 12 = .ok (.iconst (-1), 1) := by decide +kernel
theorem dX11_longBits_13 : decode cX11_longBits 13 = .ok (.invokevirtual 148, 3) := by decide +kernel
theorem dX11_longBits_16 : decode cX11_longBits 16 = .ok (.lreturn, 1) := by decide +kernel
theorem dX11_longBits_17 : decode cX11_longBits 17 = .ok (.aload_n 0, 1) := by decide +kernel
theorem dX11_longBits_18 : decode cX11_longBits 18 = .ok (.getfield 26, 3) := by decide +kernel
theorem dX11_longBits_21 : decode cX11_longBits 21 = .ok (.iload_n 1, 1) := by decide +kernel
theorem dX11_longBits_22 : decode cX11_longBits 22 = .ok (.invokevirtual 293, 3) := by decide +kernel
theorem dX11_longBits_25 : decode cX11_longBits 25 = .ok (.invokestatic 297, 3) := by decide +kernel
theorem dX11_longBits_28 : decode cX11_longBits 28 = .ok (.lreturn, 1) := by decide +kernel
theorem dX11_rack_0 : decode cX11_rack 0 = .ok (.iload_n 1, 1) := by decide +kernel
theorem dX11_rack_1 : decode cX11_rack 1 = .ok (.invokestatic 301, 3) := by decide +kernel
theorem dX11_rack_4 : decode cX11_rack 4 = .ok (.ifCond .ne 9, 3) := by decide +kernel
theorem dX11_rack_7 : decode cX11_rack 7 = .ok (.aload_n 0, 1) := by decide +kernel
theorem dX11_rack_8 : decode cX11_rack 8 = .ok (.iconst (-1), 1) := by decide +kernel
theorem dX11_rack_9 : decode cX11_rack 9 = .ok (.invokevirtual 66, 3) := by decide +kernel
theorem dX11_rack_12 : decode cX11_rack 12 = .ok (.ireturn, 1) := by decide +kernel
theorem dX11_rack_13 : decode cX11_rack 13 = .ok (.iload_n 2, 1) := by decide +kernel
theorem dX11_rack_14 : decode cX11_rack 14 = .ok (.invokestatic 219, 3) := by decide +kernel
theorem dX11_rack_17 : decode cX11_rack 17 = .ok (.ifCond .ne 10, 3) := by decide +kernel
theorem dX11_rack_20 : decode cX11_rack 20 = .ok (.aload_n 0, 1) := by decide +kernel
theorem dX11_rack_21 : decode cX11_rack 21 = .ok (.bipush (-2), 2) := by decide +kernel
theorem dX11_rack_23 : decode cX11_rack 23 = .ok (.invokevirtual 66, 3) := by decide +kernel
theorem dX11_rack_26 : decode cX11_rack 26 = .ok (.ireturn, 1) := by decide +kernel
theorem dX11_rack_27 : decode cX11_rack 27 = .ok (.iload_n 3, 1) := by decide +kernel
theorem dX11_rack_28 : decode cX11_rack 28 = .ok (.bipush 9, 2) := by decide +kernel
theorem dX11_rack_30 : decode cX11_rack 30 = .ok (.if_icmp .le 10, 3) := by decide +kernel
theorem dX11_rack_33 : decode cX11_rack 33 = .ok (.aload_n 0, 1) := by decide +kernel
theorem dX11_rack_34 : decode cX11_rack 34 = .ok (.bipush (-6), 2) := by decide +kernel
theorem dX11_rack_36 : decode cX11_rack 36 = .ok (.invokevirtual 66, 3) := by decide +kernel
theorem dX11_rack_39 : decode cX11_rack 39 = .ok (.ireturn, 1) := by decide +kernel
theorem dX11_rack_40 : decode cX11_rack 40 = .ok (.iload_n 3, 1) := by decide +kernel
theorem dX11_rack_41 : decode cX11_rack 41 = .ok (.ifCond .ge 6, 3) := by decide +kernel
theorem dX11_rack_44 : decode cX11_rack 44 = .ok (.bipush (-14), 2) := by decide +kernel
theorem dX11_rack_46 : decode cX11_rack 46 = .ok (.ireturn, 1) := by decide +kernel
theorem dX11_rack_47 : decode cX11_rack 47 = .ok (.aload_n 0, 1) := by decide +kernel
theorem dX11_rack_48 : decode cX11_rack 48 = .ok (.getfield 46, 3) := by decide +kernel
theorem dX11_rack_51 : decode cX11_rack 51 = .ok (.iload_n 1, 1) := by decide +kernel
theorem dX11_rack_52 : decode cX11_rack 52 = .ok (.aaload, 1) := by decide +kernel
theorem dX11_rack_53 : decode cX11_rack 53 = .ok (.iload_n 2, 1) := by decide +kernel
theorem dX11_rack_54 : decode cX11_rack 54 = .ok (.iload_n 3, 1) := by decide +kernel
theorem dX11_rack_55 : decode cX11_rack 55 = .ok (.invokevirtual 304, 3) := by decide +kernel
theorem dX11_rack_58 : decode cX11_rack 58 = .ok (.iconst 1, 1) := by decide +kernel
theorem dX11_rack_59 : decode cX11_rack 59 = .ok (.ireturn, 1) := by decide +kernel
theorem dX11_racks_0 : decode cX11_racks 0 = .ok (.iload_n 3, 1) := by decide +kernel
theorem dX11_racks_1 : decode cX11_racks 1 = .ok (.iconst (-1), 1) := by decide +kernel
theorem dX11_racks_2 : decode cX11_racks 2 = .ok (.if_icmp .ne 7, 3) := by decide +kernel
theorem dX11_racks_5 : decode cX11_racks 5 = .ok (.iconst 1, 1) := by decide +kernel
theorem dX11_racks_6 : decode cX11_racks 6 = .ok (.goto 4, 3) := by decide +kernel
theorem dX11_racks_9 : decode cX11_racks 9 = .ok (.iconst 0, 1) := by decide +kernel
theorem dX11_racks_10 : decode cX11_racks 10 = .ok (.istore 4, 2) := by decide +kernel
theorem dX11_racks_12 : decode cX11_racks 12 = .ok (.iload_n 1, 1) := by decide +kernel
theorem dX11_racks_13 : decode cX11_racks 13 = .ok (.invokestatic 301, 3) := by decide +kernel
theorem dX11_racks_16 : decode cX11_racks 16 = .ok (.ifCond .eq 19, 3) := by decide +kernel
theorem dX11_racks_19 : decode cX11_racks 19 = .ok (.iload 4, 2) := by decide +kernel
theorem dX11_racks_21 : decode cX11_racks 21 = .ok (.ifCond .ne 20, 3) := by decide +kernel
theorem dX11_racks_24 : decode cX11_racks 24 = .ok (.aload_n 0, 1) := by decide +kernel
theorem dX11_racks_25 : decode cX11_racks 25 = .ok (.getfield 26, 3) := by decide +kernel
theorem dX11_racks_28 : decode cX11_racks 28 = .ok (.iload_n 3, 1) := by decide +kernel
theorem dX11_racks_29 : decode cX11_racks 29 = .ok (.invokevirtual 235, 3) := by decide +kernel
theorem dX11_racks_32 : decode cX11_racks 32 = .ok (.ifCond .ne 9, 3) := by decide +kernel
theorem dX11_racks_35 : decode cX11_racks 35 = .ok (.aload_n 0, 1) := by decide +kernel
theorem dX11_racks_36 : decode cX11_racks 36 = .ok (.iconst (-1), 1) := by decide +kernel
theorem dX11_racks_37 : decode cX11_racks 37 = .ok (.invokevirtual 66, 3) := by decide +kernel
theorem dX11_racks_40 : decode cX11_racks 40 = .ok (.ireturn, 1) := by decide +kernel
theorem dX11_racks_41 : decode cX11_racks 41 = .ok (.aload_n 0, 1) := by decide +kernel
theorem dX11_racks_42 : decode cX11_racks 42 = .ok (.getfield 46, 3) := by decide +kernel
theorem dX11_racks_45 : decode cX11_racks 45 = .ok (.iload_n 1, 1) := by decide +kernel
theorem dX11_racks_46 : decode cX11_racks 46 = .ok (.aaload, 1) := by decide +kernel
theorem dX11_racks_47 : decode cX11_racks 47 = .ok (.astore 5, 2) := by decide +kernel
theorem dX11_racks_49 : decode cX11_racks 49 = .ok (.aload 5, 2) := by decide +kernel
theorem dX11_racks_51 : decode cX11_racks 51 = .ok (.invokevirtual 307, 3) := by decide +kernel
theorem dX11_racks_54 : decode cX11_racks 54 = .ok (.ifCond .eq 6, 3) := by decide +kernel
theorem dX11_racks_57 : decode cX11_racks 57 = .ok (.bipush (-11), 2) := by decide +kernel
theorem dX11_racks_59 : decode cX11_racks 59 = .ok (.ireturn, 1) := by decide +kernel
theorem dX11_racks_60 : decode cX11_racks 60 = .ok (.aload 5, 2) := by decide +kernel
theorem dX11_racks_62 : decode cX11_racks 62 = .ok (.iload_n 2, 1) := by decide +kernel
theorem dX11_racks_63 : decode cX11_racks 63 = .ok (.invokevirtual 310, 3) := by decide +kernel
theorem dX11_racks_66 : decode cX11_racks 66 = .ok (.ifCond .ne 6, 3) := by decide +kernel
theorem dX11_racks_69 : decode cX11_racks 69 = .ok (.bipush (-13), 2) := by decide +kernel
theorem dX11_racks_71 : decode cX11_racks 71 = .ok (.ireturn, 1) := by decide +kernel
theorem dX11_racks_72 : decode cX11_racks 72 = .ok (.iload 4, 2) := by decide +kernel
theorem dX11_racks_74 : decode cX11_racks 74 = .ok (.ifCond .eq 7, 3) := by decide +kernel
theorem dX11_racks_77 : decode cX11_racks 77 = .ok (.aconst_null, 1) := by decide +kernel
theorem dX11_racks_78 : decode cX11_racks 78 = .ok (.goto 12, 3) := by decide +kernel
theorem dX11_racks_81 : decode cX11_racks 81 = .ok (.aload_n 0, 1) := by decide +kernel
theorem dX11_racks_82 : decode cX11_racks 82 = .ok (.getfield 26, 3) := by decide +kernel
theorem dX11_racks_85 : decode cX11_racks 85 = .ok (.getfield 238, 3) := by decide +kernel
theorem dX11_racks_88 : decode cX11_racks 88 = .ok (.iload_n 3, 1) := by decide +kernel
theorem dX11_racks_89 : decode cX11_racks 89 = .ok (.aaload, 1) := by decide +kernel
theorem dX11_racks_90 : decode cX11_racks 90 = .ok (.astore 6, 2) := by decide +kernel
theorem dX11_racks_92 : decode cX11_racks 92 = .ok (.aload 5, 2) := by decide +kernel
theorem dX11_racks_94 : decode cX11_racks 94 = .ok (.aload 6, 2) := by decide +kernel
theorem dX11_racks_96 : decode cX11_racks 96 = .ok (.invokevirtual 313, 3) := by decide +kernel
theorem dX11_racks_99 : decode cX11_racks 99 = .ok (.ifCond .ne 6, 3) := by decide +kernel
theorem dX11_racks_102 : decode cX11_racks 102 = .ok (.bipush (-16), 2) := by decide +kernel
theorem dX11_racks_104 : decode cX11_racks 104 = .ok (.ireturn, 1) := by decide +kernel
theorem dX11_racks_105 : decode cX11_racks 105 = .ok (.aload 5, 2) := by decide +kernel
theorem dX11_racks_107 : decode cX11_racks 107 = .ok (.getfield 317, 3) := by decide +kernel
theorem dX11_racks_110 : decode cX11_racks 110 = .ok (.iload_n 2, 1) := by decide +kernel
theorem dX11_racks_111 : decode cX11_racks 111 = .ok (.aload 6, 2) := by decide +kernel
theorem dX11_racks_113 : decode cX11_racks 113 = .ok (.aastore, 1) := by decide +kernel
theorem dX11_racks_114 : decode cX11_racks 114 = .ok (.iconst 1, 1) := by decide +kernel
theorem dX11_racks_115 : decode cX11_racks 115 = .ok (.ireturn, 1) := by decide +kernel
theorem dX11_racked_0 : decode cX11_racked 0 = .ok (.iload_n 1, 1) := by decide +kernel
theorem dX11_racked_1 : decode cX11_racked 1 = .ok (.invokestatic 301, 3) := by decide +kernel
theorem dX11_racked_4 : decode cX11_racked 4 = .ok (.ifCond .ne 9, 3) := by decide +kernel
theorem dX11_racked_7 : decode cX11_racked 7 = .ok (.aload_n 0, 1) := by decide +kernel
theorem dX11_racked_8 : decode cX11_racked 8 = .ok (.iconst (-1), 1) := by decide +kernel
theorem dX11_racked_9 : decode cX11_racked 9 = .ok (.invokevirtual 66, 3) := by decide +kernel
theorem dX11_racked_12 : decode cX11_racked 12 = .ok (.ireturn, 1) := by decide +kernel
theorem dX11_racked_13 : decode cX11_racked 13 = .ok (.iload_n 3, 1) := by decide +kernel
theorem dX11_racked_14 : decode cX11_racked 14 = .ok (.ifCond .lt 8, 3) := by decide +kernel
theorem dX11_racked_17 : decode cX11_racked 17 = .ok (.iload_n 3, 1) := by decide +kernel
theorem dX11_racked_18 : decode cX11_racked 18 = .ok (.iconst 1, 1) := by decide +kernel
theorem dX11_racked_19 : decode cX11_racked 19 = .ok (.if_icmp .le 10, 3) := by decide +kernel
theorem dX11_racked_22 : decode cX11_racked 22 = .ok (.aload_n 0, 1) := by decide +kernel
theorem dX11_racked_23 : decode cX11_racked 23 = .ok (.bipush (-2), 2) := by decide +kernel
theorem dX11_racked_25 : decode cX11_racked 25 = .ok (.invokevirtual 66, 3) := by decide +kernel
theorem dX11_racked_28 : decode cX11_racked 28 = .ok (.ireturn, 1) := by decide +kernel
theorem dX11_racked_29 : decode cX11_racked 29 = .ok (.aload_n 0, 1) := by decide +kernel
theorem dX11_racked_30 : decode cX11_racked 30 = .ok (.getfield 46, 3) := by decide +kernel
theorem dX11_racked_33 : decode cX11_racked 33 = .ok (.iload_n 1, 1) := by decide +kernel
theorem dX11_racked_34 : decode cX11_racked 34 = .ok (.aaload, 1) := by decide +kernel
theorem dX11_racked_35 : decode cX11_racked 35 = .ok (.astore 4, 2) := by decide +kernel
theorem dX11_racked_37 : decode cX11_racked 37 = .ok (.aload 4, 2) := by decide +kernel
theorem dX11_racked_39 : decode cX11_racked 39 = .ok (.invokevirtual 307, 3) := by decide +kernel
theorem dX11_racked_42 : decode cX11_racked 42 = .ok (.ifCond .eq 6, 3) := by decide +kernel
theorem dX11_racked_45 : decode cX11_racked 45 = .ok (.bipush (-11), 2) := by decide +kernel
theorem dX11_racked_47 : decode cX11_racked 47 = .ok (.ireturn, 1) := by decide +kernel
theorem dX11_racked_48 : decode cX11_racked 48 = .ok (.aload 4, 2) := by decide +kernel
theorem dX11_racked_50 : decode cX11_racked 50 = .ok (.iload_n 2, 1) := by decide +kernel
theorem dX11_racked_51 : decode cX11_racked 51 = .ok (.invokevirtual 310, 3) := by decide +kernel
theorem dX11_racked_54 : decode cX11_racked 54 = .ok (.ifCond .ne 6, 3) := by decide +kernel
theorem dX11_racked_57 : decode cX11_racked 57 = .ok (.bipush (-13), 2) := by decide +kernel
theorem dX11_racked_59 : decode cX11_racked 59 = .ok (.ireturn, 1) := by decide +kernel
theorem dX11_racked_60 : decode cX11_racked 60 = .ok (.aload 4, 2) := by decide +kernel
theorem dX11_racked_62 : decode cX11_racked 62 = .ok (.getfield 317, 3) := by decide +kernel
theorem dX11_racked_65 : decode cX11_racked 65 = .ok (.iload_n 2, 1) := by decide +kernel
theorem dX11_racked_66 : decode cX11_racked 66 = .ok (.aaload, 1) := by decide +kernel
theorem dX11_racked_67 : decode cX11_racked 67 = .ok (.astore 5, 2) := by decide +kernel
theorem dX11_racked_69 : decode cX11_racked 69 = .ok (.aload 5, 2) := by decide +kernel
theorem dX11_racked_71 : decode cX11_racked 71 = .ok (.ifnonnull 6, 3) := by decide +kernel
theorem dX11_racked_74 : decode cX11_racked 74 = .ok (.bipush (-9), 2) := by decide +kernel
theorem dX11_racked_76 : decode cX11_racked 76 = .ok (.ireturn, 1) := by decide +kernel
theorem dX11_racked_77 : decode cX11_racked 77 = .ok (.iload_n 3, 1) := by decide +kernel
theorem dX11_racked_78 : decode cX11_racked 78 = .ok (.ifCond .ne 11, 3) := by decide +kernel
theorem dX11_racked_81 : decode cX11_racked 81 = .ok (.aload 5, 2) := by decide +kernel
theorem dX11_racked_83 : decode cX11_racked 83 = .ok (.getfield 242, 3) := by decide +kernel
theorem dX11_racked_86 : decode cX11_racked 86 = .ok (.goto 14, 3) := by decide +kernel
theorem dX11_racked_89 : decode cX11_racked 89 = .ok (.aload 5, 2) := by decide +kernel
theorem dX11_racked_91 : decode cX11_racked 91 = .ok (.getfield 260, 3) := by decide +kernel
theorem dX11_racked_94 : decode cX11_racked 94 = .ok (.invokevirtual 213, 3) := by decide +kernel
theorem dX11_racked_97 : decode cX11_racked 97 = .ok (.bipush 100, 2) := by decide +kernel
theorem dX11_racked_99 : decode cX11_racked 99 = .ok (.iadd, 1) := by decide +kernel
theorem dX11_racked_100 : decode cX11_racked 100 = .ok (.ireturn, 1) := by decide +kernel
theorem dX11_like_0 : decode cX11_like 0 = .ok (.iload_n 1, 1) := by decide +kernel
theorem dX11_like_1 : decode cX11_like 1 = .ok (.invokestatic 301, 3) := by decide +kernel
theorem dX11_like_4 : decode cX11_like 4 = .ok (.ifCond .eq 10, 3) := by decide +kernel
theorem dX11_like_7 : decode cX11_like 7 = .ok (.iload_n 2, 1) := by decide +kernel
theorem dX11_like_8 : decode cX11_like 8 = .ok (.invokestatic 301, 3) := by decide +kernel
theorem dX11_like_11 : decode cX11_like 11 = .ok (.ifCond .ne 9, 3) := by decide +kernel
theorem dX11_like_14 : decode cX11_like 14 = .ok (.aload_n 0, 1) := by decide +kernel
theorem dX11_like_15 : decode cX11_like 15 = .ok (.iconst (-1), 1) := by decide +kernel
theorem dX11_like_16 : decode cX11_like 16 = .ok (.invokevirtual 66, 3) := by decide +kernel
theorem dX11_like_19 : decode cX11_like 19 = .ok (.ireturn, 1) := by decide +kernel
theorem dX11_like_20 : decode cX11_like 20 = .ok (.aload_n 0, 1) := by decide +kernel
theorem dX11_like_21 : decode cX11_like 21 = .ok (.getfield 46, 3) := by decide +kernel
theorem dX11_like_24 : decode cX11_like 24 = .ok (.iload_n 2, 1) := by decide +kernel
theorem dX11_like_25 : decode cX11_like 25 = .ok (.aaload, 1) := by decide +kernel
theorem dX11_like_26 : decode cX11_like 26 = .ok (.invokevirtual 307, 3) := by decide +kernel
theorem dX11_like_29 : decode cX11_like 29 = .ok (.ifCond .eq 6, 3) := by decide +kernel
theorem dX11_like_32 : decode cX11_like 32 = .ok (.bipush (-11), 2) := by decide +kernel
theorem dX11_like_34 : decode cX11_like 34 = .ok (.ireturn, 1) := by decide +kernel
theorem dX11_like_35 : decode cX11_like 35 = .ok (.aload_n 0, 1) := by decide +kernel
theorem dX11_like_36 : decode cX11_like 36 = .ok (.getfield 46, 3) := by decide +kernel
theorem dX11_like_39 : decode cX11_like 39 = .ok (.iload_n 1, 1) := by decide +kernel
theorem dX11_like_40 : decode cX11_like 40 = .ok (.aaload, 1) := by decide +kernel
theorem dX11_like_41 : decode cX11_like 41 = .ok (.aload_n 0, 1) := by decide +kernel
theorem dX11_like_42 : decode cX11_like 42 = .ok (.getfield 46, 3) := by decide +kernel
theorem dX11_like_45 : decode cX11_like 45 = .ok (.iload_n 2, 1) := by decide +kernel
theorem dX11_like_46 : decode cX11_like 46 = .ok (.aaload, 1) := by decide +kernel
theorem dX11_like_47 : decode cX11_like 47 = .ok (.invokevirtual 320, 3) := by decide +kernel
theorem dX11_like_50 : decode cX11_like 50 = .ok (.aload_n 0, 1) := by decide +kernel
theorem dX11_like_51 : decode cX11_like 51 = .ok (.getfield 46, 3) := by decide +kernel
theorem dX11_like_54 : decode cX11_like 54 = .ok (.iload_n 1, 1) := by decide +kernel
theorem dX11_like_55 : decode cX11_like 55 = .ok (.aaload, 1) := by decide +kernel
theorem dX11_like_56 : decode cX11_like 56 = .ok (.getfield 324, 3) := by decide +kernel
theorem dX11_like_59 : decode cX11_like 59 = .ok (.ireturn, 1) := by decide +kernel
theorem dX11_list_0 : decode cX11_list 0 = .ok (.iload_n 1, 1) := by decide +kernel
theorem dX11_list_1 : decode cX11_list 1 = .ok (.invokestatic 301, 3) := by decide +kernel
theorem dX11_list_4 : decode cX11_list 4 = .ok (.ifCond .ne 9, 3) := by decide +kernel
theorem dX11_list_7 : decode cX11_list 7 = .ok (.aload_n 0, 1) := by decide +kernel
theorem dX11_list_8 : decode cX11_list 8 = .ok (.iconst (-1), 1) := by decide +kernel
theorem dX11_list_9 : decode cX11_list 9 = .ok (.invokevirtual 66, 3) := by decide +kernel
theorem dX11_list_12 : decode cX11_list 12 = .ok (.ireturn, 1) := by decide +kernel
theorem dX11_list_13 : decode cX11_list 13 = .ok (.iload_n 2, 1) := by decide +kernel
theorem dX11_list_14 : decode cX11_list 14 = .ok (.bipush 40, 2) := by decide +kernel
theorem dX11_list_16 : decode cX11_list 16 = .ok (.if_icmp .le 10, 3) := by decide +kernel
theorem dX11_list_19 : decode cX11_list 19 = .ok (.aload_n 0, 1) := by decide +kernel
theorem dX11_list_20 : decode cX11_list 20 = .ok (.bipush (-6), 2) := by decide +kernel
theorem dX11_list_22 : decode cX11_list 22 = .ok (.invokevirtual 66, 3) := by decide +kernel
theorem dX11_list_25 : decode cX11_list 25 = .ok (.ireturn, 1) := by decide +kernel
theorem dX11_list_26 : decode cX11_list 26 = .ok (.iload_n 2, 1) := by decide +kernel
theorem dX11_list_27 : decode cX11_list 27 = .ok (.ifCond .ge 6, 3) := by decide +kernel
theorem dX11_list_30 : decode cX11_list 30 = .ok (.bipush (-14), 2) := by decide +kernel
theorem dX11_list_32 : decode cX11_list 32 = .ok (.ireturn, 1) := by decide +kernel
theorem dX11_list_33 : decode cX11_list 33 = .ok (.aload_n 0, 1) := by decide +kernel
theorem dX11_list_34 : decode cX11_list 34 = .ok (.getfield 52, 3) := by decide +kernel
theorem dX11_list_37 : decode cX11_list 37 = .ok (.iload_n 1, 1) := by decide +kernel
theorem dX11_list_38 : decode cX11_list 38 = .ok (.aaload, 1) := by decide +kernel
theorem dX11_list_39 : decode cX11_list 39 = .ok (.iload_n 2, 1) := by decide +kernel
theorem dX11_list_40 : decode cX11_list 40 = .ok (.invokevirtual 325, 3) := by decide +kernel
theorem dX11_list_43 : decode cX11_list 43 = .ok (.iconst 1, 1) := by decide +kernel
theorem dX11_list_44 : decode cX11_list 44 = .ok (.ireturn, 1) := by decide +kernel
theorem dX11_put_0 : decode cX11_put 0 = .ok (.iload_n 1, 1) := by decide +kernel
theorem dX11_put_1 : decode cX11_put 1 = .ok (.invokestatic 301, 3) := by decide +kernel
theorem dX11_put_4 : decode cX11_put 4 = .ok (.ifCond .ne 9, 3) := by decide +kernel
theorem dX11_put_7 : decode cX11_put 7 = .ok (.aload_n 0, 1) := by decide +kernel
theorem dX11_put_8 : decode cX11_put 8 = .ok (.iconst (-1), 1) := by decide +kernel
theorem dX11_put_9 : decode cX11_put 9 = .ok (.invokevirtual 66, 3) := by decide +kernel
theorem dX11_put_12 : decode cX11_put 12 = .ok (.ireturn, 1) := by decide +kernel
theorem dX11_put_13 : decode cX11_put 13 = .ok (.aload_n 0, 1) := by decide +kernel
theorem dX11_put_14 : decode cX11_put 14 = .ok (.getfield 52, 3) := by decide +kernel
theorem dX11_put_17 : decode cX11_put 17 = .ok (.iload_n 1, 1) := by decide +kernel
theorem dX11_put_18 : decode cX11_put 18 = .ok (.aaload, 1) := by decide +kernel
theorem dX11_put_19 : decode cX11_put 19 = .ok (.astore 4, 2) := by decide +kernel
theorem dX11_put_21 : decode cX11_put 21 = .ok (.aload 4, 2) := by decide +kernel
theorem dX11_put_23 : decode cX11_put 23 = .ok (.invokevirtual 328, 3) := by decide +kernel
theorem dX11_put_26 : decode cX11_put 26 = .ok (.ifCond .eq 6, 3) := by decide +kernel
theorem dX11_put_29 : decode cX11_put 29 = .ok (.bipush (-11), 2) := by decide +kernel
theorem dX11_put_31 : decode cX11_put 31 = .ok (.ireturn, 1) := by decide +kernel
theorem dX11_put_32 : decode cX11_put 32 = .ok (.aload 4, 2) := by decide +kernel
theorem dX11_put_34 : decode cX11_put 34 = .ok (.iload_n 2, 1) := by decide +kernel
theorem dX11_put_35 : decode cX11_put 35 = .ok (.invokevirtual 329, 3) := by decide +kernel
theorem dX11_put_38 : decode cX11_put 38 = .ok (.ifCond .ne 6, 3) := by decide +kernel
theorem dX11_put_41 : decode cX11_put 41 = .ok (.bipush (-13), 2) := by decide +kernel
theorem dX11_put_43 : decode cX11_put 43 = .ok (.ireturn, 1) := by decide +kernel
theorem dX11_put_44 : decode cX11_put 44 = .ok (.aload 4, 2) := by decide +kernel
theorem dX11_put_46 : decode cX11_put 46 = .ok (.getfield 330, 3) := by decide +kernel
theorem dX11_put_49 : decode cX11_put 49 = .ok (.iload_n 2, 1) := by decide +kernel
theorem dX11_put_50 : decode cX11_put 50 = .ok (.iload_n 3, 1) := by decide +kernel
theorem dX11_put_51 : decode cX11_put 51 = .ok (.iastore, 1) := by decide +kernel
theorem dX11_put_52 : decode cX11_put 52 = .ok (.iconst 1, 1) := by decide +kernel
theorem dX11_put_53 : decode cX11_put 53 = .ok (.ireturn, 1) := by decide +kernel
theorem dX11_look_0 : decode cX11_look 0 = .ok (.iload_n 1, 1) := by decide +kernel
theorem dX11_look_1 : decode cX11_look 1 = .ok (.invokestatic 301, 3) := by decide +kernel
theorem dX11_look_4 : decode cX11_look 4 = .ok (.ifCond .ne 9, 3) := by decide +kernel
theorem dX11_look_7 : decode cX11_look 7 = .ok (.aload_n 0, 1) := by decide +kernel
theorem dX11_look_8 : decode cX11_look 8 = .ok (.iconst (-1), 1) := by decide +kernel
theorem dX11_look_9 : decode cX11_look 9 = .ok (.invokevirtual 148, 3) := by decide +kernel
theorem dX11_look_12 : decode cX11_look 12 = .ok (.lreturn, 1) := by decide +kernel
theorem dX11_look_13 : decode cX11_look 13 = .ok (.aload_n 0, 1) := by decide +kernel
theorem dX11_look_14 : decode cX11_look 14 = .ok (.getfield 52, 3) := by decide +kernel
theorem dX11_look_17 : decode cX11_look 17 = .ok (.iload_n 1, 1) := by decide +kernel
theorem dX11_look_18 : decode cX11_look 18 = .ok (.aaload, 1) := by decide +kernel
theorem dX11_look_19 : decode cX11_look 19 = .ok (.astore_n 3, 1) := by decide +kernel
theorem dX11_look_20 : decode cX11_look 20 = .ok (.aload_n 3, 1) := by decide +kernel
theorem dX11_look_21 : decode cX11_look 21 = .ok (.invokevirtual 328, 3) := by decide +kernel
theorem dX11_look_24 : decode cX11_look 24 = .ok (.ifCond .eq 7, 3) := by decide +kernel
theorem dX11_look_27 : decode cX11_look 27 = .ok (.ldc2_w 332, 3) := by decide +kernel
theorem dX11_look_30 : decode cX11_look 30 = .ok (.lreturn, 1) := by decide +kernel
theorem dX11_look_31 : decode cX11_look 31 = .ok (.aload_n 3, 1) := by decide +kernel
theorem dX11_look_32 : decode cX11_look 32 = .ok (.iload_n 2, 1) := by decide +kernel
theorem dX11_look_33 : decode cX11_look 33 = .ok (.invokevirtual 329, 3) := by decide +kernel
theorem dX11_look_36 : decode cX11_look 36 = .ok (.ifCond .ne 7, 3) := by decide +kernel
theorem dX11_look_39 : decode cX11_look 39 = .ok (.ldc2_w 334, 3) := by decide +kernel
theorem dX11_look_42 : decode cX11_look 42 = .ok (.lreturn, 1) := by decide +kernel
theorem dX11_look_43 : decode cX11_look 43 = .ok (.aload_n 3, 1) := by decide +kernel
theorem dX11_look_44 : decode cX11_look 44 = .ok (.getfield 330, 3) := by decide +kernel
theorem dX11_look_47 : decode cX11_look 47 = .ok (.iload_n 2, 1) := by decide +kernel
theorem dX11_look_48 : decode cX11_look 48 = .ok (.iaload, 1) := by decide +kernel
theorem dX11_look_49 : decode cX11_look 49 = .ok (.i2l, 1) := by decide +kernel
theorem dX11_look_50 : decode cX11_look 50 = .ok (.lreturn, 1) := by decide +kernel
theorem dX11_judge_0 : decode cX11_judge 0 = .ok (.iload_n 1, 1) := by decide +kernel
theorem dX11_judge_1 : decode cX11_judge 1 = .ok (.invokestatic 301, 3) := by decide +kernel
theorem dX11_judge_4 : decode cX11_judge 4 = .ok (.ifCond .ne 9, 3) := by decide +kernel
theorem dX11_judge_7 : decode cX11_judge 7 = .ok (.aload_n 0, 1) := by decide +kernel
theorem dX11_judge_8 : decode cX11_judge 8 = .ok (.iconst (-1), 1) := by decide +kernel
theorem dX11_judge_9 : decode cX11_judge 9 = .ok (.invokevirtual 66, 3) := by decide +kernel
theorem dX11_judge_12 : decode cX11_judge 12 = .ok (.ireturn, 1) := by decide +kernel
theorem dX11_judge_13 : decode cX11_judge 13 = .ok (.aload_n 0, 1) := by decide +kernel
theorem dX11_judge_14 : decode cX11_judge 14 = .ok (.getfield 52, 3) := by decide +kernel
theorem dX11_judge_17 : decode cX11_judge 17 = .ok (.iload_n 1, 1) := by decide +kernel
theorem dX11_judge_18 : decode cX11_judge 18 = .ok (.aaload, 1) := by decide +kernel
theorem dX11_judge_19 : decode cX11_judge 19 = .ok (.astore_n 2, 1) := by decide +kernel
theorem dX11_judge_20 : decode cX11_judge 20 = .ok (.aload_n 2, 1) := by decide +kernel
theorem dX11_judge_21 : decode cX11_judge 21 = .ok (.invokevirtual 328, 3) := by decide +kernel
theorem dX11_judge_24 : decode cX11_judge 24 = .ok (.ifCond .eq 6, 3) := by decide +kernel
theorem dX11_judge_27 : decode cX11_judge 27 = .ok (.bipush (-11), 2) := by decide +kernel
theorem dX11_judge_29 : decode cX11_judge 29 = .ok (.ireturn, 1) := by decide +kernel
theorem dX11_judge_30 : decode cX11_judge 30 = .ok (.iconst 0, 1) := by decide +kernel
theorem dX11_judge_31 : decode cX11_judge 31 = .ok (.istore_n 3, 1) := by decide +kernel
theorem dX11_judge_32 : decode cX11_judge 32 = .ok (.iload_n 3, 1) := by decide +kernel
theorem dX11_judge_33 : decode cX11_judge 33 = .ok (.aload_n 2, 1) := by decide +kernel
theorem dX11_judge_34 : decode cX11_judge 34 = .ok (.getfield 336, 3) := by decide +kernel
theorem dX11_judge_37 : decode cX11_judge 37 = .ok (.if_icmp .ge 39, 3) := by decide +kernel
theorem dX11_judge_40 : decode cX11_judge 40 = .ok (.aload_n 0, 1) := by decide +kernel
theorem dX11_judge_41 : decode cX11_judge 41 = .ok (.getfield 10, 3) := by decide +kernel
theorem dX11_judge_44 : decode cX11_judge 44 = .ok (.iload_n 3, 1) := by decide +kernel
theorem dX11_judge_45 : decode cX11_judge 45 = .ok (.invokevirtual 113, 3) := by decide +kernel
theorem dX11_judge_48 : decode cX11_judge 48 = .ok (.ifCond .eq 20, 3) := by decide +kernel
theorem dX11_judge_51 : decode cX11_judge 51 = .ok (.aload_n 2, 1) := by decide +kernel
theorem dX11_judge_52 : decode cX11_judge 52 = .ok (.getfield 330, 3) := by decide +kernel
theorem dX11_judge_55 : decode cX11_judge 55 = .ok (.iload_n 3, 1) := by decide +kernel
theorem dX11_judge_56 : decode cX11_judge 56 = .ok (.iaload, 1) := by decide +kernel
theorem dX11_judge_57 : decode cX11_judge 57 = .ok (.aload_n 0, 1) := by decide +kernel
theorem dX11_judge_58 : decode cX11_judge 58 = .ok (.getfield 10, 3) := by decide +kernel
theorem dX11_judge_61 : decode cX11_judge 61 = .ok (.iload_n 3, 1) := by decide +kernel
theorem dX11_judge_62 : decode cX11_judge 62 = .ok (.invokevirtual 117, 3) := by decide +kernel
theorem dX11_judge_65 : decode cX11_judge 65 = .ok (.if_icmp .eq 5, 3) := by decide +kernel
theorem dX11_judge_68 : decode cX11_judge 68 = .ok (.iload_n 3, 1) := by decide +kernel
theorem dX11_judge_69 : decode cX11_judge 69 = .ok (.ireturn, 1) := by decide +kernel
theorem dX11_judge_70 : decode cX11_judge 70 = .ok (.iinc 3 1, 3) := by decide +kernel
theorem dX11_judge_73 : decode cX11_judge 73 = .ok (.goto (-41), 3) := by decide +kernel
theorem dX11_judge_76 : decode cX11_judge 76 = .ok (.bipush (-9), 2) := by decide +kernel
theorem dX11_judge_78 : decode cX11_judge 78 = .ok (.ireturn, 1) := by decide +kernel
theorem dX11_image_0 : decode cX11_image 0 = .ok (.aload_n 0, 1) := by decide +kernel
theorem dX11_image_1 : decode cX11_image 1 = .ok (.getfield 40, 3) := by decide +kernel
theorem dX11_image_4 : decode cX11_image 4 = .ok (.aload_n 0, 1) := by decide +kernel
theorem dX11_image_5 : decode cX11_image 5 = .ok (.getfield 10, 3) := by decide +kernel
theorem dX11_image_8 : decode cX11_image 8 = .ok (.aload_n 0, 1) := by decide +kernel
theorem dX11_image_9 : decode cX11_image 9 = .ok (.getfield 19, 3) := by decide +kernel
theorem dX11_image_12 : decode cX11_image 12 = .ok (.aload_n 0, 1) := by decide +kernel
theorem dX11_image_13 : decode cX11_image 13 = .ok (.getfield 26, 3) := by decide +kernel
theorem dX11_image_16 : decode cX11_image 16 = .ok (.invokevirtual 337, 3) := by decide +kernel
theorem dX11_image_19 : decode cX11_image 19 = .ok (.aload_n 0, 1) := by decide +kernel
theorem dX11_image_20 : decode cX11_image 20 = .ok (.getfield 26, 3) := by decide +kernel
theorem dX11_image_23 : decode cX11_image 23 = .ok (.getfield 189, 3) := by decide +kernel
theorem dX11_image_26 : decode cX11_image 26 = .ok (.ireturn, 1) := by decide +kernel
theorem dX11_on_0 : decode cX11_on 0 = .ok (.aload_n 0, 1) := by decide +kernel
theorem dX11_on_1 : decode cX11_on 1 = .ok (.getfield 40, 3) := by decide +kernel
theorem dX11_on_4 : decode cX11_on 4 = .ok (.getfield 341, 3) := by decide +kernel
theorem dX11_on_7 : decode cX11_on 7 = .ok (.ifCond .ne 10, 3) := by decide +kernel
theorem dX11_on_10 : decode cX11_on 10 = .ok (.aload_n 0, 1) := by decide +kernel
theorem dX11_on_11 : decode cX11_on 11 = .ok (.bipush (-3), 2) := by decide +kernel
theorem dX11_on_13 : decode cX11_on 13 = .ok (.invokevirtual 66, 3) := by decide +kernel
theorem dX11_on_16 : decode cX11_on 16 = .ok (.ireturn, 1) := by decide +kernel
theorem dX11_on_17 : decode cX11_on 17 = .ok (.aload_n 0, 1) := by decide +kernel
theorem dX11_on_18 : decode cX11_on 18 = .ok (.getfield 40, 3) := by decide +kernel
theorem dX11_on_21 : decode cX11_on 21 = .ok (.aload_n 0, 1) := by decide +kernel
theorem dX11_on_22 : decode cX11_on 22 = .ok (.getfield 10, 3) := by decide +kernel
theorem dX11_on_25 : decode cX11_on 25 = .ok (.aload_n 0, 1) := by decide +kernel
theorem dX11_on_26 : decode cX11_on 26 = .ok (.getfield 19, 3) := by decide +kernel
theorem dX11_on_29 : decode cX11_on 29 = .ok (.aload_n 0, 1) := by decide +kernel
theorem dX11_on_30 : decode cX11_on 30 = .ok (.getfield 26, 3) := by decide +kernel
theorem dX11_on_33 : decode cX11_on 33 = .ok (.invokevirtual 345, 3) := by decide +kernel
theorem dX11_on_36 : decode cX11_on 36 = .ok (.aload_n 0, 1) := by decide +kernel
theorem dX11_on_37 : decode cX11_on 37 = .ok (.getfield 26, 3) := by decide +kernel
theorem dX11_on_40 : decode cX11_on 40 = .ok (.getfield 189, 3) := by decide +kernel
theorem dX11_on_43 : decode cX11_on 43 = .ok (.ireturn, 1) := by decide +kernel
theorem dX11_count_0 : decode cX11_count 0 = .ok (.iload_n 1, 1) := by decide +kernel
theorem dX11_count_1 : decode cX11_count 1 = .ok (.bipush 11, 2) := by decide +kernel
theorem dX11_count_3 : decode cX11_count 3 = .ok (.if_icmp .lt 19, 3) := by decide +kernel
theorem dX11_count_6 : decode cX11_count 6 = .ok (.iload_n 1, 1) := by decide +kernel
theorem dX11_count_7 : decode cX11_count 7 = .ok (.bipush 16, 2) := by decide +kernel
theorem dX11_count_9 : decode cX11_count 9 = .ok (.if_icmp .gt 13, 3) := by decide +kernel
theorem dX11_count_12 : decode cX11_count 12 = .ok (.aload_n 0, 1) := by decide +kernel
theorem dX11_count_13 : decode cX11_count 13 = .ok (.getfield 56, 3) := by decide +kernel
theorem dX11_count_16 : decode cX11_count 16 = .ok (.iload_n 1, 1) := by decide +kernel
theorem dX11_count_17 : decode cX11_count 17 = .ok (.bipush 10, 2) := by decide +kernel
theorem dX11_count_19 : decode cX11_count 19 = .ok (.isub, 1) := by decide +kernel
theorem dX11_count_20 : decode cX11_count 20 = .ok (.iaload, 1) := by decide +kernel
theorem dX11_count_21 : decode cX11_count 21 = .ok (.ireturn, 1) := by decide +kernel
theorem dX11_count_22 : decode cX11_count 22 = .ok (.iload_n 1, 1) := by decide +kernel
theorem dX11_count_23 : decode cX11_count 23 = .ok (.tableswitch 85 0 5 #[37, 45, 53, 61, 69, 77], 37) := by decide +kernel
theorem dX11_count_60 : decode cX11_count 60 = .ok (.aload_n 0, 1) := by decide +kernel
theorem dX11_count_61 : decode cX11_count 61 = .ok (.getfield 10, 3) := by decide +kernel
theorem dX11_count_64 : decode cX11_count 64 = .ok (.getfield 348, 3) := by decide +kernel
theorem dX11_count_67 : decode cX11_count 67 = .ok (.ireturn, 1) := by decide +kernel
theorem dX11_count_68 : decode cX11_count 68 = .ok (.aload_n 0, 1) := by decide +kernel
theorem dX11_count_69 : decode cX11_count 69 = .ok (.getfield 26, 3) := by decide +kernel
theorem dX11_count_72 : decode cX11_count 72 = .ok (.getfield 189, 3) := by decide +kernel
theorem dX11_count_75 : decode cX11_count 75 = .ok (.ireturn, 1) := by decide +kernel
theorem dX11_count_76 : decode cX11_count 76 = .ok (.aload_n 0, 1) := by decide +kernel
theorem dX11_count_77 : decode cX11_count 77 = .ok (.getfield 26, 3) := by decide +kernel
theorem dX11_count_80 : decode cX11_count 80 = .ok (.getfield 228, 3) := by decide +kernel
theorem dX11_count_83 : decode cX11_count 83 = .ok (.ireturn, 1) := by decide +kernel
theorem dX11_count_84 : decode cX11_count 84 = .ok (.aload_n 0, 1) := by decide +kernel
theorem dX11_count_85 : decode cX11_count 85 = .ok (.getfield 33, 3) := by decide +kernel
theorem dX11_count_88 : decode cX11_count 88 = .ok (.getfield 78, 3) := by decide +kernel
theorem dX11_count_91 : decode cX11_count 91 = .ok (.ireturn, 1) := by decide +kernel
theorem dX11_count_92 : decode cX11_count 92 = .ok (.aload_n 0, 1) := by decide +kernel
theorem dX11_count_93 : decode cX11_count 93 = .ok (.getfield 10, 3) := by decide +kernel
theorem dX11_count_96 : decode cX11_count 96 = .ok (.getfield 351, 3) := by decide +kernel
theorem dX11_count_99 : decode cX11_count 99 = .ok (.ireturn, 1) := by decide +kernel
theorem dX11_count_100 : decode cX11_count 100 = .ok (.aload_n 0, 1) := by decide +kernel
theorem dX11_count_101 : decode cX11_count 101 = .ok (.getfield 10, 3) := by decide +kernel
theorem dX11_count_104 : decode cX11_count 104 = .ok (.getfield 354, 3) := by decide +kernel
theorem dX11_count_107 : decode cX11_count 107 = .ok (.ireturn, 1) := by decide +kernel
theorem dX11_count_108 : decode cX11_count 108 = .ok (.bipush (-9), 2) := by decide +kernel
theorem dX11_count_110 : decode cX11_count 110 = .ok (.ireturn, 1) := by decide +kernel
theorem dX11_refuse_0 : decode cX11_refuse 0 = .ok (.iload_n 1, 1) := by decide +kernel
theorem dX11_refuse_1 : decode cX11_refuse 1 = .ok (.ifCond .ge 20, 3) := by decide +kernel
theorem dX11_refuse_4 : decode cX11_refuse 4 = .ok (.iload_n 1, 1) := by decide +kernel
theorem dX11_refuse_5 : decode cX11_refuse 5 = .ok (.bipush (-6), 2) := by decide +kernel
theorem dX11_refuse_7 : decode cX11_refuse 7 = .ok (.if_icmp .lt 14, 3) := by decide +kernel
theorem dX11_refuse_10 : decode cX11_refuse 10 = .ok (.aload_n 0, 1) := by decide +kernel
theorem dX11_refuse_11 : decode cX11_refuse 11 = .ok (.getfield 56, 3) := by decide +kernel
theorem dX11_refuse_14 : decode cX11_refuse 14 = .ok (.iload_n 1, 1) := by decide +kernel
theorem dX11_refuse_15 : decode cX11_refuse 15 = .ok (.ineg, 1) := by decide +kernel
theorem dX11_refuse_16 : decode cX11_refuse 16 = .ok (.dup2, 1) := by decide +kernel
theorem dX11_refuse_17 : decode cX11_refuse 17 = .ok (.iaload, 1) := by decide +kernel
theorem dX11_refuse_18 : decode cX11_refuse 18 = .ok (.iconst 1, 1) := by decide +kernel
theorem dX11_refuse_19 : decode cX11_refuse 19 = .ok (.iadd, 1) := by decide +kernel
theorem dX11_refuse_20 : decode cX11_refuse 20 = .ok (.iastore, 1) := by decide +kernel
theorem dX11_refuse_21 : decode cX11_refuse 21 = .ok (.iload_n 1, 1) := by decide +kernel
theorem dX11_refuse_22 : decode cX11_refuse 22 = .ok (.ireturn, 1) := by decide +kernel
theorem dX11_refuseFar_0 : decode cX11_refuseFar 0 = .ok (.ldc2_w 357, 3) := by decide +kernel
theorem dX11_refuseFar_3 : decode cX11_refuseFar 3 = .ok (.aload_n 0, 1) := by decide +kernel
theorem dX11_refuseFar_4 : decode cX11_refuseFar 4 = .ok (.iload_n 1, 1) := by decide +kernel
theorem dX11_refuseFar_5 : decode cX11_refuseFar 5 = .ok (.invokevirtual 66, 3) := by decide +kernel
theorem dX11_refuseFar_8 : decode cX11_refuseFar 8 = .ok (.i2l, 1) := by decide +kernel
theorem dX11_refuseFar_9 : decode cX11_refuseFar 9 = .ok (.lsub, 1) := by decide +kernel
theorem dX11_refuseFar_10 : decode cX11_refuseFar 10 = .ok (.lreturn, 1) := by decide +kernel
theorem dX11_isWay_0 : decode cX11_isWay 0 = .ok (.iload_n 0, 1) := by decide +kernel
theorem dX11_isWay_1 : decode cX11_isWay 1 = .ok (.ifCond .lt 12, 3) := by decide +kernel
theorem dX11_isWay_4 : decode cX11_isWay 4 = .ok (.iload_n 0, 1) := by decide +kernel
theorem dX11_isWay_5 : decode cX11_isWay 5 = .ok (.iconst 4, 1) := by decide +kernel
theorem dX11_isWay_6 : decode cX11_isWay 6 = .ok (.if_icmp .ge 7, 3) := by decide +kernel
theorem dX11_isWay_9 : decode cX11_isWay 9 = .ok (.iconst 1, 1) := by decide +kernel
theorem dX11_isWay_10 : decode cX11_isWay 10 = .ok (.goto 4, 3) := by decide +kernel
theorem dX11_isWay_13 : decode cX11_isWay 13 = .ok (.iconst 0, 1) := by decide +kernel
theorem dX11_isWay_14 : decode cX11_isWay 14 = .ok (.ireturn, 1) := by decide +kernel
theorem dX11_isPartOfFraction_0 : decode cX11_isPartOfFraction 0 = .ok (.iload_n 0, 1) := by decide +kernel
theorem dX11_isPartOfFraction_1 : decode cX11_isPartOfFraction 1 = .ok (.ifCond .eq 8, 3) := by decide +kernel
theorem dX11_isPartOfFraction_4 : decode cX11_isPartOfFraction 4 = .ok (.iload_n 0, 1) := by decide +kernel
theorem dX11_isPartOfFraction_5 : decode cX11_isPartOfFraction 5 = .ok (.iconst 1, 1) := by decide +kernel
theorem dX11_isPartOfFraction_6 : decode cX11_isPartOfFraction 6 = .ok (.if_icmp .ne 7, 3) := by decide +kernel
theorem dX11_isPartOfFraction_9 : decode cX11_isPartOfFraction 9 = .ok (.iconst 1, 1) := by decide +kernel
theorem dX11_isPartOfFraction_10 : decode cX11_isPartOfFraction 10 = .ok (.goto 4, 3) := by decide +kernel
theorem dX11_isPartOfFraction_13 : decode cX11_isPartOfFraction 13 = .ok (.iconst 0, 1) := by decide +kernel
theorem dX11_isPartOfFraction_14 : decode cX11_isPartOfFraction 14 = .ok (.ireturn, 1) := by decide +kernel
theorem dX11_isRow_0 : decode cX11_isRow 0 = .ok (.iload_n 0, 1) := by decide +kernel
theorem dX11_isRow_1 : decode cX11_isRow 1 = .ok (.ifCond .lt 12, 3) := by decide +kernel
theorem dX11_isRow_4 : decode cX11_isRow 4 = .ok (.iload_n 0, 1) := by decide +kernel
theorem dX11_isRow_5 : decode cX11_isRow 5 = .ok (.iconst 3, 1) := by decide +kernel
theorem dX11_isRow_6 : decode cX11_isRow 6 = .ok (.if_icmp .ge 7, 3) := by decide +kernel
theorem dX11_isRow_9 : decode cX11_isRow 9 = .ok (.iconst 1, 1) := by decide +kernel
theorem dX11_isRow_10 : decode cX11_isRow 10 = .ok (.goto 4, 3) := by decide +kernel
theorem dX11_isRow_13 : decode cX11_isRow 13 = .ok (.iconst 0, 1) := by decide +kernel
theorem dX11_isRow_14 : decode cX11_isRow 14 = .ok (.ireturn, 1) := by decide +kernel
theorem dX11_faultOfLetters_0 : decode cX11_faultOfLetters 0 = .ok (.aload_n 0, 1) := by decide +kernel
theorem dX11_faultOfLetters_1 : decode cX11_faultOfLetters 1 = .ok (.getfield 33, 3) := by decide +kernel
theorem dX11_faultOfLetters_4 : decode cX11_faultOfLetters 4 = .ok (.invokevirtual 359, 3) := by decide +kernel
theorem dX11_faultOfLetters_7 : decode cX11_faultOfLetters 7 = .ok (.istore_n 1, 1) := by decide +kernel
theorem dX11_faultOfLetters_8 : decode cX11_faultOfLetters 8 = .ok (.iload_n 1, 1) := by decide +kernel
theorem dX11_faultOfLetters_9 : decode cX11_faultOfLetters 9 = .ok (.ifCond .lt 9, 3) := by decide +kernel
theorem dX11_faultOfLetters_12 : decode cX11_faultOfLetters 12 = .ok (.sipush (-1000), 3) := by decide +kernel
theorem dX11_faultOfLetters_15 : decode cX11_faultOfLetters 15 = .ok (.iload_n 1, 1) := by decide +kernel
theorem dX11_faultOfLetters_16 : decode cX11_faultOfLetters 16 = .ok (.isub, 1) := by decide +kernel
theorem dX11_faultOfLetters_17 : decode cX11_faultOfLetters 17 = .ok (.ireturn, 1) := by decide +kernel
theorem dX11_faultOfLetters_18 : decode cX11_faultOfLetters 18 = .ok (.aload_n 0, 1) := by decide +kernel
theorem dX11_faultOfLetters_19 : decode cX11_faultOfLetters 19 = .ok (.getfield 26, 3) := by decide +kernel
theorem dX11_faultOfLetters_22 : decode cX11_faultOfLetters 22 = .ok (.getfield 189, 3) := by decide +kernel
theorem dX11_faultOfLetters_25 : decode cX11_faultOfLetters 25 = .ok (.istore_n 2, 1) := by decide +kernel
theorem dX11_faultOfLetters_26 : decode cX11_faultOfLetters 26 = .ok (.aload_n 0, 1) := by decide +kernel
theorem dX11_faultOfLetters_27 : decode cX11_faultOfLetters 27 = .ok (.getfield 26, 3) := by decide +kernel
theorem dX11_faultOfLetters_30 : decode cX11_faultOfLetters 30 = .ok (.getfield 228, 3) := by decide +kernel
theorem dX11_faultOfLetters_33 : decode cX11_faultOfLetters 33 = .ok (.istore_n 3, 1) := by decide +kernel
theorem dX11_faultOfLetters_34 : decode cX11_faultOfLetters 34 = .ok (.iconst 0, 1) := by decide +kernel
theorem dX11_faultOfLetters_35 : decode cX11_faultOfLetters 35 = .ok (.istore 4, 2) := by decide +kernel
theorem dX11_faultOfLetters_37 : decode cX11_faultOfLetters 37 = .ok (.iload 4, 2) := by decide +kernel
theorem dX11_faultOfLetters_39 : decode cX11_faultOfLetters 39 = .ok (.aload_n 0, 1) := by decide +kernel
theorem dX11_faultOfLetters_40 : decode cX11_faultOfLetters 40 = .ok (.getfield 33, 3) := by decide +kernel
theorem dX11_faultOfLetters_43 : decode cX11_faultOfLetters 43 = .ok (.getfield 86, 3) := by decide +kernel
theorem dX11_faultOfLetters_46 : decode cX11_faultOfLetters 46 = .ok (.if_icmp .ge 83, 3) := by decide +kernel
theorem dX11_faultOfLetters_49 : decode cX11_faultOfLetters 49 = .ok (.aload_n 0, 1) := by decide +kernel
theorem dX11_faultOfLetters_50 : decode cX11_faultOfLetters 50 = .ok (.getfield 33, 3) := by decide +kernel
theorem dX11_faultOfLetters_53 : decode cX11_faultOfLetters 53 = .ok (.getfield 89, 3) := by decide +kernel
theorem dX11_faultOfLetters_56 : decode cX11_faultOfLetters 56 = .ok (.iload 4, 2) := by decide +kernel
theorem dX11_faultOfLetters_58 : decode cX11_faultOfLetters 58 = .ok (.iaload, 1) := by decide +kernel
theorem dX11_faultOfLetters_59 : decode cX11_faultOfLetters 59 = .ok (.istore 5, 2) := by decide +kernel
theorem dX11_faultOfLetters_61 : decode cX11_faultOfLetters 61 = .ok (.aload_n 0, 1) := by decide +kernel
theorem dX11_faultOfLetters_62 : decode cX11_faultOfLetters 62 = .ok (.iload 5, 2) := by decide +kernel
theorem dX11_faultOfLetters_64 : decode cX11_faultOfLetters 64 = .ok (.iload_n 2, 1) := by decide +kernel
theorem dX11_faultOfLetters_65 : decode cX11_faultOfLetters 65 = .ok (.iload_n 3, 1) := by decide +kernel
theorem dX11_faultOfLetters_66 : decode cX11_faultOfLetters 66 = .ok (.invokevirtual 362, 3) := by decide +kernel
theorem dX11_faultOfLetters_69 : decode cX11_faultOfLetters 69 = .ok (.ifCond .ne 10, 3) := by decide +kernel
theorem dX11_faultOfLetters_72 : decode cX11_faultOfLetters 72 = .ok (.sipush (-2000), 3) := by decide +kernel
theorem dX11_faultOfLetters_75 : decode cX11_faultOfLetters 75 = .ok (.iload 5, 2) := by decide +kernel
theorem dX11_faultOfLetters_77 : decode cX11_faultOfLetters 77 = .ok (.isub, 1) := by decide +kernel
theorem dX11_faultOfLetters_78 : decode cX11_faultOfLetters 78 = .ok (.ireturn, 1) := by decide +kernel
theorem dX11_faultOfLetters_79 : decode cX11_faultOfLetters 79 = .ok (.iload_n 2, 1) := by decide +kernel
theorem dX11_faultOfLetters_80 : decode cX11_faultOfLetters 80 = .ok (.aload_n 0, 1) := by decide +kernel
theorem dX11_faultOfLetters_81 : decode cX11_faultOfLetters 81 = .ok (.getfield 33, 3) := by decide +kernel
theorem dX11_faultOfLetters_84 : decode cX11_faultOfLetters 84 = .ok (.iload 5, 2) := by decide +kernel
theorem dX11_faultOfLetters_86 : decode cX11_faultOfLetters 86 = .ok (.invokevirtual 365, 3) := by decide +kernel
theorem dX11_faultOfLetters_89 : decode cX11_faultOfLetters 89 = .ok (.bipush 112, 2) := by decide +kernel
theorem dX11_faultOfLetters_91 : decode cX11_faultOfLetters 91 = .ok (.if_icmp .ne 7, 3) := by decide +kernel
theorem dX11_faultOfLetters_94 : decode cX11_faultOfLetters 94 = .ok (.iconst 1, 1) := by decide +kernel
theorem dX11_faultOfLetters_95 : decode cX11_faultOfLetters 95 = .ok (.goto 4, 3) := by decide +kernel
theorem dX11_faultOfLetters_98 : decode cX11_faultOfLetters 98 = .ok (.iconst 0, 1) := by decide +kernel
theorem dX11_faultOfLetters_99 : decode cX11_faultOfLetters 99 = .ok (.iadd, 1) := by decide +kernel
theorem dX11_faultOfLetters_100 : decode cX11_faultOfLetters 100 = .ok (.istore_n 2, 1) := by decide +kernel
theorem dX11_faultOfLetters_101 : decode cX11_faultOfLetters 101 = .ok (.iload_n 3, 1) := by decide +kernel
theorem dX11_faultOfLetters_102 : decode cX11_faultOfLetters 102 = .ok (.aload_n 0, 1) := by decide +kernel
theorem dX11_faultOfLetters_103 : decode cX11_faultOfLetters 103 = .ok (.getfield 33, 3) := by decide +kernel
theorem dX11_faultOfLetters_106 : decode cX11_faultOfLetters 106 = .ok (.iload 5, 2) := by decide +kernel
theorem dX11_faultOfLetters_108 : decode cX11_faultOfLetters 108 = .ok (.invokevirtual 365, 3) := by decide +kernel
theorem dX11_faultOfLetters_111 : decode cX11_faultOfLetters 111 = .ok (.bipush 116, 2) := by decide +kernel
theorem dX11_faultOfLetters_113 : decode cX11_faultOfLetters 113 = .ok (.if_icmp .ne 7, 3) := by decide +kernel
theorem dX11_faultOfLetters_116 : decode cX11_faultOfLetters 116 = .ok (.iconst 1, 1) := by decide +kernel
theorem dX11_faultOfLetters_117 : decode cX11_faultOfLetters 117 = .ok (.goto 4, 3) := by decide +kernel
theorem dX11_faultOfLetters_120 : decode cX11_faultOfLetters 120 = .ok (.iconst 0, 1) := by decide +kernel
theorem dX11_faultOfLetters_121 : decode cX11_faultOfLetters 121 = .ok (.iadd, 1) := by decide +kernel
theorem dX11_faultOfLetters_122 : decode cX11_faultOfLetters 122 = .ok (.istore_n 3, 1) := by decide +kernel
theorem dX11_faultOfLetters_123 : decode cX11_faultOfLetters 123 = .ok (.iinc 4 1, 3) := by decide +kernel
theorem dX11_faultOfLetters_126 : decode cX11_faultOfLetters 126 = .ok (.goto (-89), 3) := by decide +kernel
theorem dX11_faultOfLetters_129 : decode cX11_faultOfLetters 129 = .ok (.iconst 0, 1) := by decide +kernel
theorem dX11_faultOfLetters_130 : decode cX11_faultOfLetters 130 = .ok (.ireturn, 1) := by decide +kernel
theorem dX11_canBe_0 : decode cX11_canBe 0 = .ok (.aload_n 0, 1) := by decide +kernel
theorem dX11_canBe_1 : decode cX11_canBe 1 = .ok (.getfield 33, 3) := by decide +kernel
theorem dX11_canBe_4 : decode cX11_canBe 4 = .ok (.iload_n 1, 1) := by decide +kernel
theorem dX11_canBe_5 : decode cX11_canBe 5 = .ok (.invokevirtual 365, 3) := by decide +kernel
theorem dX11_canBe_8 : decode cX11_canBe 8 = .ok (.lookupswitch 140 #[(98, 36), (112, 101), (114, 92)], 36) := by decide +kernel
theorem dX11_canBe_44 : decode cX11_canBe 44 = .ok (.aload_n 0, 1) := by decide +kernel
theorem dX11_canBe_45 : decode cX11_canBe 45 = .ok (.getfield 33, 3) := by decide +kernel
theorem dX11_canBe_48 : decode cX11_canBe 48 = .ok (.iload_n 1, 1) := by decide +kernel
theorem dX11_canBe_49 : decode cX11_canBe 49 = .ok (.iconst 1, 1) := by decide +kernel
theorem dX11_canBe_50 : decode cX11_canBe 50 = .ok (.iadd, 1) := by decide +kernel
theorem dX11_canBe_51 : decode cX11_canBe 51 = .ok (.invokevirtual 369, 3) := by decide +kernel
theorem dX11_canBe_54 : decode cX11_canBe 54 = .ok (.iconst 4, 1) := by decide +kernel
theorem dX11_canBe_55 : decode cX11_canBe 55 = .ok (.if_icmp .gt 43, 3) := by decide +kernel
theorem dX11_canBe_58 : decode cX11_canBe 58 = .ok (.aload_n 0, 1) := by decide +kernel
theorem dX11_canBe_59 : decode cX11_canBe 59 = .ok (.getfield 33, 3) := by decide +kernel
theorem dX11_canBe_62 : decode cX11_canBe 62 = .ok (.iload_n 1, 1) := by decide +kernel
theorem dX11_canBe_63 : decode cX11_canBe 63 = .ok (.iconst 1, 1) := by decide +kernel
theorem dX11_canBe_64 : decode cX11_canBe 64 = .ok (.iadd, 1) := by decide +kernel
theorem dX11_canBe_65 : decode cX11_canBe 65 = .ok (.invokevirtual 369, 3) := by decide +kernel
theorem dX11_canBe_68 : decode cX11_canBe 68 = .ok (.aload_n 0, 1) := by decide +kernel
theorem dX11_canBe_69 : decode cX11_canBe 69 = .ok (.getfield 33, 3) := by decide +kernel
theorem dX11_canBe_72 : decode cX11_canBe 72 = .ok (.iload_n 1, 1) := by decide +kernel
theorem dX11_canBe_73 : decode cX11_canBe 73 = .ok (.iconst 2, 1) := by decide +kernel
theorem dX11_canBe_74 : decode cX11_canBe 74 = .ok (.iadd, 1) := by decide +kernel
theorem dX11_canBe_75 : decode cX11_canBe 75 = .ok (.invokevirtual 372, 3) := by decide +kernel
theorem dX11_canBe_78 : decode cX11_canBe 78 = .ok (.aload_n 0, 1) := by decide +kernel
theorem dX11_canBe_79 : decode cX11_canBe 79 = .ok (.getfield 33, 3) := by decide +kernel
theorem dX11_canBe_82 : decode cX11_canBe 82 = .ok (.iload_n 1, 1) := by decide +kernel
theorem dX11_canBe_83 : decode cX11_canBe 83 = .ok (.iconst 4, 1) := by decide +kernel
theorem dX11_canBe_84 : decode cX11_canBe 84 = .ok (.iadd, 1) := by decide +kernel
theorem dX11_canBe_85 : decode cX11_canBe 85 = .ok (.invokevirtual 372, 3) := by decide +kernel
theorem dX11_canBe_88 : decode cX11_canBe 88 = .ok (.invokestatic 98, 3) := by decide +kernel
theorem dX11_canBe_91 : decode cX11_canBe 91 = .ok (.ifCond .eq 7, 3) := by decide +kernel
theorem dX11_canBe_94 : decode cX11_canBe 94 = .ok (.iconst 1, 1) := by decide +kernel
theorem dX11_canBe_95 : decode cX11_canBe 95 = .ok (.goto 4, 3) := by decide +kernel
theorem dX11_canBe_98 : decode cX11_canBe 98 = .ok (.iconst 0, 1) := by decide +kernel
theorem dX11_canBe_99 : decode cX11_canBe 99 = .ok (.ireturn, 1) := by decide +kernel
theorem dX11_canBe_100 : decode cX11_canBe 100 = .ok (.aload_n 0, 1) := by decide +kernel
theorem dX11_canBe_101 : decode cX11_canBe 101 = .ok (.iload_n 1, 1) := by decide +kernel
theorem dX11_canBe_102 : decode cX11_canBe 102 = .ok (.iconst 1, 1) := by decide +kernel
theorem dX11_canBe_103 : decode cX11_canBe 103 = .ok (.iadd, 1) := by decide +kernel
theorem dX11_canBe_104 : decode cX11_canBe 104 = .ok (.iconst 5, 1) := by decide +kernel
theorem dX11_canBe_105 : decode cX11_canBe 105 = .ok (.invokevirtual 375, 3) := by decide +kernel
theorem dX11_canBe_108 : decode cX11_canBe 108 = .ok (.ireturn, 1) := by decide +kernel
theorem dX11_canBe_109 : decode cX11_canBe 109 = .ok (.aload_n 0, 1) := by decide +kernel
theorem dX11_canBe_110 : decode cX11_canBe 110 = .ok (.getfield 33, 3) := by decide +kernel
theorem dX11_canBe_113 : decode cX11_canBe 113 = .ok (.iload_n 1, 1) := by decide +kernel
theorem dX11_canBe_114 : decode cX11_canBe 114 = .ok (.iconst 3, 1) := by decide +kernel
theorem dX11_canBe_115 : decode cX11_canBe 115 = .ok (.iadd, 1) := by decide +kernel
theorem dX11_canBe_116 : decode cX11_canBe 116 = .ok (.invokevirtual 372, 3) := by decide +kernel
theorem dX11_canBe_119 : decode cX11_canBe 119 = .ok (.ifCond .le 27, 3) := by decide +kernel
theorem dX11_canBe_122 : decode cX11_canBe 122 = .ok (.aload_n 0, 1) := by decide +kernel
theorem dX11_canBe_123 : decode cX11_canBe 123 = .ok (.getfield 33, 3) := by decide +kernel
theorem dX11_canBe_126 : decode cX11_canBe 126 = .ok (.iload_n 1, 1) := by decide +kernel
theorem dX11_canBe_127 : decode cX11_canBe 127 = .ok (.bipush 7, 2) := by decide +kernel
theorem dX11_canBe_129 : decode cX11_canBe 129 = .ok (.iadd, 1) := by decide +kernel
theorem dX11_canBe_130 : decode cX11_canBe 130 = .ok (.invokevirtual 372, 3) := by decide +kernel
theorem dX11_canBe_133 : decode cX11_canBe 133 = .ok (.ifCond .le 13, 3) := by decide +kernel
theorem dX11_canBe_136 : decode cX11_canBe 136 = .ok (.iload_n 2, 1) := by decide +kernel
theorem dX11_canBe_137 : decode cX11_canBe 137 = .ok (.bipush 10, 2) := by decide +kernel
theorem dX11_canBe_139 : decode cX11_canBe 139 = .ok (.if_icmp .ge 7, 3) := by decide +kernel
theorem dX11_canBe_142 : decode cX11_canBe 142 = .ok (.iconst 1, 1) := by decide +kernel
theorem dX11_canBe_143 : decode cX11_canBe 143 = .ok (.goto 4, 3) := by decide +kernel
theorem dX11_canBe_146 : decode cX11_canBe 146 = .ok (.iconst 0, 1) := by decide +kernel
theorem dX11_canBe_147 : decode cX11_canBe 147 = .ok (.ireturn, 1) := by decide +kernel
theorem dX11_canBe_148 : decode cX11_canBe 148 = .ok (.aload_n 0, 1) := by decide +kernel
theorem dX11_canBe_149 : decode cX11_canBe 149 = .ok (.getfield 33, 3) := by decide +kernel
theorem dX11_canBe_152 : decode cX11_canBe 152 = .ok (.iload_n 1, 1) := by decide +kernel
theorem dX11_canBe_153 : decode cX11_canBe 153 = .ok (.iconst 1, 1) := by decide +kernel
theorem dX11_canBe_154 : decode cX11_canBe 154 = .ok (.iadd, 1) := by decide +kernel
theorem dX11_canBe_155 : decode cX11_canBe 155 = .ok (.invokevirtual 369, 3) := by decide +kernel
theorem dX11_canBe_158 : decode cX11_canBe 158 = .ok (.invokestatic 219, 3) := by decide +kernel
theorem dX11_canBe_161 : decode cX11_canBe 161 = .ok (.ifCond .eq 50, 3) := by decide +kernel
theorem dX11_canBe_164 : decode cX11_canBe 164 = .ok (.iload_n 2, 1) := by decide +kernel
theorem dX11_canBe_165 : decode cX11_canBe 165 = .ok (.aload_n 0, 1) := by decide +kernel
theorem dX11_canBe_166 : decode cX11_canBe 166 = .ok (.getfield 33, 3) := by decide +kernel
theorem dX11_canBe_169 : decode cX11_canBe 169 = .ok (.iload_n 1, 1) := by decide +kernel
theorem dX11_canBe_170 : decode cX11_canBe 170 = .ok (.iconst 2, 1) := by decide +kernel
theorem dX11_canBe_171 : decode cX11_canBe 171 = .ok (.iadd, 1) := by decide +kernel
theorem dX11_canBe_172 : decode cX11_canBe 172 = .ok (.invokevirtual 369, 3) := by decide +kernel
theorem dX11_canBe_175 : decode cX11_canBe 175 = .ok (.aload_n 0, 1) := by decide +kernel
theorem dX11_canBe_176 : decode cX11_canBe 176 = .ok (.getfield 33, 3) := by decide +kernel
theorem dX11_canBe_179 : decode cX11_canBe 179 = .ok (.iload_n 1, 1) := by decide +kernel
theorem dX11_canBe_180 : decode cX11_canBe 180 = .ok (.iconst 3, 1) := by decide +kernel
theorem dX11_canBe_181 : decode cX11_canBe 181 = .ok (.iadd, 1) := by decide +kernel
theorem dX11_canBe_182 : decode cX11_canBe 182 = .ok (.invokevirtual 369, 3) := by decide +kernel
theorem dX11_canBe_185 : decode cX11_canBe 185 = .ok (.aload_n 0, 1) := by decide +kernel
theorem dX11_canBe_186 : decode cX11_canBe 186 = .ok (.getfield 33, 3) := by decide +kernel
theorem dX11_canBe_189 : decode cX11_canBe 189 = .ok (.iload_n 1, 1) := by decide +kernel
theorem dX11_canBe_190 : decode cX11_canBe 190 = .ok (.iconst 4, 1) := by decide +kernel
theorem dX11_canBe_191 : decode cX11_canBe 191 = .ok (.iadd, 1) := by decide +kernel
theorem dX11_canBe_192 : decode cX11_canBe 192 = .ok (.invokevirtual 369, 3) := by decide +kernel
theorem dX11_canBe_195 : decode cX11_canBe 195 = .ok (.invokestatic 224, 3) := by decide +kernel
theorem dX11_canBe_198 : decode cX11_canBe 198 = .ok (.ifCond .eq 13, 3) := by decide +kernel
theorem dX11_canBe_201 : decode cX11_canBe 201 = .ok (.iload_n 3, 1) := by decide +kernel
theorem dX11_canBe_202 : decode cX11_canBe 202 = .ok (.bipush 10, 2) := by decide +kernel
theorem dX11_canBe_204 : decode cX11_canBe 204 = .ok (.if_icmp .ge 7, 3) := by decide +kernel
theorem dX11_canBe_207 : decode cX11_canBe 207 = .ok (.iconst 1, 1) := by decide +kernel
theorem dX11_canBe_208 : decode cX11_canBe 208 = .ok (.goto 4, 3) := by decide +kernel
theorem dX11_canBe_211 : decode cX11_canBe 211 = .ok (.iconst 0, 1) := by decide +kernel
theorem dX11_canBe_212 : decode cX11_canBe 212 = .ok (.ireturn, 1) := by decide +kernel
theorem dX11_areWays_0 : decode cX11_areWays 0 = .ok (.iconst 0, 1) := by decide +kernel
theorem dX11_areWays_1 : decode cX11_areWays 1 = .ok (.istore_n 3, 1) := by decide +kernel
theorem dX11_areWays_2 : decode cX11_areWays 2 = .ok (.iload_n 3, 1) := by decide +kernel
theorem dX11_areWays_3 : decode cX11_areWays 3 = .ok (.iload_n 2, 1) := by decide +kernel
theorem dX11_areWays_4 : decode cX11_areWays 4 = .ok (.if_icmp .ge 27, 3) := by decide +kernel
theorem dX11_areWays_7 : decode cX11_areWays 7 = .ok (.aload_n 0, 1) := by decide +kernel
theorem dX11_areWays_8 : decode cX11_areWays 8 = .ok (.getfield 33, 3) := by decide +kernel
theorem dX11_areWays_11 : decode cX11_areWays 11 = .ok (.iload_n 1, 1) := by decide +kernel
theorem dX11_areWays_12 : decode cX11_areWays 12 = .ok (.iload_n 3, 1) := by decide +kernel
theorem dX11_areWays_13 : decode cX11_areWays 13 = .ok (.iadd, 1) := by decide +kernel
theorem dX11_areWays_14 : decode cX11_areWays 14 = .ok (.invokevirtual 369, 3) := by decide +kernel
theorem dX11_areWays_17 : decode cX11_areWays 17 = .ok (.invokestatic 139, 3) := by decide +kernel
theorem dX11_areWays_20 : decode cX11_areWays 20 = .ok (.ifCond .ne 5, 3) := by decide +kernel
theorem dX11_areWays_23 : decode cX11_areWays 23 = .ok (.iconst 0, 1) := by decide +kernel
theorem dX11_areWays_24 : decode cX11_areWays 24 = .ok (.ireturn, 1) := by decide +kernel
theorem dX11_areWays_25 : decode cX11_areWays 25 = .ok (.iinc 3 1, 3) := by decide +kernel
theorem dX11_areWays_28 : decode cX11_areWays 28 = .ok (.goto (-26), 3) := by decide +kernel
theorem dX11_areWays_31 : decode cX11_areWays 31 = .ok (.iconst 1, 1) := by decide +kernel
theorem dX11_areWays_32 : decode cX11_areWays 32 = .ok (.ireturn, 1) := by decide +kernel
theorem dX11_runStatement_0 : decode cX11_runStatement 0 = .ok (.aload_n 0, 1) := by decide +kernel
theorem dX11_runStatement_1 : decode cX11_runStatement 1 = .ok (.getfield 33, 3) := by decide +kernel
theorem dX11_runStatement_4 : decode cX11_runStatement 4 = .ok (.iload_n 1, 1) := by decide +kernel
theorem dX11_runStatement_5 : decode cX11_runStatement 5 = .ok (.invokevirtual 365, 3) := by decide +kernel
theorem dX11_runStatement_8 : decode cX11_runStatement 8 = .ok (.lookupswitch 152 #[(98, 36), (112, 122), (114, 76)], 36) := by decide +kernel
theorem dX11_runStatement_44 : decode cX11_runStatement 44 = .ok (.aload_n 0, 1) := by decide +kernel
theorem dX11_runStatement_45 : decode cX11_runStatement 45 = .ok (.getfield 10, 3) := by decide +kernel
theorem dX11_runStatement_48 : decode cX11_runStatement 48 = .ok (.aload_n 0, 1) := by decide +kernel
theorem dX11_runStatement_49 : decode cX11_runStatement 49 = .ok (.getfield 33, 3) := by decide +kernel
theorem dX11_runStatement_52 : decode cX11_runStatement 52 = .ok (.iload_n 1, 1) := by decide +kernel
theorem dX11_runStatement_53 : decode cX11_runStatement 53 = .ok (.iconst 1, 1) := by decide +kernel
theorem dX11_runStatement_54 : decode cX11_runStatement 54 = .ok (.iadd, 1) := by decide +kernel
theorem dX11_runStatement_55 : decode cX11_runStatement 55 = .ok (.invokevirtual 369, 3) := by decide +kernel
theorem dX11_runStatement_58 : decode cX11_runStatement 58 = .ok (.aload_n 0, 1) := by decide +kernel
theorem dX11_runStatement_59 : decode cX11_runStatement 59 = .ok (.getfield 33, 3) := by decide +kernel
theorem dX11_runStatement_62 : decode cX11_runStatement 62 = .ok (.iload_n 1, 1) := by decide +kernel
theorem dX11_runStatement_63 : decode cX11_runStatement 63 = .ok (.iconst 2, 1) := by decide +kernel
theorem dX11_runStatement_64 : decode cX11_runStatement 64 = .ok (.iadd, 1) := by decide +kernel
theorem dX11_runStatement_65 : decode cX11_runStatement 65 = .ok (.invokevirtual 372, 3) := by decide +kernel
theorem dX11_runStatement_68 : decode cX11_runStatement 68 = .ok (.aload_n 0, 1) := by decide +kernel
theorem dX11_runStatement_69 : decode cX11_runStatement 69 = .ok (.getfield 33, 3) := by decide +kernel
theorem dX11_runStatement_72 : decode cX11_runStatement 72 = .ok (.iload_n 1, 1) := by decide +kernel
theorem dX11_runStatement_73 : decode cX11_runStatement 73 = .ok (.iconst 4, 1) := by decide +kernel
theorem dX11_runStatement_74 : decode cX11_runStatement 74 = .ok (.iadd, 1) := by decide +kernel
theorem dX11_runStatement_75 : decode cX11_runStatement 75 = .ok (.invokevirtual 372, 3) := by decide +kernel
theorem dX11_runStatement_78 : decode cX11_runStatement 78 = .ok (.invokevirtual 62, 3) := by decide +kernel
theorem dX11_runStatement_81 : decode cX11_runStatement 81 = .ok (.goto 126, 3) := by decide +kernel
theorem dX11_runStatement_84 : decode cX11_runStatement 84 = .ok (.iconst 0, 1) := by decide +kernel
theorem dX11_runStatement_85 : decode cX11_runStatement 85 = .ok (.istore_n 2, 1) := by decide +kernel
theorem dX11_runStatement_86 : decode cX11_runStatement 86 = .ok (.iload_n 2, 1) := by decide +kernel
theorem dX11_runStatement_87 : decode cX11_runStatement 87 = .ok (.iconst 4, 1) := by decide +kernel
theorem dX11_runStatement_88 : decode cX11_runStatement 88 = .ok (.if_icmp .ge 39, 3) := by decide +kernel
theorem dX11_runStatement_91 : decode cX11_runStatement 91 = .ok (.aload_n 0, 1) := by decide +kernel
theorem dX11_runStatement_92 : decode cX11_runStatement 92 = .ok (.getfield 19, 3) := by decide +kernel
theorem dX11_runStatement_95 : decode cX11_runStatement 95 = .ok (.aload_n 0, 1) := by decide +kernel
theorem dX11_runStatement_96 : decode cX11_runStatement 96 = .ok (.getfield 33, 3) := by decide +kernel
theorem dX11_runStatement_99 : decode cX11_runStatement 99 = .ok (.iload_n 1, 1) := by decide +kernel
theorem dX11_runStatement_100 : decode cX11_runStatement 100 = .ok (.iconst 1, 1) := by decide +kernel
theorem dX11_runStatement_101 : decode cX11_runStatement 101 = .ok (.iadd, 1) := by decide +kernel
theorem dX11_runStatement_102 : decode cX11_runStatement 102 = .ok (.invokevirtual 369, 3) := by decide +kernel
theorem dX11_runStatement_105 : decode cX11_runStatement 105 = .ok (.iload_n 2, 1) := by decide +kernel
theorem dX11_runStatement_106 : decode cX11_runStatement 106 = .ok (.aload_n 0, 1) := by decide +kernel
theorem dX11_runStatement_107 : decode cX11_runStatement 107 = .ok (.getfield 33, 3) := by decide +kernel
theorem dX11_runStatement_110 : decode cX11_runStatement 110 = .ok (.iload_n 1, 1) := by decide +kernel
theorem dX11_runStatement_111 : decode cX11_runStatement 111 = .ok (.iconst 2, 1) := by decide +kernel
theorem dX11_runStatement_112 : decode cX11_runStatement 112 = .ok (.iadd, 1) := by decide +kernel
theorem dX11_runStatement_113 : decode cX11_runStatement 113 = .ok (.iload_n 2, 1) := by decide +kernel
theorem dX11_runStatement_114 : decode cX11_runStatement 114 = .ok (.iadd, 1) := by decide +kernel
theorem dX11_runStatement_115 : decode cX11_runStatement 115 = .ok (.invokevirtual 369, 3) := by decide +kernel
theorem dX11_runStatement_118 : decode cX11_runStatement 118 = .ok (.invokevirtual 164, 3) := by decide +kernel
theorem dX11_runStatement_121 : decode cX11_runStatement 121 = .ok (.iinc 2 1, 3) := by decide +kernel
theorem dX11_runStatement_124 : decode cX11_runStatement 124 = .ok (.goto (-38), 3) := by decide +kernel
theorem dX11_runStatement_127 : decode cX11_runStatement 127 = .ok (.goto 80, 3) := by decide +kernel
theorem dX11_runStatement_130 : decode cX11_runStatement 130 = .ok (.aload_n 0, 1) := by decide +kernel
theorem dX11_runStatement_131 : decode cX11_runStatement 131 = .ok (.getfield 26, 3) := by decide +kernel
theorem dX11_runStatement_134 : decode cX11_runStatement 134 = .ok (.aload_n 0, 1) := by decide +kernel
theorem dX11_runStatement_135 : decode cX11_runStatement 135 = .ok (.getfield 33, 3) := by decide +kernel
theorem dX11_runStatement_138 : decode cX11_runStatement 138 = .ok (.iload_n 1, 1) := by decide +kernel
theorem dX11_runStatement_139 : decode cX11_runStatement 139 = .ok (.iconst 1, 1) := by decide +kernel
theorem dX11_runStatement_140 : decode cX11_runStatement 140 = .ok (.iadd, 1) := by decide +kernel
theorem dX11_runStatement_141 : decode cX11_runStatement 141 = .ok (.invokevirtual 378, 3) := by decide +kernel
theorem dX11_runStatement_144 : decode cX11_runStatement 144 = .ok (.aload_n 0, 1) := by decide +kernel
theorem dX11_runStatement_145 : decode cX11_runStatement 145 = .ok (.getfield 33, 3) := by decide +kernel
theorem dX11_runStatement_148 : decode cX11_runStatement 148 = .ok (.iload_n 1, 1) := by decide +kernel
theorem dX11_runStatement_149 : decode cX11_runStatement 149 = .ok (.iconst 5, 1) := by decide +kernel
theorem dX11_runStatement_150 : decode cX11_runStatement 150 = .ok (.iadd, 1) := by decide +kernel
theorem dX11_runStatement_151 : decode cX11_runStatement 151 = .ok (.invokevirtual 378, 3) := by decide +kernel
theorem dX11_runStatement_154 : decode cX11_runStatement 154 = .ok (.invokevirtual 192, 3) := by decide +kernel
theorem dX11_runStatement_157 : decode cX11_runStatement 157 = .ok (.goto 50, 3) := by decide +kernel
theorem dX11_runStatement_160 : decode cX11_runStatement 160 = .ok (.aload_n 0, 1) := by decide +kernel
theorem dX11_runStatement_161 : decode cX11_runStatement 161 = .ok (.getfield 26, 3) := by decide +kernel
theorem dX11_runStatement_164 : decode cX11_runStatement 164 = .ok (.aload_n 0, 1) := by decide +kernel
theorem dX11_runStatement_165 : decode cX11_runStatement 165 = .ok (.getfield 33, 3) := by decide +kernel
theorem dX11_runStatement_168 : decode cX11_runStatement 168 = .ok (.iload_n 1, 1) := by decide +kernel
theorem dX11_runStatement_169 : decode cX11_runStatement 169 = .ok (.iconst 1, 1) := by decide +kernel
theorem dX11_runStatement_170 : decode cX11_runStatement 170 = .ok (.iadd, 1) := by decide +kernel
theorem dX11_runStatement_171 : decode cX11_runStatement 171 = .ok (.invokevirtual 369, 3) := by decide +kernel
theorem dX11_runStatement_174 : decode cX11_runStatement 174 = .ok (.aload_n 0, 1) := by decide +kernel
theorem dX11_runStatement_175 : decode cX11_runStatement 175 = .ok (.getfield 33, 3) := by decide +kernel
theorem dX11_runStatement_178 : decode cX11_runStatement 178 = .ok (.iload_n 1, 1) := by decide +kernel
theorem dX11_runStatement_179 : decode cX11_runStatement 179 = .ok (.iconst 2, 1) := by decide +kernel
theorem dX11_runStatement_180 : decode cX11_runStatement 180 = .ok (.iadd, 1) := by decide +kernel
theorem dX11_runStatement_181 : decode cX11_runStatement 181 = .ok (.invokevirtual 369, 3) := by decide +kernel
theorem dX11_runStatement_184 : decode cX11_runStatement 184 = .ok (.aload_n 0, 1) := by decide +kernel
theorem dX11_runStatement_185 : decode cX11_runStatement 185 = .ok (.getfield 33, 3) := by decide +kernel
theorem dX11_runStatement_188 : decode cX11_runStatement 188 = .ok (.iload_n 1, 1) := by decide +kernel
theorem dX11_runStatement_189 : decode cX11_runStatement 189 = .ok (.iconst 3, 1) := by decide +kernel
theorem dX11_runStatement_190 : decode cX11_runStatement 190 = .ok (.iadd, 1) := by decide +kernel
theorem dX11_runStatement_191 : decode cX11_runStatement 191 = .ok (.invokevirtual 369, 3) := by decide +kernel
theorem dX11_runStatement_194 : decode cX11_runStatement 194 = .ok (.aload_n 0, 1) := by decide +kernel
theorem dX11_runStatement_195 : decode cX11_runStatement 195 = .ok (.getfield 33, 3) := by decide +kernel
theorem dX11_runStatement_198 : decode cX11_runStatement 198 = .ok (.iload_n 1, 1) := by decide +kernel
theorem dX11_runStatement_199 : decode cX11_runStatement 199 = .ok (.iconst 4, 1) := by decide +kernel
theorem dX11_runStatement_200 : decode cX11_runStatement 200 = .ok (.iadd, 1) := by decide +kernel
theorem dX11_runStatement_201 : decode cX11_runStatement 201 = .ok (.invokevirtual 369, 3) := by decide +kernel
theorem dX11_runStatement_204 : decode cX11_runStatement 204 = .ok (.invokevirtual 231, 3) := by decide +kernel
theorem dX11_runStatement_207 : decode cX11_runStatement 207 = .ok (.return_, 1) := by decide +kernel
