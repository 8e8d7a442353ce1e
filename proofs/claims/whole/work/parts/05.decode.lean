theorem dX11_init_0 : decode cX11_init 0 = .ok (.aload_n 0, 1) := by decide +kernel
theorem dX11_init_1 : decode cX11_init 1 = .ok (.invokespecial 1, 3) := by decide +kernel
theorem dX11_init_4 : decode cX11_init 4 = .ok (.aload_n 0, 1) := by decide +kernel
theorem dX11_init_5 : decode cX11_init 5 = .ok (.new 7, 3) := by decide +kernel
theorem dX11_init_8 : decode cX11_init 8 = .ok (.dup, 1) := by decide +kernel
theorem dX11_init_9 : decode cX11_init 9 = .ok (.invokespecial 9, 3) := by decide +kernel
theorem dX11_init_12 : decode cX11_init 12 = .ok (.putfield 10, 3) := by decide +kernel
theorem dX11_init_15 : decode cX11_init 15 = .ok (.aload_n 0, 1) := by decide +kernel
theorem dX11_init_16 : decode cX11_init 16 = .ok (.new 7, 3) := by decide +kernel
theorem dX11_init_19 : decode cX11_init 19 = .ok (.dup, 1) := by decide +kernel
theorem dX11_init_20 : decode cX11_init 20 = .ok (.invokespecial 9, 3) := by decide +kernel
theorem dX11_init_23 : decode cX11_init 23 = .ok (.putfield 16, 3) := by decide +kernel
theorem dX11_init_26 : decode cX11_init 26 = .ok (.aload_n 0, 1) := by decide +kernel
theorem dX11_init_27 : decode cX11_init 27 = .ok (.iconst 2, 1) := by decide +kernel
theorem dX11_init_28 : decode cX11_init 28 = .ok (.anewarray 7, 3) := by decide +kernel
theorem dX11_init_31 : decode cX11_init 31 = .ok (.putfield 19, 3) := by decide +kernel
theorem dX11_init_34 : decode cX11_init 34 = .ok (.aload_n 0, 1) := by decide +kernel
theorem dX11_init_35 : decode cX11_init 35 = .ok (.iconst 2, 1) := by decide +kernel
theorem dX11_init_36 : decode cX11_init 36 = .ok (.newarray .boolean, 2) := by decide +kernel
theorem dX11_init_38 : decode cX11_init 38 = .ok (.putfield 23, 3) := by decide +kernel
theorem dX11_init_41 : decode cX11_init 41 = .ok (.aload_n 0, 1) := by decide +kernel
theorem dX11_init_42 : decode cX11_init 42 = .ok (.new 27, 3) := by decide +kernel
theorem dX11_init_45 : decode cX11_init 45 = .ok (.dup, 1) := by decide +kernel
theorem dX11_init_46 : decode cX11_init 46 = .ok (.invokespecial 29, 3) := by decide +kernel
theorem dX11_init_49 : decode cX11_init 49 = .ok (.putfield 30, 3) := by decide +kernel
theorem dX11_init_52 : decode cX11_init 52 = .ok (.aload_n 0, 1) := by decide +kernel
theorem dX11_init_53 : decode cX11_init 53 = .ok (.new 34, 3) := by decide +kernel
theorem dX11_init_56 : decode cX11_init 56 = .ok (.dup, 1) := by decide +kernel
theorem dX11_init_57 : decode cX11_init 57 = .ok (.invokespecial 36, 3) := by decide +kernel
theorem dX11_init_60 : decode cX11_init 60 = .ok (.putfield 37, 3) := by decide +kernel
theorem dX11_init_63 : decode cX11_init 63 = .ok (.aload_n 0, 1) := by decide +kernel
theorem dX11_init_64 : decode cX11_init 64 = .ok (.new 41, 3) := by decide +kernel
theorem dX11_init_67 : decode cX11_init 67 = .ok (.dup, 1) := by decide +kernel
theorem dX11_init_68 : decode cX11_init 68 = .ok (.invokespecial 43, 3) := by decide +kernel
theorem dX11_init_71 : decode cX11_init 71 = .ok (.putfield 44, 3) := by decide +kernel
theorem dX11_init_74 : decode cX11_init 74 = .ok (.aload_n 0, 1) := by decide +kernel
theorem dX11_init_75 : decode cX11_init 75 = .ok (.new 48, 3) := by decide +kernel
theorem dX11_init_78 : decode cX11_init 78 = .ok (.dup, 1) := by decide +kernel
theorem dX11_init_79 : decode cX11_init 79 = .ok (.invokespecial 50, 3) := by decide +kernel
theorem dX11_init_82 : decode cX11_init 82 = .ok (.putfield 51, 3) := by decide +kernel
theorem dX11_init_85 : decode cX11_init 85 = .ok (.aload_n 0, 1) := by decide +kernel
theorem dX11_init_86 : decode cX11_init 86 = .ok (.new 55, 3) := by decide +kernel
theorem dX11_init_89 : decode cX11_init 89 = .ok (.dup, 1) := by decide +kernel
theorem dX11_init_90 : decode cX11_init 90 = .ok (.invokespecial 57, 3) := by decide +kernel
theorem dX11_init_93 : decode cX11_init 93 = .ok (.putfield 58, 3) := by decide +kernel
theorem dX11_init_96 : decode cX11_init 96 = .ok (.aload_n 0, 1) := by decide +kernel
theorem dX11_init_97 : decode cX11_init 97 = .ok (.bipush 36, 2) := by decide +kernel
theorem dX11_init_99 : decode cX11_init 99 = .ok (.newarray .int, 2) := by decide +kernel
theorem dX11_init_101 : decode cX11_init 101 = .ok (.putfield 62, 3) := by decide +kernel
theorem dX11_init_104 : decode cX11_init 104 = .ok (.aload_n 0, 1) := by decide +kernel
theorem dX11_init_105 : decode cX11_init 105 = .ok (.iconst 3, 1) := by decide +kernel
theorem dX11_init_106 : decode cX11_init 106 = .ok (.newarray .int, 2) := by decide +kernel
theorem dX11_init_108 : decode cX11_init 108 = .ok (.putfield 66, 3) := by decide +kernel
theorem dX11_init_111 : decode cX11_init 111 = .ok (.aload_n 0, 1) := by decide +kernel
theorem dX11_init_112 : decode cX11_init 112 = .ok (.iconst 0, 1) := by decide +kernel
theorem dX11_init_113 : decode cX11_init 113 = .ok (.putfield 69, 3) := by decide +kernel
theorem dX11_init_116 : decode cX11_init 116 = .ok (.aload_n 0, 1) := by decide +kernel
theorem dX11_init_117 : decode cX11_init 117 = .ok (.iconst 1, 1) := by decide +kernel
theorem dX11_init_118 : decode cX11_init 118 = .ok (.putfield 73, 3) := by decide +kernel
theorem dX11_init_121 : decode cX11_init 121 = .ok (.iconst 0, 1) := by decide +kernel
theorem dX11_init_122 : decode cX11_init 122 = .ok (.istore_n 1, 1) := by decide +kernel
theorem dX11_init_123 : decode cX11_init 123 = .ok (.iload_n 1, 1) := by decide +kernel
theorem dX11_init_124 : decode cX11_init 124 = .ok (.iconst 2, 1) := by decide +kernel
theorem dX11_init_125 : decode cX11_init 125 = .ok (.if_icmp .ge 22, 3) := by decide +kernel
theorem dX11_init_128 : decode cX11_init 128 = .ok (.aload_n 0, 1) := by decide +kernel
theorem dX11_init_129 : decode cX11_init 129 = .ok (.getfield 19, 3) := by decide +kernel
theorem dX11_init_132 : decode cX11_init 132 = .ok (.iload_n 1, 1) := by decide +kernel
theorem dX11_init_133 : decode cX11_init 133 = .ok (.new 7, 3) := by decide +kernel
theorem dX11_init_136 : decode cX11_init 136 = .ok (.dup, 1) := by decide +kernel
theorem dX11_init_137 : decode cX11_init 137 = .ok (.invokespecial 9, 3) := by decide +kernel
theorem dX11_init_140 : decode cX11_init 140 = .ok (.aastore, 1) := by decide +kernel
theorem dX11_init_141 : decode cX11_init 141 = .ok (.iinc 1 1, 3) := by decide +kernel
theorem dX11_init_144 : decode cX11_init 144 = .ok (.goto (-21), 3) := by decide +kernel
theorem dX11_init_147 : decode cX11_init 147 = .ok (.return_, 1) := by decide +kernel
theorem dX11_wall_0 : decode cX11_wall 0 = .ok (.aload_n 0, 1) := by decide +kernel
theorem dX11_wall_1 : decode cX11_wall 1 = .ok (.aload_n 0, 1) := by decide +kernel
theorem dX11_wall_2 : decode cX11_wall 2 = .ok (.getfield 10, 3) := by decide +kernel
theorem dX11_wall_5 : decode cX11_wall 5 = .ok (.getfield 76, 3) := by decide +kernel
theorem dX11_wall_8 : decode cX11_wall 8 = .ok (.iload_n 1, 1) := by decide +kernel
theorem dX11_wall_9 : decode cX11_wall 9 = .ok (.iload_n 2, 1) := by decide +kernel
theorem dX11_wall_10 : decode cX11_wall 10 = .ok (.invokevirtual 80, 3) := by decide +kernel
theorem dX11_wall_13 : decode cX11_wall 13 = .ok (.invokevirtual 86, 3) := by decide +kernel
theorem dX11_wall_16 : decode cX11_wall 16 = .ok (.ireturn, 1) := by decide +kernel
theorem dX11_board_0 : decode cX11_board 0 = .ok (.aload_n 0, 1) := by decide +kernel
theorem dX11_board_1 : decode cX11_board 1 = .ok (.aload_n 0, 1) := by decide +kernel
theorem dX11_board_2 : decode cX11_board 2 = .ok (.getfield 10, 3) := by decide +kernel
theorem dX11_board_5 : decode cX11_board 5 = .ok (.getfield 76, 3) := by decide +kernel
theorem dX11_board_8 : decode cX11_board 8 = .ok (.iload_n 1, 1) := by decide +kernel
theorem dX11_board_9 : decode cX11_board 9 = .ok (.iload_n 2, 1) := by decide +kernel
theorem dX11_board_10 : decode cX11_board 10 = .ok (.invokevirtual 90, 3) := by decide +kernel
theorem dX11_board_13 : decode cX11_board 13 = .ok (.invokevirtual 86, 3) := by decide +kernel
theorem dX11_board_16 : decode cX11_board 16 = .ok (.ireturn, 1) := by decide +kernel
theorem dX11_put_0 : decode cX11_put 0 = .ok (.iload_n 1, 1) := by decide +kernel
theorem dX11_put_1 : decode cX11_put 1 = .ok (.ifCond .ne 19, 3) := by decide +kernel
theorem dX11_put_4 : decode cX11_put 4 = .ok (.aload_n 0, 1) := by decide +kernel
theorem dX11_put_5 : decode cX11_put 5 = .ok (.aload_n 0, 1) := by decide +kernel
theorem dX11_put_6 : decode cX11_put 6 = .ok (.getfield 10, 3) := by decide +kernel
theorem dX11_put_9 : decode cX11_put 9 = .ok (.getfield 76, 3) := by decide +kernel
theorem dX11_put_12 : decode cX11_put 12 = .ok (.iload_n 2, 1) := by decide +kernel
theorem dX11_put_13 : decode cX11_put 13 = .ok (.invokevirtual 94, 3) := by decide +kernel
theorem dX11_put_16 : decode cX11_put 16 = .ok (.invokevirtual 86, 3) := by decide +kernel
theorem dX11_put_19 : decode cX11_put 19 = .ok (.ireturn, 1) := by decide +kernel
theorem dX11_put_20 : decode cX11_put 20 = .ok (.aload_n 0, 1) := by decide +kernel
theorem dX11_put_21 : decode cX11_put 21 = .ok (.iload_n 1, 1) := by decide +kernel
theorem dX11_put_22 : decode cX11_put 22 = .ok (.iconst 1, 1) := by decide +kernel
theorem dX11_put_23 : decode cX11_put 23 = .ok (.if_icmp .ne 17, 3) := by decide +kernel
theorem dX11_put_26 : decode cX11_put 26 = .ok (.aload_n 0, 1) := by decide +kernel
theorem dX11_put_27 : decode cX11_put 27 = .ok (.getfield 10, 3) := by decide +kernel
theorem dX11_put_30 : decode cX11_put 30 = .ok (.getfield 76, 3) := by decide +kernel
theorem dX11_put_33 : decode cX11_put 33 = .ok (.iload_n 2, 1) := by decide +kernel
theorem dX11_put_34 : decode cX11_put 34 = .ok (.invokevirtual 97, 3) := by decide +kernel
theorem dX11_put_37 : decode cX11_put 37 = .ok (.goto 5, 3) := by decide +kernel
theorem dX11_put_40 : decode cX11_put 40 = .ok (.bipush (-2), 2) := by decide +kernel
theorem dX11_put_42 : decode cX11_put 42 = .ok (.invokevirtual 86, 3) := by decide +kernel
theorem dX11_put_45 : decode cX11_put 45 = .ok (.ireturn, 1) := by decide +kernel
theorem dX11_bed_0 : decode cX11_bed 0 = .ok (.aload_n 0, 1) := by decide +kernel
theorem dX11_bed_1 : decode cX11_bed 1 = .ok (.aload_n 0, 1) := by decide +kernel
theorem dX11_bed_2 : decode cX11_bed 2 = .ok (.getfield 10, 3) := by decide +kernel
theorem dX11_bed_5 : decode cX11_bed 5 = .ok (.getfield 76, 3) := by decide +kernel
theorem dX11_bed_8 : decode cX11_bed 8 = .ok (.iload_n 1, 1) := by decide +kernel
theorem dX11_bed_9 : decode cX11_bed 9 = .ok (.invokevirtual 100, 3) := by decide +kernel
theorem dX11_bed_12 : decode cX11_bed 12 = .ok (.invokevirtual 86, 3) := by decide +kernel
theorem dX11_bed_15 : decode cX11_bed 15 = .ok (.ireturn, 1) := by decide +kernel
theorem dX11_sleeper_0 : decode cX11_sleeper 0 = .ok (.aload_n 0, 1) := by decide +kernel
theorem dX11_sleeper_1 : decode cX11_sleeper 1 = .ok (.aload_n 0, 1) := by decide +kernel
theorem dX11_sleeper_2 : decode cX11_sleeper 2 = .ok (.getfield 10, 3) := by decide +kernel
theorem dX11_sleeper_5 : decode cX11_sleeper 5 = .ok (.getfield 103, 3) := by decide +kernel
theorem dX11_sleeper_8 : decode cX11_sleeper 8 = .ok (.iload_n 1, 1) := by decide +kernel
theorem dX11_sleeper_9 : decode cX11_sleeper 9 = .ok (.iload_n 2, 1) := by decide +kernel
theorem dX11_sleeper_10 : decode cX11_sleeper 10 = .ok (.iload_n 3, 1) := by decide +kernel
theorem dX11_sleeper_11 : decode cX11_sleeper 11 = .ok (.iload 4, 2) := by decide +kernel
theorem dX11_sleeper_13 : decode cX11_sleeper 13 = .ok (.iload 5, 2) := by decide +kernel
theorem dX11_sleeper_15 : decode cX11_sleeper 15 = .ok (.invokevirtual 107, 3) := by decide +kernel
theorem dX11_sleeper_18 : decode cX11_sleeper 18 = .ok (.invokevirtual 86, 3) := by decide +kernel
theorem dX11_sleeper_21 : decode cX11_sleeper 21 = .ok (.ireturn, 1) := by decide +kernel
theorem dX11_lie_0 : decode cX11_lie 0 = .ok (.aload_n 0, 1) := by decide +kernel
theorem dX11_lie_1 : decode cX11_lie 1 = .ok (.getfield 10, 3) := by decide +kernel
theorem dX11_lie_4 : decode cX11_lie 4 = .ok (.iload_n 1, 1) := by decide +kernel
theorem dX11_lie_5 : decode cX11_lie 5 = .ok (.iload_n 2, 1) := by decide +kernel
theorem dX11_lie_6 : decode cX11_lie 6 = .ok (.invokevirtual 113, 3) := by decide +kernel
theorem dX11_lie_9 : decode cX11_lie 9 = .ok (.istore_n 3, 1) := by decide +kernel
theorem dX11_lie_10 : decode cX11_lie 10 = .ok (.iload_n 3, 1) := by decide +kernel
theorem dX11_lie_11 : decode cX11_lie 11 = .ok (.bipush (-2), 2) := by decide +kernel
theorem dX11_lie_13 : decode cX11_lie 13 = .ok (.if_icmp .ne 12, 3) := by decide +kernel
theorem dX11_lie_16 : decode cX11_lie 16 = .ok (.aload_n 0, 1) := by decide +kernel
theorem dX11_lie_17 : decode cX11_lie 17 = .ok (.bipush (-2), 2) := by decide +kernel
theorem dX11_lie_19 : decode cX11_lie 19 = .ok (.bipush (-10), 2) := by decide +kernel
theorem dX11_lie_21 : decode cX11_lie 21 = .ok (.invokevirtual 116, 3) := by decide +kernel
theorem dX11_lie_24 : decode cX11_lie 24 = .ok (.ireturn, 1) := by decide +kernel
theorem dX11_lie_25 : decode cX11_lie 25 = .ok (.iload_n 3, 1) := by decide +kernel
theorem dX11_lie_26 : decode cX11_lie 26 = .ok (.bipush (-3), 2) := by decide +kernel
theorem dX11_lie_28 : decode cX11_lie 28 = .ok (.if_icmp .ne 14, 3) := by decide +kernel
theorem dX11_lie_31 : decode cX11_lie 31 = .ok (.aload_n 0, 1) := by decide +kernel
theorem dX11_lie_32 : decode cX11_lie 32 = .ok (.bipush (-3), 2) := by decide +kernel
theorem dX11_lie_34 : decode cX11_lie 34 = .ok (.bipush (-20), 2) := by decide +kernel
theorem dX11_lie_36 : decode cX11_lie 36 = .ok (.invokevirtual 116, 3) := by decide +kernel
theorem dX11_lie_39 : decode cX11_lie 39 = .ok (.goto 4, 3) := by decide +kernel
theorem dX11_lie_42 : decode cX11_lie 42 = .ok (.iload_n 3, 1) := by decide +kernel
theorem dX11_lie_43 : decode cX11_lie 43 = .ok (.ireturn, 1) := by decide +kernel
theorem dX11_sound_0 : decode cX11_sound 0 = .ok (.aload_n 0, 1) := by decide +kernel
theorem dX11_sound_1 : decode cX11_sound 1 = .ok (.aload_n 0, 1) := by decide +kernel
theorem dX11_sound_2 : decode cX11_sound 2 = .ok (.getfield 10, 3) := by decide +kernel
theorem dX11_sound_5 : decode cX11_sound 5 = .ok (.iload_n 1, 1) := by decide +kernel
theorem dX11_sound_6 : decode cX11_sound 6 = .ok (.iload_n 2, 1) := by decide +kernel
theorem dX11_sound_7 : decode cX11_sound 7 = .ok (.iload_n 3, 1) := by decide +kernel
theorem dX11_sound_8 : decode cX11_sound 8 = .ok (.iload 4, 2) := by decide +kernel
theorem dX11_sound_10 : decode cX11_sound 10 = .ok (.iload 5, 2) := by decide +kernel
theorem dX11_sound_12 : decode cX11_sound 12 = .ok (.invokevirtual 119, 3) := by decide +kernel
theorem dX11_sound_15 : decode cX11_sound 15 = .ok (.invokevirtual 86, 3) := by decide +kernel
theorem dX11_sound_18 : decode cX11_sound 18 = .ok (.ireturn, 1) := by decide +kernel
theorem dX11_still_0 : decode cX11_still 0 = .ok (.aload_n 0, 1) := by decide +kernel
theorem dX11_still_1 : decode cX11_still 1 = .ok (.aload_n 0, 1) := by decide +kernel
theorem dX11_still_2 : decode cX11_still 2 = .ok (.getfield 10, 3) := by decide +kernel
theorem dX11_still_5 : decode cX11_still 5 = .ok (.getfield 122, 3) := by decide +kernel
theorem dX11_still_8 : decode cX11_still 8 = .ok (.invokevirtual 126, 3) := by decide +kernel
theorem dX11_still_11 : decode cX11_still 11 = .ok (.invokevirtual 86, 3) := by decide +kernel
theorem dX11_still_14 : decode cX11_still 14 = .ok (.ireturn, 1) := by decide +kernel
theorem dX11_type_0 : decode cX11_type 0 = .ok (.aload_n 0, 1) := by decide +kernel
theorem dX11_type_1 : decode cX11_type 1 = .ok (.aload_n 0, 1) := by decide +kernel
theorem dX11_type_2 : decode cX11_type 2 = .ok (.getfield 30, 3) := by decide +kernel
theorem dX11_type_5 : decode cX11_type 5 = .ok (.lload_n 1, 1) := by decide +kernel
theorem dX11_type_6 : decode cX11_type 6 = .ok (.iload_n 3, 1) := by decide +kernel
theorem dX11_type_7 : decode cX11_type 7 = .ok (.invokevirtual 132, 3) := by decide +kernel
theorem dX11_type_10 : decode cX11_type 10 = .ok (.invokevirtual 86, 3) := by decide +kernel
theorem dX11_type_13 : decode cX11_type 13 = .ok (.ireturn, 1) := by decide +kernel
theorem dX11_clear_0 : decode cX11_clear 0 = .ok (.aload_n 0, 1) := by decide +kernel
theorem dX11_clear_1 : decode cX11_clear 1 = .ok (.getfield 30, 3) := by decide +kernel
theorem dX11_clear_4 : decode cX11_clear 4 = .ok (.invokevirtual 136, 3) := by decide +kernel
theorem dX11_clear_7 : decode cX11_clear 7 = .ok (.ireturn, 1) := by decide +kernel
theorem dX11_house_0 : decode cX11_house 0 = .ok (.aload_n 0, 1) := by decide +kernel
theorem dX11_house_1 : decode cX11_house 1 = .ok (.getfield 30, 3) := by decide +kernel
theorem dX11_house_4 : decode cX11_house 4 = .ok (.invokevirtual 139, 3) := by decide +kernel
theorem dX11_house_7 : decode cX11_house 7 = .ok (.istore_n 1, 1) := by decide +kernel
theorem dX11_house_8 : decode cX11_house 8 = .ok (.iload_n 1, 1) := by decide +kernel
theorem dX11_house_9 : decode cX11_house 9 = .ok (.iconst (-1), 1) := by decide +kernel
theorem dX11_house_10 : decode cX11_house 10 = .ok (.if_icmp .eq 8, 3) := by decide +kernel
theorem dX11_house_13 : decode cX11_house 13 = .ok (.bipush (-10), 2) := by decide +kernel
theorem dX11_house_15 : decode cX11_house 15 = .ok (.iload_n 1, 1) := by decide +kernel
theorem dX11_house_16 : decode cX11_house 16 = .ok (.isub, 1) := by decide +kernel
theorem dX11_house_17 : decode cX11_house 17 = .ok (.ireturn, 1) := by decide +kernel
theorem dX11_house_18 : decode cX11_house 18 = .ok (.aload_n 0, 1) := by decide +kernel
theorem dX11_house_19 : decode cX11_house 19 = .ok (.getfield 16, 3) := by decide +kernel
theorem dX11_house_22 : decode cX11_house 22 = .ok (.invokevirtual 142, 3) := by decide +kernel
theorem dX11_house_25 : decode cX11_house 25 = .ok (.iconst 0, 1) := by decide +kernel
theorem dX11_house_26 : decode cX11_house 26 = .ok (.istore_n 2, 1) := by decide +kernel
theorem dX11_house_27 : decode cX11_house 27 = .ok (.iload_n 2, 1) := by decide +kernel
theorem dX11_house_28 : decode cX11_house 28 = .ok (.aload_n 0, 1) := by decide +kernel
theorem dX11_house_29 : decode cX11_house 29 = .ok (.getfield 30, 3) := by decide +kernel
theorem dX11_house_32 : decode cX11_house 32 = .ok (.getfield 145, 3) := by decide +kernel
theorem dX11_house_35 : decode cX11_house 35 = .ok (.if_icmp .ge 45, 3) := by decide +kernel
theorem dX11_house_38 : decode cX11_house 38 = .ok (.aload_n 0, 1) := by decide +kernel
theorem dX11_house_39 : decode cX11_house 39 = .ok (.getfield 16, 3) := by decide +kernel
theorem dX11_house_42 : decode cX11_house 42 = .ok (.aload_n 0, 1) := by decide +kernel
theorem dX11_house_43 : decode cX11_house 43 = .ok (.getfield 30, 3) := by decide +kernel
theorem dX11_house_46 : decode cX11_house 46 = .ok (.getfield 148, 3) := by decide +kernel
theorem dX11_house_49 : decode cX11_house 49 = .ok (.iload_n 2, 1) := by decide +kernel
theorem dX11_house_50 : decode cX11_house 50 = .ok (.iaload, 1) := by decide +kernel
theorem dX11_house_51 : decode cX11_house 51 = .ok (.aload_n 0, 1) := by decide +kernel
theorem dX11_house_52 : decode cX11_house 52 = .ok (.getfield 30, 3) := by decide +kernel
theorem dX11_house_55 : decode cX11_house 55 = .ok (.getfield 151, 3) := by decide +kernel
theorem dX11_house_58 : decode cX11_house 58 = .ok (.iload_n 2, 1) := by decide +kernel
theorem dX11_house_59 : decode cX11_house 59 = .ok (.aaload, 1) := by decide +kernel
theorem dX11_house_60 : decode cX11_house 60 = .ok (.invokevirtual 155, 3) := by decide +kernel
theorem dX11_house_63 : decode cX11_house 63 = .ok (.bipush (-2), 2) := by decide +kernel
theorem dX11_house_65 : decode cX11_house 65 = .ok (.if_icmp .gt 9, 3) := by decide +kernel
theorem dX11_house_68 : decode cX11_house 68 = .ok (.sipush (-1000), 3) := by decide +kernel
theorem dX11_house_71 : decode cX11_house 71 = .ok (.iload_n 2, 1) := by decide +kernel
theorem dX11_house_72 : decode cX11_house 72 = .ok (.isub, 1) := by decide +kernel
theorem dX11_house_73 : decode cX11_house 73 = .ok (.ireturn, 1) := by decide +kernel
theorem dX11_house_74 : decode cX11_house 74 = .ok (.iinc 2 1, 3) := by decide +kernel
theorem dX11_house_77 : decode cX11_house 77 = .ok (.goto (-50), 3) := by decide +kernel
theorem dX11_house_80 : decode cX11_house 80 = .ok (.aload_n 0, 1) := by decide +kernel
theorem dX11_house_81 : decode cX11_house 81 = .ok (.getfield 10, 3) := by decide +kernel
theorem dX11_house_84 : decode cX11_house 84 = .ok (.aload_n 0, 1) := by decide +kernel
theorem dX11_house_85 : decode cX11_house 85 = .ok (.getfield 16, 3) := by decide +kernel
theorem dX11_house_88 : decode cX11_house 88 = .ok (.invokevirtual 159, 3) := by decide +kernel
theorem dX11_house_91 : decode cX11_house 91 = .ok (.aload_n 0, 1) := by decide +kernel
theorem dX11_house_92 : decode cX11_house 92 = .ok (.getfield 30, 3) := by decide +kernel
theorem dX11_house_95 : decode cX11_house 95 = .ok (.getfield 145, 3) := by decide +kernel
theorem dX11_house_98 : decode cX11_house 98 = .ok (.ireturn, 1) := by decide +kernel
theorem dX11_distance_0 : decode cX11_distance 0 = .ok (.iload_n 1, 1) := by decide +kernel
theorem dX11_distance_1 : decode cX11_distance 1 = .ok (.invokestatic 163, 3) := by decide +kernel
theorem dX11_distance_4 : decode cX11_distance 4 = .ok (.ifCond .eq 10, 3) := by decide +kernel
theorem dX11_distance_7 : decode cX11_distance 7 = .ok (.iload_n 2, 1) := by decide +kernel
theorem dX11_distance_8 : decode cX11_distance 8 = .ok (.invokestatic 163, 3) := by decide +kernel
theorem dX11_distance_11 : decode cX11_distance 11 = .ok (.ifCond .ne 10, 3) := by decide +kernel
theorem dX11_distance_14 : decode cX11_distance 14 = .ok (.aload_n 0, 1) := by decide +kernel
theorem dX11_distance_15 : decode cX11_distance 15 = .ok (.bipush (-2), 2) := by decide +kernel
theorem dX11_distance_17 : decode cX11_distance 17 = .ok (.invokevirtual 86, 3) := by decide +kernel
theorem dX11_distance_20 : decode cX11_distance 20 = .ok (.ireturn, 1) := by decide +kernel
theorem dX11_distance_21 : decode cX11_distance 21 = .ok (.aload_n 0, 1) := by decide +kernel
theorem dX11_distance_22 : decode cX11_distance 22 = .ok (.getfield 58, 3) := by decide +kernel
theorem dX11_distance_25 : decode cX11_distance 25 = .ok (.aload_n 0, 1) := by decide +kernel
theorem dX11_distance_26 : decode cX11_distance 26 = .ok (.getfield 10, 3) := by decide +kernel
theorem dX11_distance_29 : decode cX11_distance 29 = .ok (.getfield 76, 3) := by decide +kernel
theorem dX11_distance_32 : decode cX11_distance 32 = .ok (.getfield 167, 3) := by decide +kernel
theorem dX11_distance_35 : decode cX11_distance 35 = .ok (.iload_n 1, 1) := by decide +kernel
theorem dX11_distance_36 : decode cX11_distance 36 = .ok (.aload_n 0, 1) := by decide +kernel
theorem dX11_distance_37 : decode cX11_distance 37 = .ok (.getfield 62, 3) := by decide +kernel
theorem dX11_distance_40 : decode cX11_distance 40 = .ok (.invokevirtual 170, 3) := by decide +kernel
theorem dX11_distance_43 : decode cX11_distance 43 = .ok (.aload_n 0, 1) := by decide +kernel
theorem dX11_distance_44 : decode cX11_distance 44 = .ok (.getfield 62, 3) := by decide +kernel
theorem dX11_distance_47 : decode cX11_distance 47 = .ok (.iload_n 2, 1) := by decide +kernel
theorem dX11_distance_48 : decode cX11_distance 48 = .ok (.iaload, 1) := by decide +kernel
theorem dX11_distance_49 : decode cX11_distance 49 = .ok (.ireturn, 1) := by decide +kernel
theorem dX11_heard_0 : decode cX11_heard 0 = .ok (.iload_n 1, 1) := by decide +kernel
theorem dX11_heard_1 : decode cX11_heard 1 = .ok (.invokestatic 163, 3) := by decide +kernel
theorem dX11_heard_4 : decode cX11_heard 4 = .ok (.ifCond .eq 31, 3) := by decide +kernel
theorem dX11_heard_7 : decode cX11_heard 7 = .ok (.iload_n 2, 1) := by decide +kernel
theorem dX11_heard_8 : decode cX11_heard 8 = .ok (.iconst 0, 1) := by decide +kernel
theorem dX11_heard_9 : decode cX11_heard 9 = .ok (.bipush 60, 2) := by decide +kernel
theorem dX11_heard_11 : decode cX11_heard 11 = .ok (.invokestatic 174, 3) := by decide +kernel
theorem dX11_heard_14 : decode cX11_heard 14 = .ok (.ifCond .eq 21, 3) := by decide +kernel
theorem dX11_heard_17 : decode cX11_heard 17 = .ok (.iload_n 3, 1) := by decide +kernel
theorem dX11_heard_18 : decode cX11_heard 18 = .ok (.invokestatic 163, 3) := by decide +kernel
theorem dX11_heard_21 : decode cX11_heard 21 = .ok (.ifCond .eq 14, 3) := by decide +kernel
theorem dX11_heard_24 : decode cX11_heard 24 = .ok (.iload 4, 2) := by decide +kernel
theorem dX11_heard_26 : decode cX11_heard 26 = .ok (.iconst 0, 1) := by decide +kernel
theorem dX11_heard_27 : decode cX11_heard 27 = .ok (.bipush 39, 2) := by decide +kernel
theorem dX11_heard_29 : decode cX11_heard 29 = .ok (.invokestatic 174, 3) := by decide +kernel
theorem dX11_heard_32 : decode cX11_heard 32 = .ok (.ifCond .ne 10, 3) := by decide +kernel
theorem dX11_heard_35 : decode cX11_heard 35 = .ok (.aload_n 0, 1) := by decide +kernel
theorem dX11_heard_36 : decode cX11_heard 36 = .ok (.bipush (-2), 2) := by decide +kernel
theorem dX11_heard_38 : decode cX11_heard 38 = .ok (.invokevirtual 86, 3) := by decide +kernel
theorem dX11_heard_41 : decode cX11_heard 41 = .ok (.ireturn, 1) := by decide +kernel
theorem dX11_heard_42 : decode cX11_heard 42 = .ok (.aload_n 0, 1) := by decide +kernel
theorem dX11_heard_43 : decode cX11_heard 43 = .ok (.getfield 58, 3) := by decide +kernel
theorem dX11_heard_46 : decode cX11_heard 46 = .ok (.aload_n 0, 1) := by decide +kernel
theorem dX11_heard_47 : decode cX11_heard 47 = .ok (.getfield 10, 3) := by decide +kernel
theorem dX11_heard_50 : decode cX11_heard 50 = .ok (.getfield 76, 3) := by decide +kernel
theorem dX11_heard_53 : decode cX11_heard 53 = .ok (.getfield 167, 3) := by decide +kernel
theorem dX11_heard_56 : decode cX11_heard 56 = .ok (.iload_n 3, 1) := by decide +kernel
theorem dX11_heard_57 : decode cX11_heard 57 = .ok (.aload_n 0, 1) := by decide +kernel
theorem dX11_heard_58 : decode cX11_heard 58 = .ok (.getfield 62, 3) := by decide +kernel
theorem dX11_heard_61 : decode cX11_heard 61 = .ok (.invokevirtual 170, 3) := by decide +kernel
theorem dX11_heard_64 : decode cX11_heard 64 = .ok (.iconst 0, 1) := by decide +kernel
theorem dX11_heard_65 : decode cX11_heard 65 = .ok (.iload_n 2, 1) := by decide +kernel
theorem dX11_heard_66 : decode cX11_heard 66 = .ok (.aload_n 0, 1) := by decide +kernel
theorem dX11_heard_67 : decode cX11_heard 67 = .ok (.getfield 62, 3) := by decide +kernel
theorem dX11_heard_70 : decode cX11_heard 70 = .ok (.iload_n 1, 1) := by decide +kernel
theorem dX11_heard_71 : decode cX11_heard 71 = .ok (.iaload, 1) := by decide +kernel
theorem dX11_heard_72 : decode cX11_heard 72 = .ok (.aload_n 0, 1) := by decide +kernel
theorem dX11_heard_73 : decode cX11_heard 73 = .ok (.getfield 10, 3) := by decide +kernel
theorem dX11_heard_76 : decode cX11_heard 76 = .ok (.getfield 76, 3) := by decide +kernel
theorem dX11_heard_79 : decode cX11_heard 79 = .ok (.getfield 178, 3) := by decide +kernel
theorem dX11_heard_82 : decode cX11_heard 82 = .ok (.invokestatic 181, 3) := by decide +kernel
theorem dX11_heard_85 : decode cX11_heard 85 = .ok (.aload_n 0, 1) := by decide +kernel
theorem dX11_heard_86 : decode cX11_heard 86 = .ok (.getfield 10, 3) := by decide +kernel
theorem dX11_heard_89 : decode cX11_heard 89 = .ok (.getfield 122, 3) := by decide +kernel
theorem dX11_heard_92 : decode cX11_heard 92 = .ok (.iload 4, 2) := by decide +kernel
theorem dX11_heard_94 : decode cX11_heard 94 = .ok (.invokevirtual 185, 3) := by decide +kernel
theorem dX11_heard_97 : decode cX11_heard 97 = .ok (.isub, 1) := by decide +kernel
theorem dX11_heard_98 : decode cX11_heard 98 = .ok (.invokestatic 188, 3) := by decide +kernel
theorem dX11_heard_101 : decode cX11_heard 101 = .ok (.ireturn, 1) := by decide +kernel
theorem dX11_slept_0 : decode cX11_slept 0 = .ok (.aload_n 0, 1) := by decide +kernel
theorem dX11_slept_1 : decode cX11_slept 1 = .ok (.getfield 10, 3) := by decide +kernel
theorem dX11_slept_4 : decode cX11_slept 4 = .ok (.getfield 103, 3) := by decide +kernel
theorem dX11_slept_7 : decode cX11_slept 7 = .ok (.iload_n 1, 1) := by decide +kernel
theorem dX11_slept_8 : decode cX11_slept 8 = .ok (.invokevirtual 193, 3) := by decide +kernel
theorem dX11_slept_11 : decode cX11_slept 11 = .ok (.ifCond .ne 10, 3) := by decide +kernel
theorem dX11_slept_14 : decode cX11_slept 14 = .ok (.aload_n 0, 1) := by decide +kernel
theorem dX11_slept_15 : decode cX11_slept 15 = .ok (.bipush (-2), 2) := by decide +kernel
theorem dX11_slept_17 : decode cX11_slept 17 = .ok (.invokevirtual 86, 3) := by decide +kernel
theorem dX11_slept_20 : decode cX11_slept 20 = .ok (.ireturn, 1) := by decide +kernel
theorem dX11_slept_21 : decode cX11_slept 21 = .ok (.aload_n 0, 1) := by decide +kernel
theorem dX11_slept_22 : decode cX11_slept 22 = .ok (.aload_n 0, 1) := by decide +kernel
theorem dX11_slept_23 : decode cX11_slept 23 = .ok (.getfield 10, 3) := by decide +kernel
theorem dX11_slept_26 : decode cX11_slept 26 = .ok (.iconst 0, 1) := by decide +kernel
theorem dX11_slept_27 : decode cX11_slept 27 = .ok (.invokevirtual 196, 3) := by decide +kernel
theorem dX11_slept_30 : decode cX11_slept 30 = .ok (.aload_n 0, 1) := by decide +kernel
theorem dX11_slept_31 : decode cX11_slept 31 = .ok (.getfield 37, 3) := by decide +kernel
theorem dX11_slept_34 : decode cX11_slept 34 = .ok (.getfield 200, 3) := by decide +kernel
theorem dX11_slept_37 : decode cX11_slept 37 = .ok (.iload_n 1, 1) := by decide +kernel
theorem dX11_slept_38 : decode cX11_slept 38 = .ok (.iaload, 1) := by decide +kernel
theorem dX11_slept_39 : decode cX11_slept 39 = .ok (.ireturn, 1) := by decide +kernel
theorem dX11_is_0 : decode cX11_is 0 = .ok (.aload_n 0, 1) := by decide +kernel
theorem dX11_is_1 : decode cX11_is 1 = .ok (.getfield 10, 3) := by decide +kernel
theorem dX11_is_4 : decode cX11_is 4 = .ok (.getfield 103, 3) := by decide +kernel
theorem dX11_is_7 : decode cX11_is 7 = .ok (.iload_n 1, 1) := by decide +kernel
theorem dX11_is_8 : decode cX11_is 8 = .ok (.invokevirtual 193, 3) := by decide +kernel
theorem dX11_is_11 : decode cX11_is 11 = .ok (.ifCond .eq 13, 3) := by decide +kernel
theorem dX11_is_14 : decode cX11_is 14 = .ok (.iload_n 2, 1) := by decide +kernel
theorem dX11_is_15 : decode cX11_is 15 = .ok (.iconst 0, 1) := by decide +kernel
theorem dX11_is_16 : decode cX11_is 16 = .ok (.bipush 39, 2) := by decide +kernel
theorem dX11_is_18 : decode cX11_is 18 = .ok (.invokestatic 174, 3) := by decide +kernel
theorem dX11_is_21 : decode cX11_is 21 = .ok (.ifCond .ne 10, 3) := by decide +kernel
theorem dX11_is_24 : decode cX11_is 24 = .ok (.aload_n 0, 1) := by decide +kernel
theorem dX11_is_25 : decode cX11_is 25 = .ok (.bipush (-2), 2) := by decide +kernel
theorem dX11_is_27 : decode cX11_is 27 = .ok (.invokevirtual 86, 3) := by decide +kernel
theorem dX11_is_30 : decode cX11_is 30 = .ok (.ireturn, 1) := by decide +kernel
theorem dX11_is_31 : decode cX11_is 31 = .ok (.aload_n 0, 1) := by decide +kernel
theorem dX11_is_32 : decode cX11_is 32 = .ok (.aload_n 0, 1) := by decide +kernel
theorem dX11_is_33 : decode cX11_is 33 = .ok (.getfield 10, 3) := by decide +kernel
theorem dX11_is_36 : decode cX11_is 36 = .ok (.iconst 0, 1) := by decide +kernel
theorem dX11_is_37 : decode cX11_is 37 = .ok (.invokevirtual 196, 3) := by decide +kernel
theorem dX11_is_40 : decode cX11_is 40 = .ok (.aload_n 0, 1) := by decide +kernel
theorem dX11_is_41 : decode cX11_is 41 = .ok (.getfield 37, 3) := by decide +kernel
theorem dX11_is_44 : decode cX11_is 44 = .ok (.getfield 203, 3) := by decide +kernel
theorem dX11_is_47 : decode cX11_is 47 = .ok (.iload_n 1, 1) := by decide +kernel
theorem dX11_is_48 : decode cX11_is 48 = .ok (.aaload, 1) := by decide +kernel
theorem dX11_is_49 : decode cX11_is 49 = .ok (.iload_n 2, 1) := by decide +kernel
theorem dX11_is_50 : decode cX11_is 50 = .ok (.iaload, 1) := by decide +kernel
theorem dX11_is_51 : decode cX11_is 51 = .ok (.ireturn, 1) := by decide +kernel
theorem dX11_wakes_0 : decode cX11_wakes 0 = .ok (.aload_n 0, 1) := by decide +kernel
theorem dX11_wakes_1 : decode cX11_wakes 1 = .ok (.getfield 10, 3) := by decide +kernel
theorem dX11_wakes_4 : decode cX11_wakes 4 = .ok (.getfield 103, 3) := by decide +kernel
theorem dX11_wakes_7 : decode cX11_wakes 7 = .ok (.iload_n 1, 1) := by decide +kernel
theorem dX11_wakes_8 : decode cX11_wakes 8 = .ok (.invokevirtual 193, 3) := by decide +kernel
theorem dX11_wakes_11 : decode cX11_wakes 11 = .ok (.ifCond .eq 8, 3) := by decide +kernel
theorem dX11_wakes_14 : decode cX11_wakes 14 = .ok (.iload_n 2, 1) := by decide +kernel
theorem dX11_wakes_15 : decode cX11_wakes 15 = .ok (.iconst (-1), 1) := by decide +kernel
theorem dX11_wakes_16 : decode cX11_wakes 16 = .ok (.if_icmp .ge 12, 3) := by decide +kernel
theorem dX11_wakes_19 : decode cX11_wakes 19 = .ok (.aload_n 0, 1) := by decide +kernel
theorem dX11_wakes_20 : decode cX11_wakes 20 = .ok (.bipush (-2), 2) := by decide +kernel
theorem dX11_wakes_22 : decode cX11_wakes 22 = .ok (.bipush (-10), 2) := by decide +kernel
theorem dX11_wakes_24 : decode cX11_wakes 24 = .ok (.invokevirtual 116, 3) := by decide +kernel
theorem dX11_wakes_27 : decode cX11_wakes 27 = .ok (.ireturn, 1) := by decide +kernel
theorem dX11_wakes_28 : decode cX11_wakes 28 = .ok (.aload_n 0, 1) := by decide +kernel
theorem dX11_wakes_29 : decode cX11_wakes 29 = .ok (.aload_n 0, 1) := by decide +kernel
theorem dX11_wakes_30 : decode cX11_wakes 30 = .ok (.getfield 10, 3) := by decide +kernel
theorem dX11_wakes_33 : decode cX11_wakes 33 = .ok (.iconst 0, 1) := by decide +kernel
theorem dX11_wakes_34 : decode cX11_wakes 34 = .ok (.invokevirtual 196, 3) := by decide +kernel
theorem dX11_wakes_37 : decode cX11_wakes 37 = .ok (.iload_n 2, 1) := by decide +kernel
theorem dX11_wakes_38 : decode cX11_wakes 38 = .ok (.iconst (-1), 1) := by decide +kernel
theorem dX11_wakes_39 : decode cX11_wakes 39 = .ok (.if_icmp .ne 13, 3) := by decide +kernel
theorem dX11_wakes_42 : decode cX11_wakes 42 = .ok (.aload_n 0, 1) := by decide +kernel
theorem dX11_wakes_43 : decode cX11_wakes 43 = .ok (.getfield 37, 3) := by decide +kernel
theorem dX11_wakes_46 : decode cX11_wakes 46 = .ok (.getfield 206, 3) := by decide +kernel
theorem dX11_wakes_49 : decode cX11_wakes 49 = .ok (.iload_n 1, 1) := by decide +kernel
theorem dX11_wakes_50 : decode cX11_wakes 50 = .ok (.iaload, 1) := by decide +kernel
theorem dX11_wakes_51 : decode cX11_wakes 51 = .ok (.ireturn, 1) := by decide +kernel
theorem dX11_wakes_52 : decode cX11_wakes 52 = .ok (.iload_n 2, 1) := by decide +kernel
theorem dX11_wakes_53 : decode cX11_wakes 53 = .ok (.aload_n 0, 1) := by decide +kernel
theorem dX11_wakes_54 : decode cX11_wakes 54 = .ok (.getfield 37, 3) := by decide +kernel
theorem dX11_wakes_57 : decode cX11_wakes 57 = .ok (.getfield 206, 3) := by decide +kernel
theorem dX11_wakes_60 : decode cX11_wakes 60 = .ok (.iload_n 1, 1) := by decide +kernel
theorem dX11_wakes_61 : decode cX11_wakes 61 = .ok (.iaload, 1) := by decide +kernel
theorem dX11_wakes_62 : decode cX11_wakes 62 = .ok (.if_icmp .ge 17, 3) := by decide +kernel
theorem dX11_wakes_65 : decode cX11_wakes 65 = .ok (.aload_n 0, 1) := by decide +kernel
theorem dX11_wakes_66 : decode cX11_wakes 66 = .ok (.getfield 37, 3) := by decide +kernel
theorem dX11_wakes_69 : decode cX11_wakes 69 = .ok (.getfield 209, 3) := by decide +kernel
theorem dX11_wakes_72 : decode cX11_wakes 72 = .ok (.iload_n 1, 1) := by decide +kernel
theorem dX11_wakes_73 : decode cX11_wakes 73 = .ok (.aaload, 1) := by decide +kernel
theorem dX11_wakes_74 : decode cX11_wakes 74 = .ok (.iload_n 2, 1) := by decide +kernel
theorem dX11_wakes_75 : decode cX11_wakes 75 = .ok (.iaload, 1) := by decide +kernel
theorem dX11_wakes_76 : decode cX11_wakes 76 = .ok (.goto 5, 3) := by decide +kernel
theorem dX11_wakes_79 : decode cX11_wakes 79 = .ok (.bipush (-5), 2) := by decide +kernel
theorem dX11_wakes_81 : decode cX11_wakes 81 = .ok (.ireturn, 1) := by decide +kernel
theorem dX11_woke_0 : decode cX11_woke 0 = .ok (.aload_n 0, 1) := by decide +kernel
theorem dX11_woke_1 : decode cX11_woke 1 = .ok (.getfield 10, 3) := by decide +kernel
theorem dX11_woke_4 : decode cX11_woke 4 = .ok (.getfield 103, 3) := by decide +kernel
theorem dX11_woke_7 : decode cX11_woke 7 = .ok (.iload_n 1, 1) := by decide +kernel
theorem dX11_woke_8 : decode cX11_woke 8 = .ok (.invokevirtual 193, 3) := by decide +kernel
theorem dX11_woke_11 : decode cX11_woke 11 = .ok (.ifCond .eq 22, 3) := by decide +kernel
theorem dX11_woke_14 : decode cX11_woke 14 = .ok (.aload_n 0, 1) := by decide +kernel
theorem dX11_woke_15 : decode cX11_woke 15 = .ok (.getfield 10, 3) := by decide +kernel
theorem dX11_woke_18 : decode cX11_woke 18 = .ok (.getfield 103, 3) := by decide +kernel
theorem dX11_woke_21 : decode cX11_woke 21 = .ok (.iload_n 2, 1) := by decide +kernel
theorem dX11_woke_22 : decode cX11_woke 22 = .ok (.invokevirtual 193, 3) := by decide +kernel
theorem dX11_woke_25 : decode cX11_woke 25 = .ok (.ifCond .eq 8, 3) := by decide +kernel
theorem dX11_woke_28 : decode cX11_woke 28 = .ok (.iload_n 1, 1) := by decide +kernel
theorem dX11_woke_29 : decode cX11_woke 29 = .ok (.iload_n 2, 1) := by decide +kernel
theorem dX11_woke_30 : decode cX11_woke 30 = .ok (.if_icmp .ne 10, 3) := by decide +kernel
theorem dX11_woke_33 : decode cX11_woke 33 = .ok (.aload_n 0, 1) := by decide +kernel
theorem dX11_woke_34 : decode cX11_woke 34 = .ok (.bipush (-2), 2) := by decide +kernel
theorem dX11_woke_36 : decode cX11_woke 36 = .ok (.invokevirtual 86, 3) := by decide +kernel
theorem dX11_woke_39 : decode cX11_woke 39 = .ok (.ireturn, 1) := by decide +kernel
theorem dX11_woke_40 : decode cX11_woke 40 = .ok (.aload_n 0, 1) := by decide +kernel
theorem dX11_woke_41 : decode cX11_woke 41 = .ok (.aload_n 0, 1) := by decide +kernel
theorem dX11_woke_42 : decode cX11_woke 42 = .ok (.getfield 10, 3) := by decide +kernel
theorem dX11_woke_45 : decode cX11_woke 45 = .ok (.iconst 0, 1) := by decide +kernel
theorem dX11_woke_46 : decode cX11_woke 46 = .ok (.invokevirtual 196, 3) := by decide +kernel
theorem dX11_woke_49 : decode cX11_woke 49 = .ok (.aload_n 0, 1) := by decide +kernel
theorem dX11_woke_50 : decode cX11_woke 50 = .ok (.getfield 37, 3) := by decide +kernel
theorem dX11_woke_53 : decode cX11_woke 53 = .ok (.iload_n 1, 1) := by decide +kernel
theorem dX11_woke_54 : decode cX11_woke 54 = .ok (.iload_n 2, 1) := by decide +kernel
theorem dX11_woke_55 : decode cX11_woke 55 = .ok (.invokevirtual 212, 3) := by decide +kernel
theorem dX11_woke_58 : decode cX11_woke 58 = .ok (.ireturn, 1) := by decide +kernel
theorem dX11_night_0 : decode cX11_night 0 = .ok (.iload_n 1, 1) := by decide +kernel
theorem dX11_night_1 : decode cX11_night 1 = .ok (.ifCond .eq 15, 3) := by decide +kernel
theorem dX11_night_4 : decode cX11_night 4 = .ok (.iload_n 1, 1) := by decide +kernel
theorem dX11_night_5 : decode cX11_night 5 = .ok (.iconst 1, 1) := by decide +kernel
theorem dX11_night_6 : decode cX11_night 6 = .ok (.if_icmp .eq 10, 3) := by decide +kernel
theorem dX11_night_9 : decode cX11_night 9 = .ok (.aload_n 0, 1) := by decide +kernel
theorem dX11_night_10 : decode cX11_night 10 = .ok (.bipush (-2), 2) := by decide +kernel
theorem dX11_night_12 : decode cX11_night 12 = .ok (.invokevirtual 86, 3) := by decide +kernel
theorem dX11_night_15 : decode cX11_night 15 = .ok (.ireturn, 1) := by decide +kernel
theorem dX11_night_16 : decode cX11_night 16 = .ok (.aload_n 0, 1) := by decide +kernel
theorem dX11_night_17 : decode cX11_night 17 = .ok (.aload_n 0, 1) := by decide +kernel
theorem dX11_night_18 : decode cX11_night 18 = .ok (.getfield 10, 3) := by decide +kernel
theorem dX11_night_21 : decode cX11_night 21 = .ok (.iconst 0, 1) := by decide +kernel
theorem dX11_night_22 : decode cX11_night 22 = .ok (.invokevirtual 196, 3) := by decide +kernel
theorem dX11_night_25 : decode cX11_night 25 = .ok (.iload_n 1, 1) := by decide +kernel
theorem dX11_night_26 : decode cX11_night 26 = .ok (.ifCond .ne 13, 3) := by decide +kernel
theorem dX11_night_29 : decode cX11_night 29 = .ok (.aload_n 0, 1) := by decide +kernel
theorem dX11_night_30 : decode cX11_night 30 = .ok (.getfield 37, 3) := by decide +kernel
theorem dX11_night_33 : decode cX11_night 33 = .ok (.invokevirtual 215, 3) := by decide +kernel
theorem dX11_night_36 : decode cX11_night 36 = .ok (.goto 10, 3) := by decide +kernel
theorem dX11_night_39 : decode cX11_night 39 = .ok (.aload_n 0, 1) := by decide +kernel
theorem dX11_night_40 : decode cX11_night 40 = .ok (.getfield 37, 3) := by decide +kernel
theorem dX11_night_43 : decode cX11_night 43 = .ok (.invokevirtual 218, 3) := by decide +kernel
theorem dX11_night_46 : decode cX11_night 46 = .ok (.ireturn, 1) := by decide +kernel
theorem dX11_way_0 : decode cX11_way 0 = .ok (.aload_n 0, 1) := by decide +kernel
theorem dX11_way_1 : decode cX11_way 1 = .ok (.iload_n 1, 1) := by decide +kernel
theorem dX11_way_2 : decode cX11_way 2 = .ok (.invokevirtual 221, 3) := by decide +kernel
theorem dX11_way_5 : decode cX11_way 5 = .ok (.ifCond .eq 20, 3) := by decide +kernel
theorem dX11_way_8 : decode cX11_way 8 = .ok (.aload_n 0, 1) := by decide +kernel
theorem dX11_way_9 : decode cX11_way 9 = .ok (.iload_n 2, 1) := by decide +kernel
theorem dX11_way_10 : decode cX11_way 10 = .ok (.invokevirtual 221, 3) := by decide +kernel
theorem dX11_way_13 : decode cX11_way 13 = .ok (.ifCond .eq 12, 3) := by decide +kernel
theorem dX11_way_16 : decode cX11_way 16 = .ok (.iload_n 3, 1) := by decide +kernel
theorem dX11_way_17 : decode cX11_way 17 = .ok (.iconst 0, 1) := by decide +kernel
theorem dX11_way_18 : decode cX11_way 18 = .ok (.iconst 2, 1) := by decide +kernel
theorem dX11_way_19 : decode cX11_way 19 = .ok (.invokestatic 174, 3) := by decide +kernel
theorem dX11_way_22 : decode cX11_way 22 = .ok (.ifCond .ne 10, 3) := by decide +kernel
theorem dX11_way_25 : decode cX11_way 25 = .ok (.aload_n 0, 1) := by decide +kernel
theorem dX11_way_26 : decode cX11_way 26 = .ok (.bipush (-2), 2) := by decide +kernel
theorem dX11_way_28 : decode cX11_way 28 = .ok (.invokevirtual 86, 3) := by decide +kernel
theorem dX11_way_31 : decode cX11_way 31 = .ok (.ireturn, 1) := by decide +kernel
theorem dX11_way_32 : decode cX11_way 32 = .ok (.aload_n 0, 1) := by decide +kernel
theorem dX11_way_33 : decode cX11_way 33 = .ok (.getfield 51, 3) := by decide +kernel
theorem dX11_way_36 : decode cX11_way 36 = .ok (.aload_n 0, 1) := by decide +kernel
theorem dX11_way_37 : decode cX11_way 37 = .ok (.getfield 10, 3) := by decide +kernel
theorem dX11_way_40 : decode cX11_way 40 = .ok (.iload_n 1, 1) := by decide +kernel
theorem dX11_way_41 : decode cX11_way 41 = .ok (.iload_n 2, 1) := by decide +kernel
theorem dX11_way_42 : decode cX11_way 42 = .ok (.invokevirtual 224, 3) := by decide +kernel
theorem dX11_way_45 : decode cX11_way 45 = .ok (.ifCond .ne 10, 3) := by decide +kernel
theorem dX11_way_48 : decode cX11_way 48 = .ok (.aload_n 0, 1) := by decide +kernel
theorem dX11_way_49 : decode cX11_way 49 = .ok (.bipush (-3), 2) := by decide +kernel
theorem dX11_way_51 : decode cX11_way 51 = .ok (.invokevirtual 86, 3) := by decide +kernel
theorem dX11_way_54 : decode cX11_way 54 = .ok (.ireturn, 1) := by decide +kernel
theorem dX11_way_55 : decode cX11_way 55 = .ok (.iload_n 3, 1) := by decide +kernel
theorem dX11_way_56 : decode cX11_way 56 = .ok (.ifCond .ne 11, 3) := by decide +kernel
theorem dX11_way_59 : decode cX11_way 59 = .ok (.aload_n 0, 1) := by decide +kernel
theorem dX11_way_60 : decode cX11_way 60 = .ok (.getfield 51, 3) := by decide +kernel
theorem dX11_way_63 : decode cX11_way 63 = .ok (.getfield 228, 3) := by decide +kernel
theorem dX11_way_66 : decode cX11_way 66 = .ok (.ireturn, 1) := by decide +kernel
theorem dX11_way_67 : decode cX11_way 67 = .ok (.iload_n 3, 1) := by decide +kernel
theorem dX11_way_68 : decode cX11_way 68 = .ok (.iconst 1, 1) := by decide +kernel
theorem dX11_way_69 : decode cX11_way 69 = .ok (.if_icmp .ne 13, 3) := by decide +kernel
theorem dX11_way_72 : decode cX11_way 72 = .ok (.aload_n 0, 1) := by decide +kernel
theorem dX11_way_73 : decode cX11_way 73 = .ok (.getfield 51, 3) := by decide +kernel
theorem dX11_way_76 : decode cX11_way 76 = .ok (.getfield 231, 3) := by decide +kernel
theorem dX11_way_79 : decode cX11_way 79 = .ok (.goto 10, 3) := by decide +kernel
theorem dX11_way_82 : decode cX11_way 82 = .ok (.aload_n 0, 1) := by decide +kernel
theorem dX11_way_83 : decode cX11_way 83 = .ok (.getfield 51, 3) := by decide +kernel
theorem dX11_way_86 : decode cX11_way 86 = .ok (.getfield 234, 3) := by decide +kernel
theorem dX11_way_89 : decode cX11_way 89 = .ok (.ireturn, 1) := by decide +kernel
theorem dX11_rule_0 : decode cX11_rule 0 = .ok (.aload_n 0, 1) := by decide +kernel
theorem dX11_rule_1 : decode cX11_rule 1 = .ok (.getfield 10, 3) := by decide +kernel
theorem dX11_rule_4 : decode cX11_rule 4 = .ok (.getfield 103, 3) := by decide +kernel
theorem dX11_rule_7 : decode cX11_rule 7 = .ok (.iload_n 1, 1) := by decide +kernel
theorem dX11_rule_8 : decode cX11_rule 8 = .ok (.invokevirtual 193, 3) := by decide +kernel
theorem dX11_rule_11 : decode cX11_rule 11 = .ok (.ifCond .eq 17, 3) := by decide +kernel
theorem dX11_rule_14 : decode cX11_rule 14 = .ok (.aload_n 0, 1) := by decide +kernel
theorem dX11_rule_15 : decode cX11_rule 15 = .ok (.getfield 10, 3) := by decide +kernel
theorem dX11_rule_18 : decode cX11_rule 18 = .ok (.getfield 76, 3) := by decide +kernel
theorem dX11_rule_21 : decode cX11_rule 21 = .ok (.iload_n 2, 1) := by decide +kernel
theorem dX11_rule_22 : decode cX11_rule 22 = .ok (.invokevirtual 237, 3) := by decide +kernel
theorem dX11_rule_25 : decode cX11_rule 25 = .ok (.ifCond .ne 10, 3) := by decide +kernel
theorem dX11_rule_28 : decode cX11_rule 28 = .ok (.aload_n 0, 1) := by decide +kernel
theorem dX11_rule_29 : decode cX11_rule 29 = .ok (.bipush (-2), 2) := by decide +kernel
theorem dX11_rule_31 : decode cX11_rule 31 = .ok (.invokevirtual 86, 3) := by decide +kernel
theorem dX11_rule_34 : decode cX11_rule 34 = .ok (.ireturn, 1) := by decide +kernel
theorem dX11_rule_35 : decode cX11_rule 35 = .ok (.aload_n 0, 1) := by decide +kernel
theorem dX11_rule_36 : decode cX11_rule 36 = .ok (.aload_n 0, 1) := by decide +kernel
theorem dX11_rule_37 : decode cX11_rule 37 = .ok (.getfield 10, 3) := by decide +kernel
theorem dX11_rule_40 : decode cX11_rule 40 = .ok (.getfield 240, 3) := by decide +kernel
theorem dX11_rule_43 : decode cX11_rule 43 = .ok (.iload_n 1, 1) := by decide +kernel
theorem dX11_rule_44 : decode cX11_rule 44 = .ok (.iload_n 2, 1) := by decide +kernel
theorem dX11_rule_45 : decode cX11_rule 45 = .ok (.iload_n 3, 1) := by decide +kernel
theorem dX11_rule_46 : decode cX11_rule 46 = .ok (.invokevirtual 244, 3) := by decide +kernel
theorem dX11_rule_49 : decode cX11_rule 49 = .ok (.invokevirtual 86, 3) := by decide +kernel
theorem dX11_rule_52 : decode cX11_rule 52 = .ok (.ireturn, 1) := by decide +kernel
theorem dX11_free_0 : decode cX11_free 0 = .ok (.aload_n 0, 1) := by decide +kernel
theorem dX11_free_1 : decode cX11_free 1 = .ok (.getfield 10, 3) := by decide +kernel
theorem dX11_free_4 : decode cX11_free 4 = .ok (.getfield 240, 3) := by decide +kernel
theorem dX11_free_7 : decode cX11_free 7 = .ok (.getfield 249, 3) := by decide +kernel
theorem dX11_free_10 : decode cX11_free 10 = .ok (.istore_n 1, 1) := by decide +kernel
theorem dX11_free_11 : decode cX11_free 11 = .ok (.aload_n 0, 1) := by decide +kernel
theorem dX11_free_12 : decode cX11_free 12 = .ok (.getfield 10, 3) := by decide +kernel
theorem dX11_free_15 : decode cX11_free 15 = .ok (.getfield 240, 3) := by decide +kernel
theorem dX11_free_18 : decode cX11_free 18 = .ok (.iconst 0, 1) := by decide +kernel
theorem dX11_free_19 : decode cX11_free 19 = .ok (.putfield 249, 3) := by decide +kernel
theorem dX11_free_22 : decode cX11_free 22 = .ok (.iload_n 1, 1) := by decide +kernel
theorem dX11_free_23 : decode cX11_free 23 = .ok (.ireturn, 1) := by decide +kernel
theorem dX11_best_0 : decode cX11_best 0 = .ok (.iload_n 2, 1) := by decide +kernel
theorem dX11_best_1 : decode cX11_best 1 = .ok (.iconst (-1), 1) := by decide +kernel
theorem dX11_best_2 : decode cX11_best 2 = .ok (.if_icmp .eq 26, 3) := by decide +kernel
theorem dX11_best_5 : decode cX11_best 5 = .ok (.aload_n 0, 1) := by decide +kernel
theorem dX11_best_6 : decode cX11_best 6 = .ok (.getfield 10, 3) := by decide +kernel
theorem dX11_best_9 : decode cX11_best 9 = .ok (.getfield 103, 3) := by decide +kernel
theorem dX11_best_12 : decode cX11_best 12 = .ok (.iload_n 2, 1) := by decide +kernel
theorem dX11_best_13 : decode cX11_best 13 = .ok (.invokevirtual 193, 3) := by decide +kernel
theorem dX11_best_16 : decode cX11_best 16 = .ok (.ifCond .ne 12, 3) := by decide +kernel
theorem dX11_best_19 : decode cX11_best 19 = .ok (.aload_n 0, 1) := by decide +kernel
theorem dX11_best_20 : decode cX11_best 20 = .ok (.bipush (-2), 2) := by decide +kernel
theorem dX11_best_22 : decode cX11_best 22 = .ok (.bipush (-10), 2) := by decide +kernel
theorem dX11_best_24 : decode cX11_best 24 = .ok (.invokevirtual 116, 3) := by decide +kernel
theorem dX11_best_27 : decode cX11_best 27 = .ok (.ireturn, 1) := by decide +kernel
theorem dX11_best_28 : decode cX11_best 28 = .ok (.aload_n 0, 1) := by decide +kernel
theorem dX11_best_29 : decode cX11_best 29 = .ok (.getfield 44, 3) := by decide +kernel
theorem dX11_best_32 : decode cX11_best 32 = .ok (.aload_n 0, 1) := by decide +kernel
theorem dX11_best_33 : decode cX11_best 33 = .ok (.getfield 10, 3) := by decide +kernel
theorem dX11_best_36 : decode cX11_best 36 = .ok (.iload_n 1, 1) := by decide +kernel
theorem dX11_best_37 : decode cX11_best 37 = .ok (.invokevirtual 252, 3) := by decide +kernel
theorem dX11_best_40 : decode cX11_best 40 = .ok (.ifCond .ne 12, 3) := by decide +kernel
theorem dX11_best_43 : decode cX11_best 43 = .ok (.aload_n 0, 1) := by decide +kernel
theorem dX11_best_44 : decode cX11_best 44 = .ok (.bipush (-3), 2) := by decide +kernel
theorem dX11_best_46 : decode cX11_best 46 = .ok (.bipush (-20), 2) := by decide +kernel
theorem dX11_best_48 : decode cX11_best 48 = .ok (.invokevirtual 116, 3) := by decide +kernel
theorem dX11_best_51 : decode cX11_best 51 = .ok (.ireturn, 1) := by decide +kernel
theorem dX11_best_52 : decode cX11_best 52 = .ok (.iload_n 2, 1) := by decide +kernel
theorem dX11_best_53 : decode cX11_best 53 = .ok (.iconst (-1), 1) := by decide +kernel
theorem dX11_best_54 : decode cX11_best 54 = .ok (.if_icmp .ne 13, 3) := by decide +kernel
theorem dX11_best_57 : decode cX11_best 57 = .ok (.aload_n 0, 1) := by decide +kernel
theorem dX11_best_58 : decode cX11_best 58 = .ok (.getfield 44, 3) := by decide +kernel
theorem dX11_best_61 : decode cX11_best 61 = .ok (.getfield 256, 3) := by decide +kernel
theorem dX11_best_64 : decode cX11_best 64 = .ok (.goto 12, 3) := by decide +kernel
theorem dX11_best_67 : decode cX11_best 67 = .ok (.aload_n 0, 1) := by decide +kernel
theorem dX11_best_68 : decode cX11_best 68 = .ok (.getfield 44, 3) := by decide +kernel
theorem dX11_best_71 : decode cX11_best 71 = .ok (.getfield 258, 3) := by decide +kernel
theorem dX11_best_74 : decode cX11_best 74 = .ok (.iload_n 2, 1) := by decide +kernel
theorem dX11_best_75 : decode cX11_best 75 = .ok (.iaload, 1) := by decide +kernel
theorem dX11_best_76 : decode cX11_best 76 = .ok (.ireturn, 1) := by decide +kernel
theorem dX11_cost_0 : decode cX11_cost 0 = .ok (.aload_n 0, 1) := by decide +kernel
theorem dX11_cost_1 : decode cX11_cost 1 = .ok (.getfield 44, 3) := by decide +kernel
theorem dX11_cost_4 : decode cX11_cost 4 = .ok (.aload_n 0, 1) := by decide +kernel
theorem dX11_cost_5 : decode cX11_cost 5 = .ok (.getfield 10, 3) := by decide +kernel
theorem dX11_cost_8 : decode cX11_cost 8 = .ok (.iconst 0, 1) := by decide +kernel
theorem dX11_cost_9 : decode cX11_cost 9 = .ok (.invokevirtual 252, 3) := by decide +kernel
theorem dX11_cost_12 : decode cX11_cost 12 = .ok (.ifCond .ne 10, 3) := by decide +kernel
theorem dX11_cost_15 : decode cX11_cost 15 = .ok (.aload_n 0, 1) := by decide +kernel
theorem dX11_cost_16 : decode cX11_cost 16 = .ok (.bipush (-3), 2) := by decide +kernel
theorem dX11_cost_18 : decode cX11_cost 18 = .ok (.invokevirtual 86, 3) := by decide +kernel
theorem dX11_cost_21 : decode cX11_cost 21 = .ok (.ireturn, 1) := by decide +kernel
theorem dX11_cost_22 : decode cX11_cost 22 = .ok (.aload_n 0, 1) := by decide +kernel
theorem dX11_cost_23 : decode cX11_cost 23 = .ok (.getfield 44, 3) := by decide +kernel
theorem dX11_cost_26 : decode cX11_cost 26 = .ok (.getfield 256, 3) := by decide +kernel
theorem dX11_cost_29 : decode cX11_cost 29 = .ok (.istore_n 1, 1) := by decide +kernel
theorem dX11_cost_30 : decode cX11_cost 30 = .ok (.aload_n 0, 1) := by decide +kernel
theorem dX11_cost_31 : decode cX11_cost 31 = .ok (.getfield 44, 3) := by decide +kernel
theorem dX11_cost_34 : decode cX11_cost 34 = .ok (.aload_n 0, 1) := by decide +kernel
theorem dX11_cost_35 : decode cX11_cost 35 = .ok (.getfield 10, 3) := by decide +kernel
theorem dX11_cost_38 : decode cX11_cost 38 = .ok (.iconst 1, 1) := by decide +kernel
theorem dX11_cost_39 : decode cX11_cost 39 = .ok (.invokevirtual 252, 3) := by decide +kernel
theorem dX11_cost_42 : decode cX11_cost 42 = .ok (.ifCond .ne 10, 3) := by decide +kernel
theorem dX11_cost_45 : decode cX11_cost 45 = .ok (.aload_n 0, 1) := by decide +kernel
theorem dX11_cost_46 : decode cX11_cost 46 = .ok (.bipush (-3), 2) := by decide +kernel
theorem dX11_cost_48 : decode cX11_cost 48 = .ok (.invokevirtual 86, 3) := by decide +kernel
theorem dX11_cost_51 : decode cX11_cost 51 = .ok (.ireturn, 1) := by decide +kernel
theorem dX11_cost_52 : decode cX11_cost 52 = .ok (.iload_n 1, 1) := by decide +kernel
theorem dX11_cost_53 : decode cX11_cost 53 = .ok (.aload_n 0, 1) := by decide +kernel
theorem dX11_cost_54 : decode cX11_cost 54 = .ok (.getfield 44, 3) := by decide +kernel
theorem dX11_cost_57 : decode cX11_cost 57 = .ok (.getfield 256, 3) := by decide +kernel
theorem dX11_cost_60 : decode cX11_cost 60 = .ok (.isub, 1) := by decide +kernel
theorem dX11_cost_61 : decode cX11_cost 61 = .ok (.ireturn, 1) := by decide +kernel
theorem dX11_order_0 : decode cX11_order 0 = .ok (.iload_n 1, 1) := by decide +kernel
theorem dX11_order_1 : decode cX11_order 1 = .ok (.iconst (-1), 1) := by decide +kernel
theorem dX11_order_2 : decode cX11_order 2 = .ok (.if_icmp .eq 24, 3) := by decide +kernel
theorem dX11_order_5 : decode cX11_order 5 = .ok (.aload_n 0, 1) := by decide +kernel
theorem dX11_order_6 : decode cX11_order 6 = .ok (.getfield 10, 3) := by decide +kernel
theorem dX11_order_9 : decode cX11_order 9 = .ok (.getfield 103, 3) := by decide +kernel
theorem dX11_order_12 : decode cX11_order 12 = .ok (.iload_n 1, 1) := by decide +kernel
theorem dX11_order_13 : decode cX11_order 13 = .ok (.invokevirtual 193, 3) := by decide +kernel
theorem dX11_order_16 : decode cX11_order 16 = .ok (.ifCond .ne 10, 3) := by decide +kernel
theorem dX11_order_19 : decode cX11_order 19 = .ok (.aload_n 0, 1) := by decide +kernel
theorem dX11_order_20 : decode cX11_order 20 = .ok (.bipush (-2), 2) := by decide +kernel
theorem dX11_order_22 : decode cX11_order 22 = .ok (.invokevirtual 86, 3) := by decide +kernel
theorem dX11_order_25 : decode cX11_order 25 = .ok (.ireturn, 1) := by decide +kernel
theorem dX11_order_26 : decode cX11_order 26 = .ok (.aload_n 0, 1) := by decide +kernel
theorem dX11_order_27 : decode cX11_order 27 = .ok (.getfield 10, 3) := by decide +kernel
theorem dX11_order_30 : decode cX11_order 30 = .ok (.getfield 103, 3) := by decide +kernel
theorem dX11_order_33 : decode cX11_order 33 = .ok (.getfield 261, 3) := by decide +kernel
theorem dX11_order_36 : decode cX11_order 36 = .ok (.ifCond .ne 10, 3) := by decide +kernel
theorem dX11_order_39 : decode cX11_order 39 = .ok (.aload_n 0, 1) := by decide +kernel
theorem dX11_order_40 : decode cX11_order 40 = .ok (.bipush (-3), 2) := by decide +kernel
theorem dX11_order_42 : decode cX11_order 42 = .ok (.invokevirtual 86, 3) := by decide +kernel
theorem dX11_order_45 : decode cX11_order 45 = .ok (.ireturn, 1) := by decide +kernel
theorem dX11_order_46 : decode cX11_order 46 = .ok (.aload_n 0, 1) := by decide +kernel
theorem dX11_order_47 : decode cX11_order 47 = .ok (.getfield 44, 3) := by decide +kernel
theorem dX11_order_50 : decode cX11_order 50 = .ok (.aload_n 0, 1) := by decide +kernel
theorem dX11_order_51 : decode cX11_order 51 = .ok (.getfield 10, 3) := by decide +kernel
theorem dX11_order_54 : decode cX11_order 54 = .ok (.invokevirtual 262, 3) := by decide +kernel
theorem dX11_order_57 : decode cX11_order 57 = .ok (.pop, 1) := by decide +kernel
theorem dX11_order_58 : decode cX11_order 58 = .ok (.iload_n 1, 1) := by decide +kernel
theorem dX11_order_59 : decode cX11_order 59 = .ok (.iconst (-1), 1) := by decide +kernel
theorem dX11_order_60 : decode cX11_order 60 = .ok (.if_icmp .ne 13, 3) := by decide +kernel
theorem dX11_order_63 : decode cX11_order 63 = .ok (.aload_n 0, 1) := by decide +kernel
theorem dX11_order_64 : decode cX11_order 64 = .ok (.getfield 44, 3) := by decide +kernel
theorem dX11_order_67 : decode cX11_order 67 = .ok (.getfield 256, 3) := by decide +kernel
theorem dX11_order_70 : decode cX11_order 70 = .ok (.goto 12, 3) := by decide +kernel
theorem dX11_order_73 : decode cX11_order 73 = .ok (.aload_n 0, 1) := by decide +kernel
theorem dX11_order_74 : decode cX11_order 74 = .ok (.getfield 44, 3) := by decide +kernel
theorem dX11_order_77 : decode cX11_order 77 = .ok (.getfield 258, 3) := by decide +kernel
theorem dX11_order_80 : decode cX11_order 80 = .ok (.iload_n 1, 1) := by decide +kernel
theorem dX11_order_81 : decode cX11_order 81 = .ok (.iaload, 1) := by decide +kernel
theorem dX11_order_82 : decode cX11_order 82 = .ok (.ireturn, 1) := by decide +kernel
theorem dX11_worth_0 : decode cX11_worth 0 = .ok (.aload_n 0, 1) := by decide +kernel
theorem dX11_worth_1 : decode cX11_worth 1 = .ok (.iload_n 1, 1) := by decide +kernel
theorem dX11_worth_2 : decode cX11_worth 2 = .ok (.iload_n 2, 1) := by decide +kernel
theorem dX11_worth_3 : decode cX11_worth 3 = .ok (.invokevirtual 266, 3) := by decide +kernel
theorem dX11_worth_6 : decode cX11_worth 6 = .ok (.ifCond .ne 12, 3) := by decide +kernel
theorem dX11_worth_9 : decode cX11_worth 9 = .ok (.aload_n 0, 1) := by decide +kernel
theorem dX11_worth_10 : decode cX11_worth 10 = .ok (.bipush (-2), 2) := by decide +kernel
theorem dX11_worth_12 : decode cX11_worth 12 = .ok (.bipush (-100), 2) := by decide +kernel
theorem dX11_worth_14 : decode cX11_worth 14 = .ok (.invokevirtual 116, 3) := by decide +kernel
theorem dX11_worth_17 : decode cX11_worth 17 = .ok (.ireturn, 1) := by decide +kernel
theorem dX11_worth_18 : decode cX11_worth 18 = .ok (.aload_n 0, 1) := by decide +kernel
theorem dX11_worth_19 : decode cX11_worth 19 = .ok (.aload_n 0, 1) := by decide +kernel
theorem dX11_worth_20 : decode cX11_worth 20 = .ok (.getfield 10, 3) := by decide +kernel
theorem dX11_worth_23 : decode cX11_worth 23 = .ok (.iconst 0, 1) := by decide +kernel
theorem dX11_worth_24 : decode cX11_worth 24 = .ok (.invokevirtual 196, 3) := by decide +kernel
theorem dX11_worth_27 : decode cX11_worth 27 = .ok (.aload_n 0, 1) := by decide +kernel
theorem dX11_worth_28 : decode cX11_worth 28 = .ok (.getfield 37, 3) := by decide +kernel
theorem dX11_worth_31 : decode cX11_worth 31 = .ok (.invokevirtual 215, 3) := by decide +kernel
theorem dX11_worth_34 : decode cX11_worth 34 = .ok (.istore_n 3, 1) := by decide +kernel
theorem dX11_worth_35 : decode cX11_worth 35 = .ok (.aload_n 0, 1) := by decide +kernel
theorem dX11_worth_36 : decode cX11_worth 36 = .ok (.iload_n 1, 1) := by decide +kernel
theorem dX11_worth_37 : decode cX11_worth 37 = .ok (.iload_n 2, 1) := by decide +kernel
theorem dX11_worth_38 : decode cX11_worth 38 = .ok (.invokevirtual 270, 3) := by decide +kernel
theorem dX11_worth_41 : decode cX11_worth 41 = .ok (.aload_n 0, 1) := by decide +kernel
theorem dX11_worth_42 : decode cX11_worth 42 = .ok (.getfield 37, 3) := by decide +kernel
theorem dX11_worth_45 : decode cX11_worth 45 = .ok (.invokevirtual 215, 3) := by decide +kernel
theorem dX11_worth_48 : decode cX11_worth 48 = .ok (.iload_n 3, 1) := by decide +kernel
theorem dX11_worth_49 : decode cX11_worth 49 = .ok (.isub, 1) := by decide +kernel
theorem dX11_worth_50 : decode cX11_worth 50 = .ok (.ireturn, 1) := by decide +kernel
theorem dX11_screw_0 : decode cX11_screw 0 = .ok (.iconst (-1), 1) := by decide +kernel
theorem dX11_screw_1 : decode cX11_screw 1 = .ok (.istore_n 1, 1) := by decide +kernel
theorem dX11_screw_2 : decode cX11_screw 2 = .ok (.iconst 0, 1) := by decide +kernel
theorem dX11_screw_3 : decode cX11_screw 3 = .ok (.istore_n 2, 1) := by decide +kernel
theorem dX11_screw_4 : decode cX11_screw 4 = .ok (.iconst 0, 1) := by decide +kernel
theorem dX11_screw_5 : decode cX11_screw 5 = .ok (.istore_n 3, 1) := by decide +kernel
theorem dX11_screw_6 : decode cX11_screw 6 = .ok (.iconst 0, 1) := by decide +kernel
theorem dX11_screw_7 : decode cX11_screw 7 = .ok (.istore 4, 2) := by decide +kernel
theorem dX11_screw_9 : decode cX11_screw 9 = .ok (.iload 4, 2) := by decide +kernel
theorem dX11_screw_11 : decode cX11_screw 11 = .ok (.bipush 36, 2) := by decide +kernel
theorem dX11_screw_13 : decode cX11_screw 13 = .ok (.if_icmp .ge 68, 3) := by decide +kernel
theorem dX11_screw_16 : decode cX11_screw 16 = .ok (.aload_n 0, 1) := by decide +kernel
theorem dX11_screw_17 : decode cX11_screw 17 = .ok (.getfield 10, 3) := by decide +kernel
theorem dX11_screw_20 : decode cX11_screw 20 = .ok (.getfield 76, 3) := by decide +kernel
theorem dX11_screw_23 : decode cX11_screw 23 = .ok (.getfield 274, 3) := by decide +kernel
theorem dX11_screw_26 : decode cX11_screw 26 = .ok (.iload 4, 2) := by decide +kernel
theorem dX11_screw_28 : decode cX11_screw 28 = .ok (.iaload, 1) := by decide +kernel
theorem dX11_screw_29 : decode cX11_screw 29 = .ok (.ifCond .le 46, 3) := by decide +kernel
theorem dX11_screw_32 : decode cX11_screw 32 = .ok (.aload_n 0, 1) := by decide +kernel
theorem dX11_screw_33 : decode cX11_screw 33 = .ok (.iconst 2, 1) := by decide +kernel
theorem dX11_screw_34 : decode cX11_screw 34 = .ok (.iload 4, 2) := by decide +kernel
theorem dX11_screw_36 : decode cX11_screw 36 = .ok (.invokevirtual 270, 3) := by decide +kernel
theorem dX11_screw_39 : decode cX11_screw 39 = .ok (.iload_n 1, 1) := by decide +kernel
theorem dX11_screw_40 : decode cX11_screw 40 = .ok (.iconst (-1), 1) := by decide +kernel
theorem dX11_screw_41 : decode cX11_screw 41 = .ok (.if_icmp .eq 15, 3) := by decide +kernel
theorem dX11_screw_44 : decode cX11_screw 44 = .ok (.aload_n 0, 1) := by decide +kernel
theorem dX11_screw_45 : decode cX11_screw 45 = .ok (.getfield 37, 3) := by decide +kernel
theorem dX11_screw_48 : decode cX11_screw 48 = .ok (.iload_n 2, 1) := by decide +kernel
theorem dX11_screw_49 : decode cX11_screw 49 = .ok (.iload_n 3, 1) := by decide +kernel
theorem dX11_screw_50 : decode cX11_screw 50 = .ok (.invokevirtual 277, 3) := by decide +kernel
theorem dX11_screw_53 : decode cX11_screw 53 = .ok (.ifCond .eq 22, 3) := by decide +kernel
theorem dX11_screw_56 : decode cX11_screw 56 = .ok (.iload 4, 2) := by decide +kernel
theorem dX11_screw_58 : decode cX11_screw 58 = .ok (.istore_n 1, 1) := by decide +kernel
theorem dX11_screw_59 : decode cX11_screw 59 = .ok (.aload_n 0, 1) := by decide +kernel
theorem dX11_screw_60 : decode cX11_screw 60 = .ok (.getfield 37, 3) := by decide +kernel
theorem dX11_screw_63 : decode cX11_screw 63 = .ok (.invokevirtual 215, 3) := by decide +kernel
theorem dX11_screw_66 : decode cX11_screw 66 = .ok (.istore_n 2, 1) := by decide +kernel
theorem dX11_screw_67 : decode cX11_screw 67 = .ok (.aload_n 0, 1) := by decide +kernel
theorem dX11_screw_68 : decode cX11_screw 68 = .ok (.getfield 37, 3) := by decide +kernel
theorem dX11_screw_71 : decode cX11_screw 71 = .ok (.invokevirtual 218, 3) := by decide +kernel
theorem dX11_screw_74 : decode cX11_screw 74 = .ok (.istore_n 3, 1) := by decide +kernel
theorem dX11_screw_75 : decode cX11_screw 75 = .ok (.iinc 4 1, 3) := by decide +kernel
theorem dX11_screw_78 : decode cX11_screw 78 = .ok (.goto (-69), 3) := by decide +kernel
theorem dX11_screw_81 : decode cX11_screw 81 = .ok (.iload_n 1, 1) := by decide +kernel
theorem dX11_screw_82 : decode cX11_screw 82 = .ok (.ireturn, 1) := by decide +kernel
theorem dX11_rooms_0 : decode cX11_rooms 0 = .ok (.aload_n 0, 1) := by decide +kernel
theorem dX11_rooms_1 : decode cX11_rooms 1 = .ok (.getfield 10, 3) := by decide +kernel
theorem dX11_rooms_4 : decode cX11_rooms 4 = .ok (.getfield 103, 3) := by decide +kernel
theorem dX11_rooms_7 : decode cX11_rooms 7 = .ok (.getfield 261, 3) := by decide +kernel
theorem dX11_rooms_10 : decode cX11_rooms 10 = .ok (.ifCond .ne 10, 3) := by decide +kernel
theorem dX11_rooms_13 : decode cX11_rooms 13 = .ok (.aload_n 0, 1) := by decide +kernel
theorem dX11_rooms_14 : decode cX11_rooms 14 = .ok (.bipush (-3), 2) := by decide +kernel
theorem dX11_rooms_16 : decode cX11_rooms 16 = .ok (.invokevirtual 86, 3) := by decide +kernel
theorem dX11_rooms_19 : decode cX11_rooms 19 = .ok (.ireturn, 1) := by decide +kernel
theorem dX11_rooms_20 : decode cX11_rooms 20 = .ok (.aload_n 0, 1) := by decide +kernel
theorem dX11_rooms_21 : decode cX11_rooms 21 = .ok (.aload_n 0, 1) := by decide +kernel
theorem dX11_rooms_22 : decode cX11_rooms 22 = .ok (.getfield 10, 3) := by decide +kernel
theorem dX11_rooms_25 : decode cX11_rooms 25 = .ok (.iconst 0, 1) := by decide +kernel
theorem dX11_rooms_26 : decode cX11_rooms 26 = .ok (.invokevirtual 196, 3) := by decide +kernel
theorem dX11_rooms_29 : decode cX11_rooms 29 = .ok (.iconst 0, 1) := by decide +kernel
theorem dX11_rooms_30 : decode cX11_rooms 30 = .ok (.istore_n 1, 1) := by decide +kernel
theorem dX11_rooms_31 : decode cX11_rooms 31 = .ok (.aload_n 0, 1) := by decide +kernel
theorem dX11_rooms_32 : decode cX11_rooms 32 = .ok (.getfield 37, 3) := by decide +kernel
theorem dX11_rooms_35 : decode cX11_rooms 35 = .ok (.iconst 0, 1) := by decide +kernel
theorem dX11_rooms_36 : decode cX11_rooms 36 = .ok (.invokevirtual 280, 3) := by decide +kernel
theorem dX11_rooms_39 : decode cX11_rooms 39 = .ok (.istore_n 2, 1) := by decide +kernel
theorem dX11_rooms_40 : decode cX11_rooms 40 = .ok (.iconst 2, 1) := by decide +kernel
theorem dX11_rooms_41 : decode cX11_rooms 41 = .ok (.istore_n 3, 1) := by decide +kernel
theorem dX11_rooms_42 : decode cX11_rooms 42 = .ok (.iload_n 3, 1) := by decide +kernel
theorem dX11_rooms_43 : decode cX11_rooms 43 = .ok (.iconst 1, 1) := by decide +kernel
theorem dX11_rooms_44 : decode cX11_rooms 44 = .ok (.aload_n 0, 1) := by decide +kernel
theorem dX11_rooms_45 : decode cX11_rooms 45 = .ok (.getfield 10, 3) := by decide +kernel
theorem dX11_rooms_48 : decode cX11_rooms 48 = .ok (.getfield 103, 3) := by decide +kernel
theorem dX11_rooms_51 : decode cX11_rooms 51 = .ok (.getfield 261, 3) := by decide +kernel
theorem dX11_rooms_54 : decode cX11_rooms 54 = .ok (.ishl, 1) := by decide +kernel
theorem dX11_rooms_55 : decode cX11_rooms 55 = .ok (.if_icmp .ge 30, 3) := by decide +kernel
theorem dX11_rooms_58 : decode cX11_rooms 58 = .ok (.aload_n 0, 1) := by decide +kernel
theorem dX11_rooms_59 : decode cX11_rooms 59 = .ok (.getfield 37, 3) := by decide +kernel
theorem dX11_rooms_62 : decode cX11_rooms 62 = .ok (.iload_n 3, 1) := by decide +kernel
theorem dX11_rooms_63 : decode cX11_rooms 63 = .ok (.invokevirtual 280, 3) := by decide +kernel
theorem dX11_rooms_66 : decode cX11_rooms 66 = .ok (.istore 4, 2) := by decide +kernel
theorem dX11_rooms_68 : decode cX11_rooms 68 = .ok (.iload 4, 2) := by decide +kernel
theorem dX11_rooms_70 : decode cX11_rooms 70 = .ok (.iload_n 2, 1) := by decide +kernel
theorem dX11_rooms_71 : decode cX11_rooms 71 = .ok (.if_icmp .ge 8, 3) := by decide +kernel
theorem dX11_rooms_74 : decode cX11_rooms 74 = .ok (.iload_n 3, 1) := by decide +kernel
theorem dX11_rooms_75 : decode cX11_rooms 75 = .ok (.istore_n 1, 1) := by decide +kernel
theorem dX11_rooms_76 : decode cX11_rooms 76 = .ok (.iload 4, 2) := by decide +kernel
theorem dX11_rooms_78 : decode cX11_rooms 78 = .ok (.istore_n 2, 1) := by decide +kernel
theorem dX11_rooms_79 : decode cX11_rooms 79 = .ok (.iinc 3 2, 3) := by decide +kernel
theorem dX11_rooms_82 : decode cX11_rooms 82 = .ok (.goto (-40), 3) := by decide +kernel
theorem dX11_rooms_85 : decode cX11_rooms 85 = .ok (.iload_n 1, 1) := by decide +kernel
theorem dX11_rooms_86 : decode cX11_rooms 86 = .ok (.ireturn, 1) := by decide +kernel
theorem dX11_temper_0 : decode cX11_temper 0 = .ok (.aload_n 0, 1) := by decide +kernel
theorem dX11_temper_1 : decode cX11_temper 1 = .ok (.getfield 10, 3) := by decide +kernel
theorem dX11_temper_4 : decode cX11_temper 4 = .ok (.getfield 103, 3) := by decide +kernel
theorem dX11_temper_7 : decode cX11_temper 7 = .ok (.iload_n 1, 1) := by decide +kernel
theorem dX11_temper_8 : decode cX11_temper 8 = .ok (.invokevirtual 193, 3) := by decide +kernel
theorem dX11_temper_11 : decode cX11_temper 11 = .ok (.ifCond .eq 13, 3) := by decide +kernel
theorem dX11_temper_14 : decode cX11_temper 14 = .ok (.iload_n 2, 1) := by decide +kernel
theorem dX11_temper_15 : decode cX11_temper 15 = .ok (.iconst 0, 1) := by decide +kernel
theorem dX11_temper_16 : decode cX11_temper 16 = .ok (.bipush 14, 2) := by decide +kernel
theorem dX11_temper_18 : decode cX11_temper 18 = .ok (.invokestatic 174, 3) := by decide +kernel
theorem dX11_temper_21 : decode cX11_temper 21 = .ok (.ifCond .ne 10, 3) := by decide +kernel
theorem dX11_temper_24 : decode cX11_temper 24 = .ok (.aload_n 0, 1) := by decide +kernel
theorem dX11_temper_25 : decode cX11_temper 25 = .ok (.bipush (-2), 2) := by decide +kernel
theorem dX11_temper_27 : decode cX11_temper 27 = .ok (.invokevirtual 86, 3) := by decide +kernel
theorem dX11_temper_30 : decode cX11_temper 30 = .ok (.ireturn, 1) := by decide +kernel
theorem dX11_temper_31 : decode cX11_temper 31 = .ok (.aload_n 0, 1) := by decide +kernel
theorem dX11_temper_32 : decode cX11_temper 32 = .ok (.aload_n 0, 1) := by decide +kernel
theorem dX11_temper_33 : decode cX11_temper 33 = .ok (.getfield 10, 3) := by decide +kernel
theorem dX11_temper_36 : decode cX11_temper 36 = .ok (.iconst 0, 1) := by decide +kernel
theorem dX11_temper_37 : decode cX11_temper 37 = .ok (.invokevirtual 196, 3) := by decide +kernel
theorem dX11_temper_40 : decode cX11_temper 40 = .ok (.iload_n 2, 1) := by decide +kernel
theorem dX11_temper_41 : decode cX11_temper 41 = .ok (.aload_n 0, 1) := by decide +kernel
theorem dX11_temper_42 : decode cX11_temper 42 = .ok (.getfield 37, 3) := by decide +kernel
theorem dX11_temper_45 : decode cX11_temper 45 = .ok (.iload_n 1, 1) := by decide +kernel
theorem dX11_temper_46 : decode cX11_temper 46 = .ok (.invokevirtual 283, 3) := by decide +kernel
theorem dX11_temper_49 : decode cX11_temper 49 = .ok (.imul, 1) := by decide +kernel
theorem dX11_temper_50 : decode cX11_temper 50 = .ok (.ireturn, 1) := by decide +kernel
theorem dX11_quarrel_0 : decode cX11_quarrel 0 = .ok (.iload_n 1, 1) := by decide +kernel
theorem dX11_quarrel_1 : decode cX11_quarrel 1 = .ok (.iconst 1, 1) := by decide +kernel
theorem dX11_quarrel_2 : decode cX11_quarrel 2 = .ok (.sipush 999, 3) := by decide +kernel
theorem dX11_quarrel_5 : decode cX11_quarrel 5 = .ok (.invokestatic 174, 3) := by decide +kernel
theorem dX11_quarrel_8 : decode cX11_quarrel 8 = .ok (.ifCond .ne 10, 3) := by decide +kernel
theorem dX11_quarrel_11 : decode cX11_quarrel 11 = .ok (.aload_n 0, 1) := by decide +kernel
theorem dX11_quarrel_12 : decode cX11_quarrel 12 = .ok (.bipush (-2), 2) := by decide +kernel
theorem dX11_quarrel_14 : decode cX11_quarrel 14 = .ok (.invokevirtual 86, 3) := by decide +kernel
theorem dX11_quarrel_17 : decode cX11_quarrel 17 = .ok (.ireturn, 1) := by decide +kernel
theorem dX11_quarrel_18 : decode cX11_quarrel 18 = .ok (.aload_n 0, 1) := by decide +kernel
theorem dX11_quarrel_19 : decode cX11_quarrel 19 = .ok (.aload_n 0, 1) := by decide +kernel
theorem dX11_quarrel_20 : decode cX11_quarrel 20 = .ok (.getfield 10, 3) := by decide +kernel
theorem dX11_quarrel_23 : decode cX11_quarrel 23 = .ok (.iconst 0, 1) := by decide +kernel
theorem dX11_quarrel_24 : decode cX11_quarrel 24 = .ok (.invokevirtual 196, 3) := by decide +kernel
theorem dX11_quarrel_27 : decode cX11_quarrel 27 = .ok (.aload_n 0, 1) := by decide +kernel
theorem dX11_quarrel_28 : decode cX11_quarrel 28 = .ok (.getfield 37, 3) := by decide +kernel
theorem dX11_quarrel_31 : decode cX11_quarrel 31 = .ok (.invokevirtual 286, 3) := by decide +kernel
theorem dX11_quarrel_34 : decode cX11_quarrel 34 = .ok (.istore_n 2, 1) := by decide +kernel
theorem dX11_quarrel_35 : decode cX11_quarrel 35 = .ok (.iconst 1, 1) := by decide +kernel
theorem dX11_quarrel_36 : decode cX11_quarrel 36 = .ok (.istore_n 3, 1) := by decide +kernel
theorem dX11_quarrel_37 : decode cX11_quarrel 37 = .ok (.iload_n 3, 1) := by decide +kernel
theorem dX11_quarrel_38 : decode cX11_quarrel 38 = .ok (.bipush 14, 2) := by decide +kernel
theorem dX11_quarrel_40 : decode cX11_quarrel 40 = .ok (.if_icmp .gt 18, 3) := by decide +kernel
theorem dX11_quarrel_43 : decode cX11_quarrel 43 = .ok (.iload_n 3, 1) := by decide +kernel
theorem dX11_quarrel_44 : decode cX11_quarrel 44 = .ok (.iload_n 2, 1) := by decide +kernel
theorem dX11_quarrel_45 : decode cX11_quarrel 45 = .ok (.imul, 1) := by decide +kernel
theorem dX11_quarrel_46 : decode cX11_quarrel 46 = .ok (.iload_n 1, 1) := by decide +kernel
theorem dX11_quarrel_47 : decode cX11_quarrel 47 = .ok (.if_icmp .lt 5, 3) := by decide +kernel
theorem dX11_quarrel_50 : decode cX11_quarrel 50 = .ok (.iload_n 3, 1) := by decide +kernel
theorem dX11_quarrel_51 : decode cX11_quarrel 51 = .ok (.ireturn, 1) := by decide +kernel
theorem dX11_quarrel_52 : decode cX11_quarrel 52 = .ok (.iinc 3 1, 3) := by decide +kernel
theorem dX11_quarrel_55 : decode cX11_quarrel 55 = .ok (.goto (-18), 3) := by decide +kernel
theorem dX11_quarrel_58 : decode cX11_quarrel 58 = .ok (.iconst (-1), 1) := by decide +kernel
theorem dX11_quarrel_59 : decode cX11_quarrel 59 = .ok (.ireturn, 1) := by decide +kernel
theorem dX11_tent_0 : decode cX11_tent 0 = .ok (.aload_n 0, 1) := by decide +kernel
theorem dX11_tent_1 : decode cX11_tent 1 = .ok (.getfield 10, 3) := by decide +kernel
theorem dX11_tent_4 : decode cX11_tent 4 = .ok (.getfield 103, 3) := by decide +kernel
theorem dX11_tent_7 : decode cX11_tent 7 = .ok (.iload_n 1, 1) := by decide +kernel
theorem dX11_tent_8 : decode cX11_tent 8 = .ok (.invokevirtual 193, 3) := by decide +kernel
theorem dX11_tent_11 : decode cX11_tent 11 = .ok (.ifCond .eq 13, 3) := by decide +kernel
theorem dX11_tent_14 : decode cX11_tent 14 = .ok (.iload_n 2, 1) := by decide +kernel
theorem dX11_tent_15 : decode cX11_tent 15 = .ok (.iconst 0, 1) := by decide +kernel
theorem dX11_tent_16 : decode cX11_tent 16 = .ok (.bipush 10, 2) := by decide +kernel
theorem dX11_tent_18 : decode cX11_tent 18 = .ok (.invokestatic 174, 3) := by decide +kernel
theorem dX11_tent_21 : decode cX11_tent 21 = .ok (.ifCond .ne 10, 3) := by decide +kernel
theorem dX11_tent_24 : decode cX11_tent 24 = .ok (.aload_n 0, 1) := by decide +kernel
theorem dX11_tent_25 : decode cX11_tent 25 = .ok (.bipush (-2), 2) := by decide +kernel
theorem dX11_tent_27 : decode cX11_tent 27 = .ok (.invokevirtual 86, 3) := by decide +kernel
theorem dX11_tent_30 : decode cX11_tent 30 = .ok (.ireturn, 1) := by decide +kernel
theorem dX11_tent_31 : decode cX11_tent 31 = .ok (.aload_n 0, 1) := by decide +kernel
theorem dX11_tent_32 : decode cX11_tent 32 = .ok (.iload_n 2, 1) := by decide +kernel
theorem dX11_tent_33 : decode cX11_tent 33 = .ok (.aload_n 0, 1) := by decide +kernel
theorem dX11_tent_34 : decode cX11_tent 34 = .ok (.getfield 10, 3) := by decide +kernel
theorem dX11_tent_37 : decode cX11_tent 37 = .ok (.getfield 103, 3) := by decide +kernel
theorem dX11_tent_40 : decode cX11_tent 40 = .ok (.iload_n 1, 1) := by decide +kernel
theorem dX11_tent_41 : decode cX11_tent 41 = .ok (.invokevirtual 289, 3) := by decide +kernel
theorem dX11_tent_44 : decode cX11_tent 44 = .ok (.imul, 1) := by decide +kernel
theorem dX11_tent_45 : decode cX11_tent 45 = .ok (.bipush 10, 2) := by decide +kernel
theorem dX11_tent_47 : decode cX11_tent 47 = .ok (.invokevirtual 292, 3) := by decide +kernel
theorem dX11_tent_50 : decode cX11_tent 50 = .ok (.iconst 1, 1) := by decide +kernel
theorem dX11_tent_51 : decode cX11_tent 51 = .ok (.ireturn, 1) := by decide +kernel
theorem dX11_part_0 : decode cX11_part 0 = .ok (.iload_n 1, 1) := by decide +kernel
theorem dX11_part_1 : decode cX11_part 1 = .ok (.ifCond .eq 15, 3) := by decide +kernel
theorem dX11_part_4 : decode cX11_part 4 = .ok (.iload_n 1, 1) := by decide +kernel
theorem dX11_part_5 : decode cX11_part 5 = .ok (.iconst 1, 1) := by decide +kernel
theorem dX11_part_6 : decode cX11_part 6 = .ok (.if_icmp .eq 10, 3) := by decide +kernel
theorem dX11_part_9 : decode cX11_part 9 = .ok (.aload_n 0, 1) := by decide +kernel
theorem dX11_part_10 : decode cX11_part 10 = .ok (.bipush (-2), 2) := by decide +kernel
theorem dX11_part_12 : decode cX11_part 12 = .ok (.invokevirtual 86, 3) := by decide +kernel
theorem dX11_part_15 : decode cX11_part 15 = .ok (.ireturn, 1) := by decide +kernel
theorem dX11_part_16 : decode cX11_part 16 = .ok (.iload_n 1, 1) := by decide +kernel
theorem dX11_part_17 : decode cX11_part 17 = .ok (.ifCond .ne 10, 3) := by decide +kernel
theorem dX11_part_20 : decode cX11_part 20 = .ok (.aload_n 0, 1) := by decide +kernel
theorem dX11_part_21 : decode cX11_part 21 = .ok (.getfield 69, 3) := by decide +kernel
theorem dX11_part_24 : decode cX11_part 24 = .ok (.goto 7, 3) := by decide +kernel
theorem dX11_part_27 : decode cX11_part 27 = .ok (.aload_n 0, 1) := by decide +kernel
theorem dX11_part_28 : decode cX11_part 28 = .ok (.getfield 73, 3) := by decide +kernel
theorem dX11_part_31 : decode cX11_part 31 = .ok (.ireturn, 1) := by decide +kernel
theorem dX11_image_0 : decode cX11_image 0 = .ok (.iload_n 1, 1) := by decide +kernel
theorem dX11_image_1 : decode cX11_image 1 = .ok (.iconst 0, 1) := by decide +kernel
theorem dX11_image_2 : decode cX11_image 2 = .ok (.iconst 1, 1) := by decide +kernel
theorem dX11_image_3 : decode cX11_image 3 = .ok (.invokestatic 174, 3) := by decide +kernel
theorem dX11_image_6 : decode cX11_image 6 = .ok (.ifCond .ne 10, 3) := by decide +kernel
theorem dX11_image_9 : decode cX11_image 9 = .ok (.aload_n 0, 1) := by decide +kernel
theorem dX11_image_10 : decode cX11_image 10 = .ok (.bipush (-2), 2) := by decide +kernel
theorem dX11_image_12 : decode cX11_image 12 = .ok (.invokevirtual 86, 3) := by decide +kernel
theorem dX11_image_15 : decode cX11_image 15 = .ok (.ireturn, 1) := by decide +kernel
theorem dX11_image_16 : decode cX11_image 16 = .ok (.aload_n 0, 1) := by decide +kernel
theorem dX11_image_17 : decode cX11_image 17 = .ok (.getfield 19, 3) := by decide +kernel
theorem dX11_image_20 : decode cX11_image 20 = .ok (.iload_n 1, 1) := by decide +kernel
theorem dX11_image_21 : decode cX11_image 21 = .ok (.aaload, 1) := by decide +kernel
theorem dX11_image_22 : decode cX11_image 22 = .ok (.aload_n 0, 1) := by decide +kernel
theorem dX11_image_23 : decode cX11_image 23 = .ok (.getfield 10, 3) := by decide +kernel
theorem dX11_image_26 : decode cX11_image 26 = .ok (.invokevirtual 159, 3) := by decide +kernel
theorem dX11_image_29 : decode cX11_image 29 = .ok (.aload_n 0, 1) := by decide +kernel
theorem dX11_image_30 : decode cX11_image 30 = .ok (.getfield 23, 3) := by decide +kernel
theorem dX11_image_33 : decode cX11_image 33 = .ok (.iload_n 1, 1) := by decide +kernel
theorem dX11_image_34 : decode cX11_image 34 = .ok (.iconst 1, 1) := by decide +kernel
theorem dX11_image_35 : decode cX11_image 35 = .ok (.bastore, 1) := by decide +kernel
theorem dX11_image_36 : decode cX11_image 36 = .ok (.iconst 1, 1) := by decide +kernel
theorem dX11_image_37 : decode cX11_image 37 = .ok (.ireturn, 1) := by decide +kernel
theorem dX11_from_0 : decode cX11_from 0 = .ok (.iload_n 1, 1) := by decide +kernel
theorem dX11_from_1 : decode cX11_from 1 = .ok (.iconst 0, 1) := by decide +kernel
theorem dX11_from_2 : decode cX11_from 2 = .ok (.iconst 1, 1) := by decide +kernel
theorem dX11_from_3 : decode cX11_from 3 = .ok (.invokestatic 174, 3) := by decide +kernel
theorem dX11_from_6 : decode cX11_from 6 = .ok (.ifCond .ne 10, 3) := by decide +kernel
theorem dX11_from_9 : decode cX11_from 9 = .ok (.aload_n 0, 1) := by decide +kernel
theorem dX11_from_10 : decode cX11_from 10 = .ok (.bipush (-2), 2) := by decide +kernel
theorem dX11_from_12 : decode cX11_from 12 = .ok (.invokevirtual 86, 3) := by decide +kernel
theorem dX11_from_15 : decode cX11_from 15 = .ok (.ireturn, 1) := by decide +kernel
theorem dX11_from_16 : decode cX11_from 16 = .ok (.aload_n 0, 1) := by decide +kernel
theorem dX11_from_17 : decode cX11_from 17 = .ok (.getfield 23, 3) := by decide +kernel
theorem dX11_from_20 : decode cX11_from 20 = .ok (.iload_n 1, 1) := by decide +kernel
theorem dX11_from_21 : decode cX11_from 21 = .ok (.baload, 1) := by decide +kernel
theorem dX11_from_22 : decode cX11_from 22 = .ok (.ifCond .ne 10, 3) := by decide +kernel
theorem dX11_from_25 : decode cX11_from 25 = .ok (.aload_n 0, 1) := by decide +kernel
theorem dX11_from_26 : decode cX11_from 26 = .ok (.bipush (-3), 2) := by decide +kernel
theorem dX11_from_28 : decode cX11_from 28 = .ok (.invokevirtual 86, 3) := by decide +kernel
theorem dX11_from_31 : decode cX11_from 31 = .ok (.ireturn, 1) := by decide +kernel
theorem dX11_from_32 : decode cX11_from 32 = .ok (.aload_n 0, 1) := by decide +kernel
theorem dX11_from_33 : decode cX11_from 33 = .ok (.getfield 10, 3) := by decide +kernel
theorem dX11_from_36 : decode cX11_from 36 = .ok (.aload_n 0, 1) := by decide +kernel
theorem dX11_from_37 : decode cX11_from 37 = .ok (.getfield 19, 3) := by decide +kernel
theorem dX11_from_40 : decode cX11_from 40 = .ok (.iload_n 1, 1) := by decide +kernel
theorem dX11_from_41 : decode cX11_from 41 = .ok (.aaload, 1) := by decide +kernel
theorem dX11_from_42 : decode cX11_from 42 = .ok (.invokevirtual 159, 3) := by decide +kernel
theorem dX11_from_45 : decode cX11_from 45 = .ok (.iconst 1, 1) := by decide +kernel
theorem dX11_from_46 : decode cX11_from 46 = .ok (.ireturn, 1) := by decide +kernel
theorem dX11_status_0 : decode cX11_status 0 = .ok (.iload_n 1, 1) := by decide +kernel
theorem dX11_status_1 : decode cX11_status 1 = .ok (.iconst 0, 1) := by decide +kernel
theorem dX11_status_2 : decode cX11_status 2 = .ok (.aload_n 0, 1) := by decide +kernel
theorem dX11_status_3 : decode cX11_status 3 = .ok (.getfield 66, 3) := by decide +kernel
theorem dX11_status_6 : decode cX11_status 6 = .ok (.arraylength, 1) := by decide +kernel
theorem dX11_status_7 : decode cX11_status 7 = .ok (.iconst 1, 1) := by decide +kernel
theorem dX11_status_8 : decode cX11_status 8 = .ok (.isub, 1) := by decide +kernel
theorem dX11_status_9 : decode cX11_status 9 = .ok (.invokestatic 174, 3) := by decide +kernel
theorem dX11_status_12 : decode cX11_status 12 = .ok (.ifCond .ne 11, 3) := by decide +kernel
theorem dX11_status_15 : decode cX11_status 15 = .ok (.aload_n 0, 1) := by decide +kernel
theorem dX11_status_16 : decode cX11_status 16 = .ok (.bipush (-2), 2) := by decide +kernel
theorem dX11_status_18 : decode cX11_status 18 = .ok (.iconst (-1), 1) := by decide +kernel
theorem dX11_status_19 : decode cX11_status 19 = .ok (.invokevirtual 116, 3) := by decide +kernel
theorem dX11_status_22 : decode cX11_status 22 = .ok (.ireturn, 1) := by decide +kernel
theorem dX11_status_23 : decode cX11_status 23 = .ok (.aload_n 0, 1) := by decide +kernel
theorem dX11_status_24 : decode cX11_status 24 = .ok (.getfield 66, 3) := by decide +kernel
theorem dX11_status_27 : decode cX11_status 27 = .ok (.iload_n 1, 1) := by decide +kernel
theorem dX11_status_28 : decode cX11_status 28 = .ok (.iaload, 1) := by decide +kernel
theorem dX11_status_29 : decode cX11_status 29 = .ok (.ireturn, 1) := by decide +kernel
theorem dX11_count_0 : decode cX11_count 0 = .ok (.aload_n 0, 1) := by decide +kernel
theorem dX11_count_1 : decode cX11_count 1 = .ok (.iload_n 1, 1) := by decide +kernel
theorem dX11_count_2 : decode cX11_count 2 = .ok (.iconst 0, 1) := by decide +kernel
theorem dX11_count_3 : decode cX11_count 3 = .ok (.iconst 5, 1) := by decide +kernel
theorem dX11_count_4 : decode cX11_count 4 = .ok (.invokestatic 174, 3) := by decide +kernel
theorem dX11_count_7 : decode cX11_count 7 = .ok (.ifCond .eq 11, 3) := by decide +kernel
theorem dX11_count_10 : decode cX11_count 10 = .ok (.aload_n 0, 1) := by decide +kernel
theorem dX11_count_11 : decode cX11_count 11 = .ok (.iload_n 1, 1) := by decide +kernel
theorem dX11_count_12 : decode cX11_count 12 = .ok (.invokevirtual 295, 3) := by decide +kernel
theorem dX11_count_15 : decode cX11_count 15 = .ok (.goto 5, 3) := by decide +kernel
theorem dX11_count_18 : decode cX11_count 18 = .ok (.bipush (-2), 2) := by decide +kernel
theorem dX11_count_20 : decode cX11_count 20 = .ok (.invokevirtual 86, 3) := by decide +kernel
theorem dX11_count_23 : decode cX11_count 23 = .ok (.ireturn, 1) := by decide +kernel
theorem dX11_digest_0 : decode cX11_digest 0 = .ok (.ldc2_w 298, 3) := by decide +kernel
theorem dX11_digest_3 : decode cX11_digest 3 = .ok (.lstore_n 1, 1) := by decide +kernel
theorem dX11_digest_4 : decode cX11_digest 4 = .ok (.iconst 0, 1) := by decide +kernel
theorem dX11_digest_5 : decode cX11_digest 5 = .ok (.istore_n 3, 1) := by decide +kernel
theorem dX11_digest_6 : decode cX11_digest 6 = .ok (.iload_n 3, 1) := by decide +kernel
theorem dX11_digest_7 : decode cX11_digest 7 = .ok (.iconst 5, 1) := by decide +kernel
theorem dX11_digest_8 : decode cX11_digest 8 = .ok (.if_icmp .gt 22, 3) := by decide +kernel
theorem dX11_digest_11 : decode cX11_digest 11 = .ok (.ldc2_w 300, 3) := by decide +kernel
theorem dX11_digest_14 : decode cX11_digest 14 = .ok (.lload_n 1, 1) := by decide +kernel
theorem dX11_digest_15 : decode cX11_digest 15 = .ok (.lmul, 1) := by decide +kernel
theorem dX11_digest_16 : decode cX11_digest 16 = .ok (.aload_n 0, 1) := by decide +kernel
theorem dX11_digest_17 : decode cX11_digest 17 = .ok (.iload_n 3, 1) := by decide +kernel
theorem dX11_digest_18 : decode cX11_digest 18 = .ok (.invokevirtual 295, 3) := by decide +kernel
theorem dX11_digest_21 : decode cX11_digest 21 = .ok (.i2l, 1) := by decide +kernel
theorem dX11_digest_22 : decode cX11_digest 22 = .ok (.ladd, 1) := by decide +kernel
theorem dX11_digest_23 : decode cX11_digest 23 = .ok (.lstore_n 1, 1) := by decide +kernel
theorem dX11_digest_24 : decode cX11_digest 24 = .ok (.iinc 3 1, 3) := by decide +kernel
theorem dX11_digest_27 : decode cX11_digest 27 = .ok (.goto (-21), 3) := by decide +kernel
theorem dX11_digest_30 : decode cX11_digest 30 = .ok (.aload_n 0, 1) := by decide +kernel
theorem dX11_digest_31 : decode cX11_digest 31 = .ok (.getfield 10, 3) := by decide +kernel
theorem dX11_digest_34 : decode cX11_digest 34 = .ok (.getfield 76, 3) := by decide +kernel
theorem dX11_digest_37 : decode cX11_digest 37 = .ok (.lload_n 1, 1) := by decide +kernel
theorem dX11_digest_38 : decode cX11_digest 38 = .ok (.invokevirtual 302, 3) := by decide +kernel
theorem dX11_digest_41 : decode cX11_digest 41 = .ok (.lstore_n 1, 1) := by decide +kernel
theorem dX11_digest_42 : decode cX11_digest 42 = .ok (.aload_n 0, 1) := by decide +kernel
theorem dX11_digest_43 : decode cX11_digest 43 = .ok (.getfield 10, 3) := by decide +kernel
theorem dX11_digest_46 : decode cX11_digest 46 = .ok (.getfield 103, 3) := by decide +kernel
theorem dX11_digest_49 : decode cX11_digest 49 = .ok (.lload_n 1, 1) := by decide +kernel
theorem dX11_digest_50 : decode cX11_digest 50 = .ok (.invokevirtual 306, 3) := by decide +kernel
theorem dX11_digest_53 : decode cX11_digest 53 = .ok (.lstore_n 1, 1) := by decide +kernel
theorem dX11_digest_54 : decode cX11_digest 54 = .ok (.aload_n 0, 1) := by decide +kernel
theorem dX11_digest_55 : decode cX11_digest 55 = .ok (.getfield 10, 3) := by decide +kernel
theorem dX11_digest_58 : decode cX11_digest 58 = .ok (.getfield 122, 3) := by decide +kernel
theorem dX11_digest_61 : decode cX11_digest 61 = .ok (.lload_n 1, 1) := by decide +kernel
theorem dX11_digest_62 : decode cX11_digest 62 = .ok (.invokevirtual 307, 3) := by decide +kernel
theorem dX11_digest_65 : decode cX11_digest 65 = .ok (.lstore_n 1, 1) := by decide +kernel
theorem dX11_digest_66 : decode cX11_digest 66 = .ok (.aload_n 0, 1) := by decide +kernel
theorem dX11_digest_67 : decode cX11_digest 67 = .ok (.getfield 10, 3) := by decide +kernel
theorem dX11_digest_70 : decode cX11_digest 70 = .ok (.getfield 240, 3) := by decide +kernel
theorem dX11_digest_73 : decode cX11_digest 73 = .ok (.lload_n 1, 1) := by decide +kernel
theorem dX11_digest_74 : decode cX11_digest 74 = .ok (.invokevirtual 308, 3) := by decide +kernel
theorem dX11_digest_77 : decode cX11_digest 77 = .ok (.lstore_n 1, 1) := by decide +kernel
theorem dX11_digest_78 : decode cX11_digest 78 = .ok (.ldc2_w 300, 3) := by decide +kernel
theorem dX11_digest_81 : decode cX11_digest 81 = .ok (.ldc2_w 300, 3) := by decide +kernel
theorem dX11_digest_84 : decode cX11_digest 84 = .ok (.lload_n 1, 1) := by decide +kernel
theorem dX11_digest_85 : decode cX11_digest 85 = .ok (.lmul, 1) := by decide +kernel
theorem dX11_digest_86 : decode cX11_digest 86 = .ok (.aload_n 0, 1) := by decide +kernel
theorem dX11_digest_87 : decode cX11_digest 87 = .ok (.getfield 69, 3) := by decide +kernel
theorem dX11_digest_90 : decode cX11_digest 90 = .ok (.i2l, 1) := by decide +kernel
theorem dX11_digest_91 : decode cX11_digest 91 = .ok (.ladd, 1) := by decide +kernel
theorem dX11_digest_92 : decode cX11_digest 92 = .ok (.lmul, 1) := by decide +kernel
theorem dX11_digest_93 : decode cX11_digest 93 = .ok (.aload_n 0, 1) := by decide +kernel
theorem dX11_digest_94 : decode cX11_digest 94 = .ok (.getfield 73, 3) := by decide +kernel
theorem dX11_digest_97 : decode cX11_digest 97 = .ok (.i2l, 1) := by decide +kernel
theorem dX11_digest_98 : decode cX11_digest 98 = .ok (.ladd, 1) := by decide +kernel
theorem dX11_digest_99 : decode cX11_digest 99 = .ok (.lreturn, 1) := by decide +kernel
theorem dX11_counted_0 : decode cX11_counted 0 = .ok (.iload_n 1, 1) := by decide +kernel
theorem dX11_counted_1 : decode cX11_counted 1 = .ok (.bipush (-2), 2) := by decide +kernel
theorem dX11_counted_3 : decode cX11_counted 3 = .ok (.if_icmp .eq 15, 3) := by decide +kernel
theorem dX11_counted_6 : decode cX11_counted 6 = .ok (.iload_n 1, 1) := by decide +kernel
theorem dX11_counted_7 : decode cX11_counted 7 = .ok (.bipush (-3), 2) := by decide +kernel
theorem dX11_counted_9 : decode cX11_counted 9 = .ok (.if_icmp .eq 9, 3) := by decide +kernel
theorem dX11_counted_12 : decode cX11_counted 12 = .ok (.iload_n 1, 1) := by decide +kernel
theorem dX11_counted_13 : decode cX11_counted 13 = .ok (.bipush (-4), 2) := by decide +kernel
theorem dX11_counted_15 : decode cX11_counted 15 = .ok (.if_icmp .ne 12, 3) := by decide +kernel
theorem dX11_counted_18 : decode cX11_counted 18 = .ok (.aload_n 0, 1) := by decide +kernel
theorem dX11_counted_19 : decode cX11_counted 19 = .ok (.iload_n 1, 1) := by decide +kernel
theorem dX11_counted_20 : decode cX11_counted 20 = .ok (.iload_n 1, 1) := by decide +kernel
theorem dX11_counted_21 : decode cX11_counted 21 = .ok (.invokevirtual 116, 3) := by decide +kernel
theorem dX11_counted_24 : decode cX11_counted 24 = .ok (.goto 4, 3) := by decide +kernel
theorem dX11_counted_27 : decode cX11_counted 27 = .ok (.iload_n 1, 1) := by decide +kernel
theorem dX11_counted_28 : decode cX11_counted 28 = .ok (.ireturn, 1) := by decide +kernel
theorem dX11_refused_0 : decode cX11_refused 0 = .ok (.bipush (-2), 2) := by decide +kernel
theorem dX11_refused_2 : decode cX11_refused 2 = .ok (.iload_n 1, 1) := by decide +kernel
theorem dX11_refused_3 : decode cX11_refused 3 = .ok (.isub, 1) := by decide +kernel
theorem dX11_refused_4 : decode cX11_refused 4 = .ok (.istore_n 3, 1) := by decide +kernel
theorem dX11_refused_5 : decode cX11_refused 5 = .ok (.iload_n 3, 1) := by decide +kernel
theorem dX11_refused_6 : decode cX11_refused 6 = .ok (.iconst 0, 1) := by decide +kernel
theorem dX11_refused_7 : decode cX11_refused 7 = .ok (.aload_n 0, 1) := by decide +kernel
theorem dX11_refused_8 : decode cX11_refused 8 = .ok (.getfield 66, 3) := by decide +kernel
theorem dX11_refused_11 : decode cX11_refused 11 = .ok (.arraylength, 1) := by decide +kernel
theorem dX11_refused_12 : decode cX11_refused 12 = .ok (.iconst 1, 1) := by decide +kernel
theorem dX11_refused_13 : decode cX11_refused 13 = .ok (.isub, 1) := by decide +kernel
theorem dX11_refused_14 : decode cX11_refused 14 = .ok (.invokestatic 174, 3) := by decide +kernel
theorem dX11_refused_17 : decode cX11_refused 17 = .ok (.ifCond .eq 13, 3) := by decide +kernel
theorem dX11_refused_20 : decode cX11_refused 20 = .ok (.aload_n 0, 1) := by decide +kernel
theorem dX11_refused_21 : decode cX11_refused 21 = .ok (.getfield 66, 3) := by decide +kernel
theorem dX11_refused_24 : decode cX11_refused 24 = .ok (.iload_n 3, 1) := by decide +kernel
theorem dX11_refused_25 : decode cX11_refused 25 = .ok (.dup2, 1) := by decide +kernel
theorem dX11_refused_26 : decode cX11_refused 26 = .ok (.iaload, 1) := by decide +kernel
theorem dX11_refused_27 : decode cX11_refused 27 = .ok (.iconst 1, 1) := by decide +kernel
theorem dX11_refused_28 : decode cX11_refused 28 = .ok (.iadd, 1) := by decide +kernel
theorem dX11_refused_29 : decode cX11_refused 29 = .ok (.iastore, 1) := by decide +kernel
theorem dX11_refused_30 : decode cX11_refused 30 = .ok (.iload_n 2, 1) := by decide +kernel
theorem dX11_refused_31 : decode cX11_refused 31 = .ok (.ireturn, 1) := by decide +kernel
theorem dX11_howMany_0 : decode cX11_howMany 0 = .ok (.iload_n 1, 1) := by decide +kernel
theorem dX11_howMany_1 : decode cX11_howMany 1 = .ok (.tableswitch 90 0 4 #[35, 46, 57, 68, 79], 35) := by decide +kernel
theorem dX11_howMany_36 : decode cX11_howMany 36 = .ok (.aload_n 0, 1) := by decide +kernel
theorem dX11_howMany_37 : decode cX11_howMany 37 = .ok (.getfield 10, 3) := by decide +kernel
theorem dX11_howMany_40 : decode cX11_howMany 40 = .ok (.getfield 76, 3) := by decide +kernel
theorem dX11_howMany_43 : decode cX11_howMany 43 = .ok (.invokevirtual 309, 3) := by decide +kernel
theorem dX11_howMany_46 : decode cX11_howMany 46 = .ok (.ireturn, 1) := by decide +kernel
theorem dX11_howMany_47 : decode cX11_howMany 47 = .ok (.aload_n 0, 1) := by decide +kernel
theorem dX11_howMany_48 : decode cX11_howMany 48 = .ok (.getfield 10, 3) := by decide +kernel
theorem dX11_howMany_51 : decode cX11_howMany 51 = .ok (.getfield 76, 3) := by decide +kernel
theorem dX11_howMany_54 : decode cX11_howMany 54 = .ok (.getfield 312, 3) := by decide +kernel
theorem dX11_howMany_57 : decode cX11_howMany 57 = .ok (.ireturn, 1) := by decide +kernel
theorem dX11_howMany_58 : decode cX11_howMany 58 = .ok (.aload_n 0, 1) := by decide +kernel
theorem dX11_howMany_59 : decode cX11_howMany 59 = .ok (.getfield 10, 3) := by decide +kernel
theorem dX11_howMany_62 : decode cX11_howMany 62 = .ok (.getfield 103, 3) := by decide +kernel
theorem dX11_howMany_65 : decode cX11_howMany 65 = .ok (.getfield 261, 3) := by decide +kernel
theorem dX11_howMany_68 : decode cX11_howMany 68 = .ok (.ireturn, 1) := by decide +kernel
theorem dX11_howMany_69 : decode cX11_howMany 69 = .ok (.aload_n 0, 1) := by decide +kernel
theorem dX11_howMany_70 : decode cX11_howMany 70 = .ok (.getfield 10, 3) := by decide +kernel
theorem dX11_howMany_73 : decode cX11_howMany 73 = .ok (.getfield 122, 3) := by decide +kernel
theorem dX11_howMany_76 : decode cX11_howMany 76 = .ok (.getfield 315, 3) := by decide +kernel
theorem dX11_howMany_79 : decode cX11_howMany 79 = .ok (.ireturn, 1) := by decide +kernel
theorem dX11_howMany_80 : decode cX11_howMany 80 = .ok (.aload_n 0, 1) := by decide +kernel
theorem dX11_howMany_81 : decode cX11_howMany 81 = .ok (.getfield 10, 3) := by decide +kernel
theorem dX11_howMany_84 : decode cX11_howMany 84 = .ok (.getfield 240, 3) := by decide +kernel
theorem dX11_howMany_87 : decode cX11_howMany 87 = .ok (.getfield 249, 3) := by decide +kernel
theorem dX11_howMany_90 : decode cX11_howMany 90 = .ok (.ireturn, 1) := by decide +kernel
theorem dX11_howMany_91 : decode cX11_howMany 91 = .ok (.aload_n 0, 1) := by decide +kernel
theorem dX11_howMany_92 : decode cX11_howMany 92 = .ok (.getfield 30, 3) := by decide +kernel
theorem dX11_howMany_95 : decode cX11_howMany 95 = .ok (.getfield 316, 3) := by decide +kernel
theorem dX11_howMany_98 : decode cX11_howMany 98 = .ok (.ireturn, 1) := by decide +kernel
theorem dX11_pass_0 : decode cX11_pass 0 = .ok (.aload_n 0, 1) := by decide +kernel
theorem dX11_pass_1 : decode cX11_pass 1 = .ok (.getfield 37, 3) := by decide +kernel
theorem dX11_pass_4 : decode cX11_pass 4 = .ok (.getfield 319, 3) := by decide +kernel
theorem dX11_pass_7 : decode cX11_pass 7 = .ok (.aload_n 1, 1) := by decide +kernel
theorem dX11_pass_8 : decode cX11_pass 8 = .ok (.iload_n 2, 1) := by decide +kernel
theorem dX11_pass_9 : decode cX11_pass 9 = .ok (.invokevirtual 323, 3) := by decide +kernel
theorem dX11_pass_12 : decode cX11_pass 12 = .ok (.aload_n 0, 1) := by decide +kernel
theorem dX11_pass_13 : decode cX11_pass 13 = .ok (.getfield 37, 3) := by decide +kernel
theorem dX11_pass_16 : decode cX11_pass 16 = .ok (.aload_n 1, 1) := by decide +kernel
theorem dX11_pass_17 : decode cX11_pass 17 = .ok (.invokevirtual 328, 3) := by decide +kernel
theorem dX11_pass_20 : decode cX11_pass 20 = .ok (.return_, 1) := by decide +kernel
theorem dX11_isThing_0 : decode cX11_isThing 0 = .ok (.iload_n 1, 1) := by decide +kernel
theorem dX11_isThing_1 : decode cX11_isThing 1 = .ok (.tableswitch 70 0 3 #[31, 43, 53, 58], 31) := by decide +kernel
theorem dX11_isThing_32 : decode cX11_isThing 32 = .ok (.aload_n 0, 1) := by decide +kernel
theorem dX11_isThing_33 : decode cX11_isThing 33 = .ok (.getfield 10, 3) := by decide +kernel
theorem dX11_isThing_36 : decode cX11_isThing 36 = .ok (.getfield 103, 3) := by decide +kernel
theorem dX11_isThing_39 : decode cX11_isThing 39 = .ok (.iload_n 2, 1) := by decide +kernel
theorem dX11_isThing_40 : decode cX11_isThing 40 = .ok (.invokevirtual 193, 3) := by decide +kernel
theorem dX11_isThing_43 : decode cX11_isThing 43 = .ok (.ireturn, 1) := by decide +kernel
theorem dX11_isThing_44 : decode cX11_isThing 44 = .ok (.iload_n 2, 1) := by decide +kernel
theorem dX11_isThing_45 : decode cX11_isThing 45 = .ok (.ifCond .ne 7, 3) := by decide +kernel
theorem dX11_isThing_48 : decode cX11_isThing 48 = .ok (.iconst 1, 1) := by decide +kernel
theorem dX11_isThing_49 : decode cX11_isThing 49 = .ok (.goto 4, 3) := by decide +kernel
theorem dX11_isThing_52 : decode cX11_isThing 52 = .ok (.iconst 0, 1) := by decide +kernel
theorem dX11_isThing_53 : decode cX11_isThing 53 = .ok (.ireturn, 1) := by decide +kernel
theorem dX11_isThing_54 : decode cX11_isThing 54 = .ok (.iload_n 2, 1) := by decide +kernel
theorem dX11_isThing_55 : decode cX11_isThing 55 = .ok (.invokestatic 163, 3) := by decide +kernel
theorem dX11_isThing_58 : decode cX11_isThing 58 = .ok (.ireturn, 1) := by decide +kernel
theorem dX11_isThing_59 : decode cX11_isThing 59 = .ok (.aload_n 0, 1) := by decide +kernel
theorem dX11_isThing_60 : decode cX11_isThing 60 = .ok (.getfield 10, 3) := by decide +kernel
theorem dX11_isThing_63 : decode cX11_isThing 63 = .ok (.getfield 103, 3) := by decide +kernel
theorem dX11_isThing_66 : decode cX11_isThing 66 = .ok (.iload_n 2, 1) := by decide +kernel
theorem dX11_isThing_67 : decode cX11_isThing 67 = .ok (.invokevirtual 193, 3) := by decide +kernel
theorem dX11_isThing_70 : decode cX11_isThing 70 = .ok (.ireturn, 1) := by decide +kernel
theorem dX11_isThing_71 : decode cX11_isThing 71 = .ok (.iconst 0, 1) := by decide +kernel
theorem dX11_isThing_72 : decode cX11_isThing 72 = .ok (.ireturn, 1) := by decide +kernel
theorem dX11_passWith_0 : decode cX11_passWith 0 = .ok (.aload_n 0, 1) := by decide +kernel
theorem dX11_passWith_1 : decode cX11_passWith 1 = .ok (.getfield 16, 3) := by decide +kernel
theorem dX11_passWith_4 : decode cX11_passWith 4 = .ok (.aload_n 0, 1) := by decide +kernel
theorem dX11_passWith_5 : decode cX11_passWith 5 = .ok (.getfield 10, 3) := by decide +kernel
theorem dX11_passWith_8 : decode cX11_passWith 8 = .ok (.invokevirtual 159, 3) := by decide +kernel
theorem dX11_passWith_11 : decode cX11_passWith 11 = .ok (.iload_n 1, 1) := by decide +kernel
theorem dX11_passWith_12 : decode cX11_passWith 12 = .ok (.ifCond .ne 23, 3) := by decide +kernel
theorem dX11_passWith_15 : decode cX11_passWith 15 = .ok (.aload_n 0, 1) := by decide +kernel
theorem dX11_passWith_16 : decode cX11_passWith 16 = .ok (.getfield 16, 3) := by decide +kernel
theorem dX11_passWith_19 : decode cX11_passWith 19 = .ok (.getfield 103, 3) := by decide +kernel
theorem dX11_passWith_22 : decode cX11_passWith 22 = .ok (.getfield 330, 3) := by decide +kernel
theorem dX11_passWith_25 : decode cX11_passWith 25 = .ok (.iload_n 2, 1) := by decide +kernel
theorem dX11_passWith_26 : decode cX11_passWith 26 = .ok (.dup2, 1) := by decide +kernel
theorem dX11_passWith_27 : decode cX11_passWith 27 = .ok (.iaload, 1) := by decide +kernel
theorem dX11_passWith_28 : decode cX11_passWith 28 = .ok (.bipush 10, 2) := by decide +kernel
theorem dX11_passWith_30 : decode cX11_passWith 30 = .ok (.iadd, 1) := by decide +kernel
theorem dX11_passWith_31 : decode cX11_passWith 31 = .ok (.iastore, 1) := by decide +kernel
theorem dX11_passWith_32 : decode cX11_passWith 32 = .ok (.goto 42, 3) := by decide +kernel
theorem dX11_passWith_35 : decode cX11_passWith 35 = .ok (.iload_n 1, 1) := by decide +kernel
theorem dX11_passWith_36 : decode cX11_passWith 36 = .ok (.iconst 2, 1) := by decide +kernel
theorem dX11_passWith_37 : decode cX11_passWith 37 = .ok (.if_icmp .ne 19, 3) := by decide +kernel
theorem dX11_passWith_40 : decode cX11_passWith 40 = .ok (.aload_n 0, 1) := by decide +kernel
theorem dX11_passWith_41 : decode cX11_passWith 41 = .ok (.getfield 16, 3) := by decide +kernel
theorem dX11_passWith_44 : decode cX11_passWith 44 = .ok (.getfield 76, 3) := by decide +kernel
theorem dX11_passWith_47 : decode cX11_passWith 47 = .ok (.getfield 274, 3) := by decide +kernel
theorem dX11_passWith_50 : decode cX11_passWith 50 = .ok (.iload_n 2, 1) := by decide +kernel
theorem dX11_passWith_51 : decode cX11_passWith 51 = .ok (.iconst 0, 1) := by decide +kernel
theorem dX11_passWith_52 : decode cX11_passWith 52 = .ok (.iastore, 1) := by decide +kernel
theorem dX11_passWith_53 : decode cX11_passWith 53 = .ok (.goto 21, 3) := by decide +kernel
theorem dX11_passWith_56 : decode cX11_passWith 56 = .ok (.iload_n 1, 1) := by decide +kernel
theorem dX11_passWith_57 : decode cX11_passWith 57 = .ok (.iconst 3, 1) := by decide +kernel
theorem dX11_passWith_58 : decode cX11_passWith 58 = .ok (.if_icmp .ne 16, 3) := by decide +kernel
theorem dX11_passWith_61 : decode cX11_passWith 61 = .ok (.aload_n 0, 1) := by decide +kernel
theorem dX11_passWith_62 : decode cX11_passWith 62 = .ok (.getfield 16, 3) := by decide +kernel
theorem dX11_passWith_65 : decode cX11_passWith 65 = .ok (.getfield 103, 3) := by decide +kernel
theorem dX11_passWith_68 : decode cX11_passWith 68 = .ok (.getfield 333, 3) := by decide +kernel
theorem dX11_passWith_71 : decode cX11_passWith 71 = .ok (.iload_n 2, 1) := by decide +kernel
theorem dX11_passWith_72 : decode cX11_passWith 72 = .ok (.iconst 0, 1) := by decide +kernel
theorem dX11_passWith_73 : decode cX11_passWith 73 = .ok (.iastore, 1) := by decide +kernel
theorem dX11_passWith_74 : decode cX11_passWith 74 = .ok (.aload_n 0, 1) := by decide +kernel
theorem dX11_passWith_75 : decode cX11_passWith 75 = .ok (.aload_n 0, 1) := by decide +kernel
theorem dX11_passWith_76 : decode cX11_passWith 76 = .ok (.getfield 16, 3) := by decide +kernel
theorem dX11_passWith_79 : decode cX11_passWith 79 = .ok (.iload_n 1, 1) := by decide +kernel
theorem dX11_passWith_80 : decode cX11_passWith 80 = .ok (.iconst 1, 1) := by decide +kernel
theorem dX11_passWith_81 : decode cX11_passWith 81 = .ok (.if_icmp .ne 7, 3) := by decide +kernel
theorem dX11_passWith_84 : decode cX11_passWith 84 = .ok (.iconst 5, 1) := by decide +kernel
theorem dX11_passWith_85 : decode cX11_passWith 85 = .ok (.goto 4, 3) := by decide +kernel
theorem dX11_passWith_88 : decode cX11_passWith 88 = .ok (.iconst 0, 1) := by decide +kernel
theorem dX11_passWith_89 : decode cX11_passWith 89 = .ok (.invokevirtual 196, 3) := by decide +kernel
theorem dX11_passWith_92 : decode cX11_passWith 92 = .ok (.return_, 1) := by decide +kernel
theorem dX11_setFraction_0 : decode cX11_setFraction 0 = .ok (.iload_n 1, 1) := by decide +kernel
theorem dX11_setFraction_1 : decode cX11_setFraction 1 = .ok (.iload_n 2, 1) := by decide +kernel
theorem dX11_setFraction_2 : decode cX11_setFraction 2 = .ok (.invokestatic 336, 3) := by decide +kernel
theorem dX11_setFraction_5 : decode cX11_setFraction 5 = .ok (.istore_n 3, 1) := by decide +kernel
theorem dX11_setFraction_6 : decode cX11_setFraction 6 = .ok (.iload_n 3, 1) := by decide +kernel
theorem dX11_setFraction_7 : decode cX11_setFraction 7 = .ok (.ifCond .le 17, 3) := by decide +kernel
theorem dX11_setFraction_10 : decode cX11_setFraction 10 = .ok (.aload_n 0, 1) := by decide +kernel
theorem dX11_setFraction_11 : decode cX11_setFraction 11 = .ok (.iload_n 1, 1) := by decide +kernel
theorem dX11_setFraction_12 : decode cX11_setFraction 12 = .ok (.iload_n 3, 1) := by decide +kernel
theorem dX11_setFraction_13 : decode cX11_setFraction 13 = .ok (.idiv, 1) := by decide +kernel
theorem dX11_setFraction_14 : decode cX11_setFraction 14 = .ok (.putfield 69, 3) := by decide +kernel
theorem dX11_setFraction_17 : decode cX11_setFraction 17 = .ok (.aload_n 0, 1) := by decide +kernel
theorem dX11_setFraction_18 : decode cX11_setFraction 18 = .ok (.iload_n 2, 1) := by decide +kernel
theorem dX11_setFraction_19 : decode cX11_setFraction 19 = .ok (.iload_n 3, 1) := by decide +kernel
theorem dX11_setFraction_20 : decode cX11_setFraction 20 = .ok (.idiv, 1) := by decide +kernel
theorem dX11_setFraction_21 : decode cX11_setFraction 21 = .ok (.putfield 73, 3) := by decide +kernel
theorem dX11_setFraction_24 : decode cX11_setFraction 24 = .ok (.return_, 1) := by decide +kernel
theorem dX11_isOpen_0 : decode cX11_isOpen 0 = .ok (.iload_n 1, 1) := by decide +kernel
theorem dX11_isOpen_1 : decode cX11_isOpen 1 = .ok (.invokestatic 163, 3) := by decide +kernel
theorem dX11_isOpen_4 : decode cX11_isOpen 4 = .ok (.ifCond .eq 22, 3) := by decide +kernel
theorem dX11_isOpen_7 : decode cX11_isOpen 7 = .ok (.aload_n 0, 1) := by decide +kernel
theorem dX11_isOpen_8 : decode cX11_isOpen 8 = .ok (.getfield 10, 3) := by decide +kernel
theorem dX11_isOpen_11 : decode cX11_isOpen 11 = .ok (.getfield 76, 3) := by decide +kernel
theorem dX11_isOpen_14 : decode cX11_isOpen 14 = .ok (.getfield 167, 3) := by decide +kernel
theorem dX11_isOpen_17 : decode cX11_isOpen 17 = .ok (.iload_n 1, 1) := by decide +kernel
theorem dX11_isOpen_18 : decode cX11_isOpen 18 = .ok (.baload, 1) := by decide +kernel
theorem dX11_isOpen_19 : decode cX11_isOpen 19 = .ok (.ifCond .ne 7, 3) := by decide +kernel
theorem dX11_isOpen_22 : decode cX11_isOpen 22 = .ok (.iconst 1, 1) := by decide +kernel
theorem dX11_isOpen_23 : decode cX11_isOpen 23 = .ok (.goto 4, 3) := by decide +kernel
theorem dX11_isOpen_26 : decode cX11_isOpen 26 = .ok (.iconst 0, 1) := by decide +kernel
theorem dX11_isOpen_27 : decode cX11_isOpen 27 = .ok (.ireturn, 1) := by decide +kernel
theorem dX11_commonDivisor_0 : decode cX11_commonDivisor 0 = .ok (.iload_n 0, 1) := by decide +kernel
theorem dX11_commonDivisor_1 : decode cX11_commonDivisor 1 = .ok (.istore_n 2, 1) := by decide +kernel
theorem dX11_commonDivisor_2 : decode cX11_commonDivisor 2 = .ok (.iload_n 1, 1) := by decide +kernel
theorem dX11_commonDivisor_3 : decode cX11_commonDivisor 3 = .ok (.istore_n 3, 1) := by decide +kernel
theorem dX11_commonDivisor_4 : decode cX11_commonDivisor 4 = .ok (.iconst 0, 1) := by decide +kernel
theorem dX11_commonDivisor_5 : decode cX11_commonDivisor 5 = .ok (.istore 4, 2) := by decide +kernel
theorem dX11_commonDivisor_7 : decode cX11_commonDivisor 7 = .ok (.iload 4, 2) := by decide +kernel
theorem dX11_commonDivisor_9 : decode cX11_commonDivisor 9 = .ok (.bipush 100, 2) := by decide +kernel
theorem dX11_commonDivisor_11 : decode cX11_commonDivisor 11 = .ok (.if_icmp .ge 23, 3) := by decide +kernel
theorem dX11_commonDivisor_14 : decode cX11_commonDivisor 14 = .ok (.iload_n 3, 1) := by decide +kernel
theorem dX11_commonDivisor_15 : decode cX11_commonDivisor 15 = .ok (.ifCond .le 19, 3) := by decide +kernel
theorem dX11_commonDivisor_18 : decode cX11_commonDivisor 18 = .ok (.iload_n 2, 1) := by decide +kernel
theorem dX11_commonDivisor_19 : decode cX11_commonDivisor 19 = .ok (.iload_n 3, 1) := by decide +kernel
theorem dX11_commonDivisor_20 : decode cX11_commonDivisor 20 = .ok (.irem, 1) := by decide +kernel
theorem dX11_commonDivisor_21 : decode cX11_commonDivisor 21 = .ok (.istore 5, 2) := by decide +kernel
theorem dX11_commonDivisor_23 : decode cX11_commonDivisor 23 = .ok (.iload_n 3, 1) := by decide +kernel
theorem dX11_commonDivisor_24 : decode cX11_commonDivisor 24 = .ok (.istore_n 2, 1) := by decide +kernel
theorem dX11_commonDivisor_25 : decode cX11_commonDivisor 25 = .ok (.iload 5, 2) := by decide +kernel
theorem dX11_commonDivisor_27 : decode cX11_commonDivisor 27 = .ok (.istore_n 3, 1) := by decide +kernel
theorem dX11_commonDivisor_28 : decode cX11_commonDivisor 28 = .ok (.iinc 4 1, 3) := by decide +kernel
theorem dX11_commonDivisor_31 : decode cX11_commonDivisor 31 = .ok (.goto (-24), 3) := by decide +kernel
theorem dX11_commonDivisor_34 : decode cX11_commonDivisor 34 = .ok (.iload_n 2, 1) := by decide +kernel
theorem dX11_commonDivisor_35 : decode cX11_commonDivisor 35 = .ok (.ireturn, 1) := by decide +kernel
theorem dX11_isIn_0 : decode cX11_isIn 0 = .ok (.iload_n 0, 1) := by decide +kernel
theorem dX11_isIn_1 : decode cX11_isIn 1 = .ok (.iload_n 1, 1) := by decide +kernel
theorem dX11_isIn_2 : decode cX11_isIn 2 = .ok (.if_icmp .lt 12, 3) := by decide +kernel
theorem dX11_isIn_5 : decode cX11_isIn 5 = .ok (.iload_n 0, 1) := by decide +kernel
theorem dX11_isIn_6 : decode cX11_isIn 6 = .ok (.iload_n 2, 1) := by decide +kernel
theorem dX11_isIn_7 : decode cX11_isIn 7 = .ok (.if_icmp .gt 7, 3) := by decide +kernel
theorem dX11_isIn_10 : decode cX11_isIn 10 = .ok (.iconst 1, 1) := by decide +kernel
theorem dX11_isIn_11 : decode cX11_isIn 11 = .ok (.goto 4, 3) := by decide +kernel
theorem dX11_isIn_14 : decode cX11_isIn 14 = .ok (.iconst 0, 1) := by decide +kernel
theorem dX11_isIn_15 : decode cX11_isIn 15 = .ok (.ireturn, 1) := by decide +kernel
theorem dX11_isCell_0 : decode cX11_isCell 0 = .ok (.iload_n 0, 1) := by decide +kernel
theorem dX11_isCell_1 : decode cX11_isCell 1 = .ok (.ifCond .lt 13, 3) := by decide +kernel
theorem dX11_isCell_4 : decode cX11_isCell 4 = .ok (.iload_n 0, 1) := by decide +kernel
theorem dX11_isCell_5 : decode cX11_isCell 5 = .ok (.bipush 36, 2) := by decide +kernel
theorem dX11_isCell_7 : decode cX11_isCell 7 = .ok (.if_icmp .ge 7, 3) := by decide +kernel
theorem dX11_isCell_10 : decode cX11_isCell 10 = .ok (.iconst 1, 1) := by decide +kernel
theorem dX11_isCell_11 : decode cX11_isCell 11 = .ok (.goto 4, 3) := by decide +kernel
theorem dX11_isCell_14 : decode cX11_isCell 14 = .ok (.iconst 0, 1) := by decide +kernel
theorem dX11_isCell_15 : decode cX11_isCell 15 = .ok (.ireturn, 1) := by decide +kernel
theorem dX11_faded_0 : decode cX11_faded 0 = .ok (.iload_n 1, 1) := by decide +kernel
theorem dX11_faded_1 : decode cX11_faded 1 = .ok (.iconst (-1), 1) := by decide +kernel
theorem dX11_faded_2 : decode cX11_faded 2 = .ok (.if_icmp .ne 7, 3) := by decide +kernel
theorem dX11_faded_5 : decode cX11_faded 5 = .ok (.iconst 0, 1) := by decide +kernel
theorem dX11_faded_6 : decode cX11_faded 6 = .ok (.goto 12, 3) := by decide +kernel
theorem dX11_faded_9 : decode cX11_faded 9 = .ok (.iconst 0, 1) := by decide +kernel
theorem dX11_faded_10 : decode cX11_faded 10 = .ok (.iload_n 0, 1) := by decide +kernel
theorem dX11_faded_11 : decode cX11_faded 11 = .ok (.iload_n 2, 1) := by decide +kernel
theorem dX11_faded_12 : decode cX11_faded 12 = .ok (.iload_n 1, 1) := by decide +kernel
theorem dX11_faded_13 : decode cX11_faded 13 = .ok (.imul, 1) := by decide +kernel
theorem dX11_faded_14 : decode cX11_faded 14 = .ok (.isub, 1) := by decide +kernel
theorem dX11_faded_15 : decode cX11_faded 15 = .ok (.invokestatic 188, 3) := by decide +kernel
theorem dX11_faded_18 : decode cX11_faded 18 = .ok (.ireturn, 1) := by decide +kernel
theorem dX11_deep_0 : decode cX11_deep 0 = .ok (.iload_n 1, 1) := by decide +kernel
theorem dX11_deep_1 : decode cX11_deep 1 = .ok (.iload_n 0, 1) := by decide +kernel
theorem dX11_deep_2 : decode cX11_deep 2 = .ok (.isub, 1) := by decide +kernel
theorem dX11_deep_3 : decode cX11_deep 3 = .ok (.bipush 6, 2) := by decide +kernel
theorem dX11_deep_5 : decode cX11_deep 5 = .ok (.invokestatic 339, 3) := by decide +kernel
theorem dX11_deep_8 : decode cX11_deep 8 = .ok (.istore_n 2, 1) := by decide +kernel
theorem dX11_deep_9 : decode cX11_deep 9 = .ok (.iload_n 2, 1) := by decide +kernel
theorem dX11_deep_10 : decode cX11_deep 10 = .ok (.iconst 3, 1) := by decide +kernel
theorem dX11_deep_11 : decode cX11_deep 11 = .ok (.if_icmp .gt 7, 3) := by decide +kernel
theorem dX11_deep_14 : decode cX11_deep 14 = .ok (.iload_n 2, 1) := by decide +kernel
theorem dX11_deep_15 : decode cX11_deep 15 = .ok (.goto 7, 3) := by decide +kernel
theorem dX11_deep_18 : decode cX11_deep 18 = .ok (.bipush 6, 2) := by decide +kernel
theorem dX11_deep_20 : decode cX11_deep 20 = .ok (.iload_n 2, 1) := by decide +kernel
theorem dX11_deep_21 : decode cX11_deep 21 = .ok (.isub, 1) := by decide +kernel
theorem dX11_deep_22 : decode cX11_deep 22 = .ok (.ireturn, 1) := by decide +kernel
