theorem dX6_init_0 : decode cX6_init 0 = .ok (.aload_n 0, 1) := by decide +kernel
theorem dX6_init_1 : decode cX6_init 1 = .ok (.invokespecial 3, 3) := by decide +kernel
theorem dX6_init_4 : decode cX6_init 4 = .ok (.aload_n 0, 1) := by decide +kernel
theorem dX6_init_5 : decode cX6_init 5 = .ok (.bipush 36, 2) := by decide +kernel
theorem dX6_init_7 : decode cX6_init 7 = .ok (.newarray .int, 2) := by decide +kernel
theorem dX6_init_9 : decode cX6_init 9 = .ok (.putfield 9, 3) := by decide +kernel
theorem dX6_init_12 : decode cX6_init 12 = .ok (.return_, 1) := by decide +kernel
theorem dX6_spread_0 : decode cX6_spread 0 = .ok (.aload_n 3, 1) := by decide +kernel
theorem dX6_spread_1 : decode cX6_spread 1 = .ok (.iconst (-1), 1) := by decide +kernel
theorem dX6_spread_2 : decode cX6_spread 2 = .ok (.invokestatic 15, 3) := by decide +kernel
theorem dX6_spread_5 : decode cX6_spread 5 = .ok (.aload_n 1, 1) := by decide +kernel
theorem dX6_spread_6 : decode cX6_spread 6 = .ok (.iload_n 2, 1) := by decide +kernel
theorem dX6_spread_7 : decode cX6_spread 7 = .ok (.baload, 1) := by decide +kernel
theorem dX6_spread_8 : decode cX6_spread 8 = .ok (.ifCond .eq 4, 3) := by decide +kernel
theorem dX6_spread_11 : decode cX6_spread 11 = .ok (.return_, 1) := by decide +kernel
theorem dX6_spread_12 : decode cX6_spread 12 = .ok (.aload_n 3, 1) := by decide +kernel
theorem dX6_spread_13 : decode cX6_spread 13 = .ok (.iload_n 2, 1) := by decide +kernel
theorem dX6_spread_14 : decode cX6_spread 14 = .ok (.iconst 0, 1) := by decide +kernel
theorem dX6_spread_15 : decode cX6_spread 15 = .ok (.iastore, 1) := by decide +kernel
theorem dX6_spread_16 : decode cX6_spread 16 = .ok (.aload_n 0, 1) := by decide +kernel
theorem dX6_spread_17 : decode cX6_spread 17 = .ok (.getfield 9, 3) := by decide +kernel
theorem dX6_spread_20 : decode cX6_spread 20 = .ok (.iconst 0, 1) := by decide +kernel
theorem dX6_spread_21 : decode cX6_spread 21 = .ok (.iload_n 2, 1) := by decide +kernel
theorem dX6_spread_22 : decode cX6_spread 22 = .ok (.iastore, 1) := by decide +kernel
theorem dX6_spread_23 : decode cX6_spread 23 = .ok (.iconst 1, 1) := by decide +kernel
theorem dX6_spread_24 : decode cX6_spread 24 = .ok (.istore 4, 2) := by decide +kernel
theorem dX6_spread_26 : decode cX6_spread 26 = .ok (.iconst 0, 1) := by decide +kernel
theorem dX6_spread_27 : decode cX6_spread 27 = .ok (.istore 5, 2) := by decide +kernel
theorem dX6_spread_29 : decode cX6_spread 29 = .ok (.iload 5, 2) := by decide +kernel
theorem dX6_spread_31 : decode cX6_spread 31 = .ok (.bipush 36, 2) := by decide +kernel
theorem dX6_spread_33 : decode cX6_spread 33 = .ok (.if_icmp .ge 99, 3) := by decide +kernel
theorem dX6_spread_36 : decode cX6_spread 36 = .ok (.iload 5, 2) := by decide +kernel
theorem dX6_spread_38 : decode cX6_spread 38 = .ok (.iload 4, 2) := by decide +kernel
theorem dX6_spread_40 : decode cX6_spread 40 = .ok (.if_icmp .ge 92, 3) := by decide +kernel
theorem dX6_spread_43 : decode cX6_spread 43 = .ok (.aload_n 0, 1) := by decide +kernel
theorem dX6_spread_44 : decode cX6_spread 44 = .ok (.getfield 9, 3) := by decide +kernel
theorem dX6_spread_47 : decode cX6_spread 47 = .ok (.iload 5, 2) := by decide +kernel
theorem dX6_spread_49 : decode cX6_spread 49 = .ok (.iaload, 1) := by decide +kernel
theorem dX6_spread_50 : decode cX6_spread 50 = .ok (.istore 6, 2) := by decide +kernel
theorem dX6_spread_52 : decode cX6_spread 52 = .ok (.iconst 0, 1) := by decide +kernel
theorem dX6_spread_53 : decode cX6_spread 53 = .ok (.istore 7, 2) := by decide +kernel
theorem dX6_spread_55 : decode cX6_spread 55 = .ok (.iload 7, 2) := by decide +kernel
theorem dX6_spread_57 : decode cX6_spread 57 = .ok (.iconst 4, 1) := by decide +kernel
theorem dX6_spread_58 : decode cX6_spread 58 = .ok (.if_icmp .ge 68, 3) := by decide +kernel
theorem dX6_spread_61 : decode cX6_spread 61 = .ok (.iload 6, 2) := by decide +kernel
theorem dX6_spread_63 : decode cX6_spread 63 = .ok (.iload 7, 2) := by decide +kernel
theorem dX6_spread_65 : decode cX6_spread 65 = .ok (.invokestatic 21, 3) := by decide +kernel
theorem dX6_spread_68 : decode cX6_spread 68 = .ok (.istore 8, 2) := by decide +kernel
theorem dX6_spread_70 : decode cX6_spread 70 = .ok (.iload 8, 2) := by decide +kernel
theorem dX6_spread_72 : decode cX6_spread 72 = .ok (.iconst (-1), 1) := by decide +kernel
theorem dX6_spread_73 : decode cX6_spread 73 = .ok (.if_icmp .eq 47, 3) := by decide +kernel
theorem dX6_spread_76 : decode cX6_spread 76 = .ok (.aload_n 1, 1) := by decide +kernel
theorem dX6_spread_77 : decode cX6_spread 77 = .ok (.iload 8, 2) := by decide +kernel
theorem dX6_spread_79 : decode cX6_spread 79 = .ok (.baload, 1) := by decide +kernel
theorem dX6_spread_80 : decode cX6_spread 80 = .ok (.ifCond .ne 40, 3) := by decide +kernel
theorem dX6_spread_83 : decode cX6_spread 83 = .ok (.aload_n 3, 1) := by decide +kernel
theorem dX6_spread_84 : decode cX6_spread 84 = .ok (.iload 8, 2) := by decide +kernel
theorem dX6_spread_86 : decode cX6_spread 86 = .ok (.iaload, 1) := by decide +kernel
theorem dX6_spread_87 : decode cX6_spread 87 = .ok (.iconst (-1), 1) := by decide +kernel
theorem dX6_spread_88 : decode cX6_spread 88 = .ok (.if_icmp .ne 32, 3) := by decide +kernel
theorem dX6_spread_91 : decode cX6_spread 91 = .ok (.iload 4, 2) := by decide +kernel
theorem dX6_spread_93 : decode cX6_spread 93 = .ok (.bipush 36, 2) := by decide +kernel
theorem dX6_spread_95 : decode cX6_spread 95 = .ok (.if_icmp .ge 25, 3) := by decide +kernel
theorem dX6_spread_98 : decode cX6_spread 98 = .ok (.aload_n 3, 1) := by decide +kernel
theorem dX6_spread_99 : decode cX6_spread 99 = .ok (.iload 8, 2) := by decide +kernel
theorem dX6_spread_101 : decode cX6_spread 101 = .ok (.aload_n 3, 1) := by decide +kernel
theorem dX6_spread_102 : decode cX6_spread 102 = .ok (.iload 6, 2) := by decide +kernel
theorem dX6_spread_104 : decode cX6_spread 104 = .ok (.iaload, 1) := by decide +kernel
theorem dX6_spread_105 : decode cX6_spread 105 = .ok (.iconst 1, 1) := by decide +kernel
theorem dX6_spread_106 : decode cX6_spread 106 = .ok (.iadd, 1) := by decide +kernel
theorem dX6_spread_107 : decode cX6_spread 107 = .ok (.iastore, 1) := by decide +kernel
theorem dX6_spread_108 : decode cX6_spread 108 = .ok (.aload_n 0, 1) := by decide +kernel
theorem dX6_spread_109 : decode cX6_spread 109 = .ok (.getfield 9, 3) := by decide +kernel
theorem dX6_spread_112 : decode cX6_spread 112 = .ok (.iload 4, 2) := by decide +kernel
theorem dX6_spread_114 : decode cX6_spread 114 = .ok (.iinc 4 1, 3) := by decide +kernel
theorem dX6_spread_117 : decode cX6_spread 117 = .ok (.iload 8, 2) := by decide +kernel
theorem dX6_spread_119 : decode cX6_spread 119 = .ok (.iastore, 1) := by decide +kernel
theorem dX6_spread_120 : decode cX6_spread 120 = .ok (.iinc 7 1, 3) := by decide +kernel
theorem dX6_spread_123 : decode cX6_spread 123 = .ok (.goto (-68), 3) := by decide +kernel
theorem dX6_spread_126 : decode cX6_spread 126 = .ok (.iinc 5 1, 3) := by decide +kernel
theorem dX6_spread_129 : decode cX6_spread 129 = .ok (.goto (-100), 3) := by decide +kernel
theorem dX6_spread_132 : decode cX6_spread 132 = .ok (.return_, 1) := by decide +kernel
theorem dX6_beside_0 : decode cX6_beside 0 = .ok (.iload_n 0, 1) := by decide +kernel
theorem dX6_beside_1 : decode cX6_beside 1 = .ok (.bipush 6, 2) := by decide +kernel
theorem dX6_beside_3 : decode cX6_beside 3 = .ok (.irem, 1) := by decide +kernel
theorem dX6_beside_4 : decode cX6_beside 4 = .ok (.istore_n 2, 1) := by decide +kernel
theorem dX6_beside_5 : decode cX6_beside 5 = .ok (.iload_n 1, 1) := by decide +kernel
theorem dX6_beside_6 : decode cX6_beside 6 = .ok (.tableswitch 69 0 2 #[26, 41, 54], 26) := by decide +kernel
theorem dX6_beside_32 : decode cX6_beside 32 = .ok (.iload_n 0, 1) := by decide +kernel
theorem dX6_beside_33 : decode cX6_beside 33 = .ok (.bipush 6, 2) := by decide +kernel
theorem dX6_beside_35 : decode cX6_beside 35 = .ok (.if_icmp .lt 10, 3) := by decide +kernel
theorem dX6_beside_38 : decode cX6_beside 38 = .ok (.iload_n 0, 1) := by decide +kernel
theorem dX6_beside_39 : decode cX6_beside 39 = .ok (.bipush 6, 2) := by decide +kernel
theorem dX6_beside_41 : decode cX6_beside 41 = .ok (.isub, 1) := by decide +kernel
theorem dX6_beside_42 : decode cX6_beside 42 = .ok (.goto 4, 3) := by decide +kernel
theorem dX6_beside_45 : decode cX6_beside 45 = .ok (.iconst (-1), 1) := by decide +kernel
theorem dX6_beside_46 : decode cX6_beside 46 = .ok (.ireturn, 1) := by decide +kernel
theorem dX6_beside_47 : decode cX6_beside 47 = .ok (.iload_n 2, 1) := by decide +kernel
theorem dX6_beside_48 : decode cX6_beside 48 = .ok (.iconst 5, 1) := by decide +kernel
theorem dX6_beside_49 : decode cX6_beside 49 = .ok (.if_icmp .ge 9, 3) := by decide +kernel
theorem dX6_beside_52 : decode cX6_beside 52 = .ok (.iload_n 0, 1) := by decide +kernel
theorem dX6_beside_53 : decode cX6_beside 53 = .ok (.iconst 1, 1) := by decide +kernel
theorem dX6_beside_54 : decode cX6_beside 54 = .ok (.iadd, 1) := by decide +kernel
theorem dX6_beside_55 : decode cX6_beside 55 = .ok (.goto 4, 3) := by decide +kernel
theorem dX6_beside_58 : decode cX6_beside 58 = .ok (.iconst (-1), 1) := by decide +kernel
theorem dX6_beside_59 : decode cX6_beside 59 = .ok (.ireturn, 1) := by decide +kernel
theorem dX6_beside_60 : decode cX6_beside 60 = .ok (.iload_n 0, 1) := by decide +kernel
theorem dX6_beside_61 : decode cX6_beside 61 = .ok (.bipush 30, 2) := by decide +kernel
theorem dX6_beside_63 : decode cX6_beside 63 = .ok (.if_icmp .ge 10, 3) := by decide +kernel
theorem dX6_beside_66 : decode cX6_beside 66 = .ok (.iload_n 0, 1) := by decide +kernel
theorem dX6_beside_67 : decode cX6_beside 67 = .ok (.bipush 6, 2) := by decide +kernel
theorem dX6_beside_69 : decode cX6_beside 69 = .ok (.iadd, 1) := by decide +kernel
theorem dX6_beside_70 : decode cX6_beside 70 = .ok (.goto 4, 3) := by decide +kernel
theorem dX6_beside_73 : decode cX6_beside 73 = .ok (.iconst (-1), 1) := by decide +kernel
theorem dX6_beside_74 : decode cX6_beside 74 = .ok (.ireturn, 1) := by decide +kernel
theorem dX6_beside_75 : decode cX6_beside 75 = .ok (.iload_n 2, 1) := by decide +kernel
theorem dX6_beside_76 : decode cX6_beside 76 = .ok (.ifCond .le 9, 3) := by decide +kernel
theorem dX6_beside_79 : decode cX6_beside 79 = .ok (.iload_n 0, 1) := by decide +kernel
theorem dX6_beside_80 : decode cX6_beside 80 = .ok (.iconst 1, 1) := by decide +kernel
theorem dX6_beside_81 : decode cX6_beside 81 = .ok (.isub, 1) := by decide +kernel
theorem dX6_beside_82 : decode cX6_beside 82 = .ok (.goto 4, 3) := by decide +kernel
theorem dX6_beside_85 : decode cX6_beside 85 = .ok (.iconst (-1), 1) := by decide +kernel
theorem dX6_beside_86 : decode cX6_beside 86 = .ok (.ireturn, 1) := by decide +kernel
theorem dX6_onward_0 : decode cX6_onward 0 = .ok (.aload_n 1, 1) := by decide +kernel
theorem dX6_onward_1 : decode cX6_onward 1 = .ok (.iload_n 0, 1) := by decide +kernel
theorem dX6_onward_2 : decode cX6_onward 2 = .ok (.iaload, 1) := by decide +kernel
theorem dX6_onward_3 : decode cX6_onward 3 = .ok (.ifCond .gt 5, 3) := by decide +kernel
theorem dX6_onward_6 : decode cX6_onward 6 = .ok (.iconst (-1), 1) := by decide +kernel
theorem dX6_onward_7 : decode cX6_onward 7 = .ok (.ireturn, 1) := by decide +kernel
theorem dX6_onward_8 : decode cX6_onward 8 = .ok (.iconst 0, 1) := by decide +kernel
theorem dX6_onward_9 : decode cX6_onward 9 = .ok (.istore_n 2, 1) := by decide +kernel
theorem dX6_onward_10 : decode cX6_onward 10 = .ok (.iload_n 2, 1) := by decide +kernel
theorem dX6_onward_11 : decode cX6_onward 11 = .ok (.iconst 4, 1) := by decide +kernel
theorem dX6_onward_12 : decode cX6_onward 12 = .ok (.if_icmp .ge 33, 3) := by decide +kernel
theorem dX6_onward_15 : decode cX6_onward 15 = .ok (.iload_n 0, 1) := by decide +kernel
theorem dX6_onward_16 : decode cX6_onward 16 = .ok (.iload_n 2, 1) := by decide +kernel
theorem dX6_onward_17 : decode cX6_onward 17 = .ok (.invokestatic 21, 3) := by decide +kernel
theorem dX6_onward_20 : decode cX6_onward 20 = .ok (.istore_n 3, 1) := by decide +kernel
theorem dX6_onward_21 : decode cX6_onward 21 = .ok (.iload_n 3, 1) := by decide +kernel
theorem dX6_onward_22 : decode cX6_onward 22 = .ok (.iconst (-1), 1) := by decide +kernel
theorem dX6_onward_23 : decode cX6_onward 23 = .ok (.if_icmp .eq 16, 3) := by decide +kernel
theorem dX6_onward_26 : decode cX6_onward 26 = .ok (.aload_n 1, 1) := by decide +kernel
theorem dX6_onward_27 : decode cX6_onward 27 = .ok (.iload_n 3, 1) := by decide +kernel
theorem dX6_onward_28 : decode cX6_onward 28 = .ok (.iaload, 1) := by decide +kernel
theorem dX6_onward_29 : decode cX6_onward 29 = .ok (.aload_n 1, 1) := by decide +kernel
theorem dX6_onward_30 : decode cX6_onward 30 = .ok (.iload_n 0, 1) := by decide +kernel
theorem dX6_onward_31 : decode cX6_onward 31 = .ok (.iaload, 1) := by decide +kernel
theorem dX6_onward_32 : decode cX6_onward 32 = .ok (.iconst 1, 1) := by decide +kernel
theorem dX6_onward_33 : decode cX6_onward 33 = .ok (.isub, 1) := by decide +kernel
theorem dX6_onward_34 : decode cX6_onward 34 = .ok (.if_icmp .ne 5, 3) := by decide +kernel
theorem dX6_onward_37 : decode cX6_onward 37 = .ok (.iload_n 3, 1) := by decide +kernel
theorem dX6_onward_38 : decode cX6_onward 38 = .ok (.ireturn, 1) := by decide +kernel
theorem dX6_onward_39 : decode cX6_onward 39 = .ok (.iinc 2 1, 3) := by decide +kernel
theorem dX6_onward_42 : decode cX6_onward 42 = .ok (.goto (-32), 3) := by decide +kernel
theorem dX6_onward_45 : decode cX6_onward 45 = .ok (.iconst (-1), 1) := by decide +kernel
theorem dX6_onward_46 : decode cX6_onward 46 = .ok (.ireturn, 1) := by decide +kernel
theorem dX7_init_0 : decode cX7_init 0 = .ok (.aload_n 0, 1) := by decide +kernel
theorem dX7_init_1 : decode cX7_init 1 = .ok (.invokespecial 3, 3) := by decide +kernel
theorem dX7_init_4 : decode cX7_init 4 = .ok (.aload_n 0, 1) := by decide +kernel
theorem dX7_init_5 : decode cX7_init 5 = .ok (.iconst 4, 1) := by decide +kernel
theorem dX7_init_6 : decode cX7_init 6 = .ok (.newarray .int, 2) := by decide +kernel
theorem dX7_init_8 : decode cX7_init 8 = .ok (.putfield 9, 3) := by decide +kernel
theorem dX7_init_11 : decode cX7_init 11 = .ok (.aload_n 0, 1) := by decide +kernel
theorem dX7_init_12 : decode cX7_init 12 = .ok (.iconst 4, 1) := by decide +kernel
theorem dX7_init_13 : decode cX7_init 13 = .ok (.newarray .int, 2) := by decide +kernel
theorem dX7_init_15 : decode cX7_init 15 = .ok (.putfield 15, 3) := by decide +kernel
theorem dX7_init_18 : decode cX7_init 18 = .ok (.aload_n 0, 1) := by decide +kernel
theorem dX7_init_19 : decode cX7_init 19 = .ok (.iconst 4, 1) := by decide +kernel
theorem dX7_init_20 : decode cX7_init 20 = .ok (.newarray .boolean, 2) := by decide +kernel
theorem dX7_init_22 : decode cX7_init 22 = .ok (.putfield 18, 3) := by decide +kernel
theorem dX7_init_25 : decode cX7_init 25 = .ok (.aload_n 0, 1) := by decide +kernel
theorem dX7_init_26 : decode cX7_init 26 = .ok (.iconst 0, 1) := by decide +kernel
theorem dX7_init_27 : decode cX7_init 27 = .ok (.putfield 22, 3) := by decide +kernel
theorem dX7_init_30 : decode cX7_init 30 = .ok (.return_, 1) := by decide +kernel
theorem dX7_copy_0 : decode cX7_copy 0 = .ok (.aload_n 1, 1) := by decide +kernel
theorem dX7_copy_1 : decode cX7_copy 1 = .ok (.getfield 9, 3) := by decide +kernel
theorem dX7_copy_4 : decode cX7_copy 4 = .ok (.iconst 0, 1) := by decide +kernel
theorem dX7_copy_5 : decode cX7_copy 5 = .ok (.aload_n 0, 1) := by decide +kernel
theorem dX7_copy_6 : decode cX7_copy 6 = .ok (.getfield 9, 3) := by decide +kernel
theorem dX7_copy_9 : decode cX7_copy 9 = .ok (.iconst 0, 1) := by decide +kernel
theorem dX7_copy_10 : decode cX7_copy 10 = .ok (.iconst 4, 1) := by decide +kernel
theorem dX7_copy_11 : decode cX7_copy 11 = .ok (.invokestatic 26, 3) := by decide +kernel
theorem dX7_copy_14 : decode cX7_copy 14 = .ok (.aload_n 1, 1) := by decide +kernel
theorem dX7_copy_15 : decode cX7_copy 15 = .ok (.getfield 15, 3) := by decide +kernel
theorem dX7_copy_18 : decode cX7_copy 18 = .ok (.iconst 0, 1) := by decide +kernel
theorem dX7_copy_19 : decode cX7_copy 19 = .ok (.aload_n 0, 1) := by decide +kernel
theorem dX7_copy_20 : decode cX7_copy 20 = .ok (.getfield 15, 3) := by decide +kernel
theorem dX7_copy_23 : decode cX7_copy 23 = .ok (.iconst 0, 1) := by decide +kernel
theorem dX7_copy_24 : decode cX7_copy 24 = .ok (.iconst 4, 1) := by decide +kernel
theorem dX7_copy_25 : decode cX7_copy 25 = .ok (.invokestatic 26, 3) := by decide +kernel
theorem dX7_copy_28 : decode cX7_copy 28 = .ok (.aload_n 1, 1) := by decide +kernel
theorem dX7_copy_29 : decode cX7_copy 29 = .ok (.getfield 18, 3) := by decide +kernel
theorem dX7_copy_32 : decode cX7_copy 32 = .ok (.iconst 0, 1) := by decide +kernel
theorem dX7_copy_33 : decode cX7_copy 33 = .ok (.aload_n 0, 1) := by decide +kernel
theorem dX7_copy_34 : decode cX7_copy 34 = .ok (.getfield 18, 3) := by decide +kernel
theorem dX7_copy_37 : decode cX7_copy 37 = .ok (.iconst 0, 1) := by decide +kernel
theorem dX7_copy_38 : decode cX7_copy 38 = .ok (.iconst 4, 1) := by decide +kernel
theorem dX7_copy_39 : decode cX7_copy 39 = .ok (.invokestatic 26, 3) := by decide +kernel
theorem dX7_copy_42 : decode cX7_copy 42 = .ok (.aload_n 0, 1) := by decide +kernel
theorem dX7_copy_43 : decode cX7_copy 43 = .ok (.aload_n 1, 1) := by decide +kernel
theorem dX7_copy_44 : decode cX7_copy 44 = .ok (.getfield 22, 3) := by decide +kernel
theorem dX7_copy_47 : decode cX7_copy 47 = .ok (.putfield 22, 3) := by decide +kernel
theorem dX7_copy_50 : decode cX7_copy 50 = .ok (.return_, 1) := by decide +kernel
theorem dX7_add_0 : decode cX7_add 0 = .ok (.aload_n 0, 1) := by decide +kernel
theorem dX7_add_1 : decode cX7_add 1 = .ok (.getfield 22, 3) := by decide +kernel
theorem dX7_add_4 : decode cX7_add 4 = .ok (.iconst 4, 1) := by decide +kernel
theorem dX7_add_5 : decode cX7_add 5 = .ok (.if_icmp .lt 6, 3) := by decide +kernel
theorem dX7_add_8 : decode cX7_add 8 = .ok (.bipush (-4), 2) := by decide +kernel
theorem dX7_add_10 : decode cX7_add 10 = .ok (.ireturn, 1) := by decide +kernel
theorem dX7_add_11 : decode cX7_add 11 = .ok (.aload_n 0, 1) := by decide +kernel
theorem dX7_add_12 : decode cX7_add 12 = .ok (.getfield 9, 3) := by decide +kernel
theorem dX7_add_15 : decode cX7_add 15 = .ok (.aload_n 0, 1) := by decide +kernel
theorem dX7_add_16 : decode cX7_add 16 = .ok (.getfield 22, 3) := by decide +kernel
theorem dX7_add_19 : decode cX7_add 19 = .ok (.iload_n 1, 1) := by decide +kernel
theorem dX7_add_20 : decode cX7_add 20 = .ok (.iastore, 1) := by decide +kernel
theorem dX7_add_21 : decode cX7_add 21 = .ok (.aload_n 0, 1) := by decide +kernel
theorem dX7_add_22 : decode cX7_add 22 = .ok (.getfield 15, 3) := by decide +kernel
theorem dX7_add_25 : decode cX7_add 25 = .ok (.aload_n 0, 1) := by decide +kernel
theorem dX7_add_26 : decode cX7_add 26 = .ok (.getfield 22, 3) := by decide +kernel
theorem dX7_add_29 : decode cX7_add 29 = .ok (.iload_n 2, 1) := by decide +kernel
theorem dX7_add_30 : decode cX7_add 30 = .ok (.iastore, 1) := by decide +kernel
theorem dX7_add_31 : decode cX7_add 31 = .ok (.aload_n 0, 1) := by decide +kernel
theorem dX7_add_32 : decode cX7_add 32 = .ok (.getfield 18, 3) := by decide +kernel
theorem dX7_add_35 : decode cX7_add 35 = .ok (.aload_n 0, 1) := by decide +kernel
theorem dX7_add_36 : decode cX7_add 36 = .ok (.getfield 22, 3) := by decide +kernel
theorem dX7_add_39 : decode cX7_add 39 = .ok (.iload_n 3, 1) := by decide +kernel
theorem dX7_add_40 : decode cX7_add 40 = .ok (.bastore, 1) := by decide +kernel
theorem dX7_add_41 : decode cX7_add 41 = .ok (.aload_n 0, 1) := by decide +kernel
theorem dX7_add_42 : decode cX7_add 42 = .ok (.dup, 1) := by decide +kernel
theorem dX7_add_43 : decode cX7_add 43 = .ok (.getfield 22, 3) := by decide +kernel
theorem dX7_add_46 : decode cX7_add 46 = .ok (.dup_x1, 1) := by decide +kernel
theorem dX7_add_47 : decode cX7_add 47 = .ok (.iconst 1, 1) := by decide +kernel
theorem dX7_add_48 : decode cX7_add 48 = .ok (.iadd, 1) := by decide +kernel
theorem dX7_add_49 : decode cX7_add 49 = .ok (.putfield 22, 3) := by decide +kernel
theorem dX7_add_52 : decode cX7_add 52 = .ok (.ireturn, 1) := by decide +kernel
theorem dX7_allow_0 : decode cX7_allow 0 = .ok (.iconst 0, 1) := by decide +kernel
theorem dX7_allow_1 : decode cX7_allow 1 = .ok (.istore_n 2, 1) := by decide +kernel
theorem dX7_allow_2 : decode cX7_allow 2 = .ok (.iload_n 2, 1) := by decide +kernel
theorem dX7_allow_3 : decode cX7_allow 3 = .ok (.aload_n 0, 1) := by decide +kernel
theorem dX7_allow_4 : decode cX7_allow 4 = .ok (.getfield 22, 3) := by decide +kernel
theorem dX7_allow_7 : decode cX7_allow 7 = .ok (.if_icmp .ge 42, 3) := by decide +kernel
theorem dX7_allow_10 : decode cX7_allow 10 = .ok (.aload_n 1, 1) := by decide +kernel
theorem dX7_allow_11 : decode cX7_allow 11 = .ok (.aload_n 0, 1) := by decide +kernel
theorem dX7_allow_12 : decode cX7_allow 12 = .ok (.getfield 9, 3) := by decide +kernel
theorem dX7_allow_15 : decode cX7_allow 15 = .ok (.iload_n 2, 1) := by decide +kernel
theorem dX7_allow_16 : decode cX7_allow 16 = .ok (.iaload, 1) := by decide +kernel
theorem dX7_allow_17 : decode cX7_allow 17 = .ok (.iaload, 1) := by decide +kernel
theorem dX7_allow_18 : decode cX7_allow 18 = .ok (.aload_n 0, 1) := by decide +kernel
theorem dX7_allow_19 : decode cX7_allow 19 = .ok (.getfield 15, 3) := by decide +kernel
theorem dX7_allow_22 : decode cX7_allow 22 = .ok (.iload_n 2, 1) := by decide +kernel
theorem dX7_allow_23 : decode cX7_allow 23 = .ok (.iaload, 1) := by decide +kernel
theorem dX7_allow_24 : decode cX7_allow 24 = .ok (.if_icmp .ne 7, 3) := by decide +kernel
theorem dX7_allow_27 : decode cX7_allow 27 = .ok (.iconst 1, 1) := by decide +kernel
theorem dX7_allow_28 : decode cX7_allow 28 = .ok (.goto 4, 3) := by decide +kernel
theorem dX7_allow_31 : decode cX7_allow 31 = .ok (.iconst 0, 1) := by decide +kernel
theorem dX7_allow_32 : decode cX7_allow 32 = .ok (.aload_n 0, 1) := by decide +kernel
theorem dX7_allow_33 : decode cX7_allow 33 = .ok (.getfield 18, 3) := by decide +kernel
theorem dX7_allow_36 : decode cX7_allow 36 = .ok (.iload_n 2, 1) := by decide +kernel
theorem dX7_allow_37 : decode cX7_allow 37 = .ok (.baload, 1) := by decide +kernel
theorem dX7_allow_38 : decode cX7_allow 38 = .ok (.if_icmp .eq 5, 3) := by decide +kernel
theorem dX7_allow_41 : decode cX7_allow 41 = .ok (.iconst 0, 1) := by decide +kernel
theorem dX7_allow_42 : decode cX7_allow 42 = .ok (.ireturn, 1) := by decide +kernel
theorem dX7_allow_43 : decode cX7_allow 43 = .ok (.iinc 2 1, 3) := by decide +kernel
theorem dX7_allow_46 : decode cX7_allow 46 = .ok (.goto (-44), 3) := by decide +kernel
theorem dX7_allow_49 : decode cX7_allow 49 = .ok (.iconst 1, 1) := by decide +kernel
theorem dX7_allow_50 : decode cX7_allow 50 = .ok (.ireturn, 1) := by decide +kernel
theorem dX7_digestOn_0 : decode cX7_digestOn 0 = .ok (.lload_n 1, 1) := by decide +kernel
theorem dX7_digestOn_1 : decode cX7_digestOn 1 = .ok (.lstore_n 3, 1) := by decide +kernel
theorem dX7_digestOn_2 : decode cX7_digestOn 2 = .ok (.iconst 0, 1) := by decide +kernel
theorem dX7_digestOn_3 : decode cX7_digestOn 3 = .ok (.istore 5, 2) := by decide +kernel
theorem dX7_digestOn_5 : decode cX7_digestOn 5 = .ok (.iload 5, 2) := by decide +kernel
theorem dX7_digestOn_7 : decode cX7_digestOn 7 = .ok (.aload_n 0, 1) := by decide +kernel
theorem dX7_digestOn_8 : decode cX7_digestOn 8 = .ok (.getfield 22, 3) := by decide +kernel
theorem dX7_digestOn_11 : decode cX7_digestOn 11 = .ok (.if_icmp .ge 62, 3) := by decide +kernel
theorem dX7_digestOn_14 : decode cX7_digestOn 14 = .ok (.ldc2_w 32, 3) := by decide +kernel
theorem dX7_digestOn_17 : decode cX7_digestOn 17 = .ok (.lload_n 3, 1) := by decide +kernel
theorem dX7_digestOn_18 : decode cX7_digestOn 18 = .ok (.lmul, 1) := by decide +kernel
theorem dX7_digestOn_19 : decode cX7_digestOn 19 = .ok (.aload_n 0, 1) := by decide +kernel
theorem dX7_digestOn_20 : decode cX7_digestOn 20 = .ok (.getfield 9, 3) := by decide +kernel
theorem dX7_digestOn_23 : decode cX7_digestOn 23 = .ok (.iload 5, 2) := by decide +kernel
theorem dX7_digestOn_25 : decode cX7_digestOn 25 = .ok (.iaload, 1) := by decide +kernel
theorem dX7_digestOn_26 : decode cX7_digestOn 26 = .ok (.i2l, 1) := by decide +kernel
theorem dX7_digestOn_27 : decode cX7_digestOn 27 = .ok (.ladd, 1) := by decide +kernel
theorem dX7_digestOn_28 : decode cX7_digestOn 28 = .ok (.lstore_n 3, 1) := by decide +kernel
theorem dX7_digestOn_29 : decode cX7_digestOn 29 = .ok (.ldc2_w 32, 3) := by decide +kernel
theorem dX7_digestOn_32 : decode cX7_digestOn 32 = .ok (.lload_n 3, 1) := by decide +kernel
theorem dX7_digestOn_33 : decode cX7_digestOn 33 = .ok (.lmul, 1) := by decide +kernel
theorem dX7_digestOn_34 : decode cX7_digestOn 34 = .ok (.aload_n 0, 1) := by decide +kernel
theorem dX7_digestOn_35 : decode cX7_digestOn 35 = .ok (.getfield 15, 3) := by decide +kernel
theorem dX7_digestOn_38 : decode cX7_digestOn 38 = .ok (.iload 5, 2) := by decide +kernel
theorem dX7_digestOn_40 : decode cX7_digestOn 40 = .ok (.iaload, 1) := by decide +kernel
theorem dX7_digestOn_41 : decode cX7_digestOn 41 = .ok (.i2l, 1) := by decide +kernel
theorem dX7_digestOn_42 : decode cX7_digestOn 42 = .ok (.ladd, 1) := by decide +kernel
theorem dX7_digestOn_43 : decode cX7_digestOn 43 = .ok (.lstore_n 3, 1) := by decide +kernel
theorem dX7_digestOn_44 : decode cX7_digestOn 44 = .ok (.ldc2_w 32, 3) := by decide +kernel
theorem dX7_digestOn_47 : decode cX7_digestOn 47 = .ok (.lload_n 3, 1) := by decide +kernel
theorem dX7_digestOn_48 : decode cX7_digestOn 48 = .ok (.lmul, 1) := by decide +kernel
theorem dX7_digestOn_49 : decode cX7_digestOn 49 = .ok (.aload_n 0, 1) := by decide +kernel
theorem dX7_digestOn_50 : decode cX7_digestOn 50 = .ok (.getfield 18, 3) := by decide +kernel
theorem dX7_digestOn_53 : decode cX7_digestOn 53 = .ok (.iload 5, 2) := by decide +kernel
theorem dX7_digestOn_55 : decode cX7_digestOn 55 = .ok (.baload, 1) := by decide +kernel
theorem dX7_digestOn_56 : decode cX7_digestOn 56 = .ok (.ifCond .eq 7, 3) := by decide +kernel
theorem dX7_digestOn_59 : decode cX7_digestOn 59 = .ok (.iconst 1, 1) := by decide +kernel
theorem dX7_digestOn_60 : decode cX7_digestOn 60 = .ok (.goto 4, 3) := by decide +kernel
theorem dX7_digestOn_63 : decode cX7_digestOn 63 = .ok (.iconst 0, 1) := by decide +kernel
theorem dX7_digestOn_64 : decode cX7_digestOn 64 = .ok (.i2l, 1) := by decide +kernel
theorem dX7_digestOn_65 : decode cX7_digestOn 65 = .ok (.ladd, 1) := by decide +kernel
theorem dX7_digestOn_66 : decode cX7_digestOn 66 = .ok (.lstore_n 3, 1) := by decide +kernel
theorem dX7_digestOn_67 : decode cX7_digestOn 67 = .ok (.iinc 5 1, 3) := by decide +kernel
theorem dX7_digestOn_70 : decode cX7_digestOn 70 = .ok (.goto (-65), 3) := by decide +kernel
theorem dX7_digestOn_73 : decode cX7_digestOn 73 = .ok (.lload_n 3, 1) := by decide +kernel
theorem dX7_digestOn_74 : decode cX7_digestOn 74 = .ok (.lreturn, 1) := by decide +kernel
theorem dX8_init_0 : decode cX8_init 0 = .ok (.aload_n 0, 1) := by decide +kernel
theorem dX8_init_1 : decode cX8_init 1 = .ok (.invokespecial 3, 3) := by decide +kernel
theorem dX8_init_4 : decode cX8_init 4 = .ok (.aload_n 0, 1) := by decide +kernel
theorem dX8_init_5 : decode cX8_init 5 = .ok (.iconst 5, 1) := by decide +kernel
theorem dX8_init_6 : decode cX8_init 6 = .ok (.newarray .int, 2) := by decide +kernel
theorem dX8_init_8 : decode cX8_init 8 = .ok (.putfield 9, 3) := by decide +kernel
theorem dX8_init_11 : decode cX8_init 11 = .ok (.aload_n 0, 1) := by decide +kernel
theorem dX8_init_12 : decode cX8_init 12 = .ok (.iconst 5, 1) := by decide +kernel
theorem dX8_init_13 : decode cX8_init 13 = .ok (.newarray .int, 2) := by decide +kernel
theorem dX8_init_15 : decode cX8_init 15 = .ok (.putfield 15, 3) := by decide +kernel
theorem dX8_init_18 : decode cX8_init 18 = .ok (.aload_n 0, 1) := by decide +kernel
theorem dX8_init_19 : decode cX8_init 19 = .ok (.new 18, 3) := by decide +kernel
theorem dX8_init_22 : decode cX8_init 22 = .ok (.dup, 1) := by decide +kernel
theorem dX8_init_23 : decode cX8_init 23 = .ok (.invokespecial 20, 3) := by decide +kernel
theorem dX8_init_26 : decode cX8_init 26 = .ok (.putfield 21, 3) := by decide +kernel
theorem dX8_init_29 : decode cX8_init 29 = .ok (.aload_n 0, 1) := by decide +kernel
theorem dX8_init_30 : decode cX8_init 30 = .ok (.new 25, 3) := by decide +kernel
theorem dX8_init_33 : decode cX8_init 33 = .ok (.dup, 1) := by decide +kernel
theorem dX8_init_34 : decode cX8_init 34 = .ok (.invokespecial 27, 3) := by decide +kernel
theorem dX8_init_37 : decode cX8_init 37 = .ok (.putfield 28, 3) := by decide +kernel
theorem dX8_init_40 : decode cX8_init 40 = .ok (.return_, 1) := by decide +kernel
theorem dX8_findBeds_0 : decode cX8_findBeds 0 = .ok (.aload_n 0, 1) := by decide +kernel
theorem dX8_findBeds_1 : decode cX8_findBeds 1 = .ok (.aload_n 1, 1) := by decide +kernel
theorem dX8_findBeds_2 : decode cX8_findBeds 2 = .ok (.invokevirtual 32, 3) := by decide +kernel
theorem dX8_findBeds_5 : decode cX8_findBeds 5 = .ok (.aload_n 1, 1) := by decide +kernel
theorem dX8_findBeds_6 : decode cX8_findBeds 6 = .ok (.getfield 36, 3) := by decide +kernel
theorem dX8_findBeds_9 : decode cX8_findBeds 9 = .ok (.getfield 40, 3) := by decide +kernel
theorem dX8_findBeds_12 : decode cX8_findBeds 12 = .ok (.istore_n 3, 1) := by decide +kernel
theorem dX8_findBeds_13 : decode cX8_findBeds 13 = .ok (.aload_n 1, 1) := by decide +kernel
theorem dX8_findBeds_14 : decode cX8_findBeds 14 = .ok (.getfield 46, 3) := by decide +kernel
theorem dX8_findBeds_17 : decode cX8_findBeds 17 = .ok (.getfield 50, 3) := by decide +kernel
theorem dX8_findBeds_20 : decode cX8_findBeds 20 = .ok (.iload_n 3, 1) := by decide +kernel
theorem dX8_findBeds_21 : decode cX8_findBeds 21 = .ok (.invokestatic 55, 3) := by decide +kernel
theorem dX8_findBeds_24 : decode cX8_findBeds 24 = .ok (.istore 4, 2) := by decide +kernel
theorem dX8_findBeds_26 : decode cX8_findBeds 26 = .ok (.iconst 0, 1) := by decide +kernel
theorem dX8_findBeds_27 : decode cX8_findBeds 27 = .ok (.istore 5, 2) := by decide +kernel
theorem dX8_findBeds_29 : decode cX8_findBeds 29 = .ok (.iload 5, 2) := by decide +kernel
theorem dX8_findBeds_31 : decode cX8_findBeds 31 = .ok (.iload 4, 2) := by decide +kernel
theorem dX8_findBeds_33 : decode cX8_findBeds 33 = .ok (.if_icmp .ge 84, 3) := by decide +kernel
theorem dX8_findBeds_36 : decode cX8_findBeds 36 = .ok (.aload_n 0, 1) := by decide +kernel
theorem dX8_findBeds_37 : decode cX8_findBeds 37 = .ok (.iload 5, 2) := by decide +kernel
theorem dX8_findBeds_39 : decode cX8_findBeds 39 = .ok (.aload_n 1, 1) := by decide +kernel
theorem dX8_findBeds_40 : decode cX8_findBeds 40 = .ok (.getfield 46, 3) := by decide +kernel
theorem dX8_findBeds_43 : decode cX8_findBeds 43 = .ok (.getfield 50, 3) := by decide +kernel
theorem dX8_findBeds_46 : decode cX8_findBeds 46 = .ok (.iload_n 3, 1) := by decide +kernel
theorem dX8_findBeds_47 : decode cX8_findBeds 47 = .ok (.invokevirtual 59, 3) := by decide +kernel
theorem dX8_findBeds_50 : decode cX8_findBeds 50 = .ok (.aload_n 0, 1) := by decide +kernel
theorem dX8_findBeds_51 : decode cX8_findBeds 51 = .ok (.iload_n 3, 1) := by decide +kernel
theorem dX8_findBeds_52 : decode cX8_findBeds 52 = .ok (.invokevirtual 63, 3) := by decide +kernel
theorem dX8_findBeds_55 : decode cX8_findBeds 55 = .ok (.ifCond .eq 56, 3) := by decide +kernel
theorem dX8_findBeds_58 : decode cX8_findBeds 58 = .ok (.iload_n 2, 1) := by decide +kernel
theorem dX8_findBeds_59 : decode cX8_findBeds 59 = .ok (.ifCond .eq 17, 3) := by decide +kernel
theorem dX8_findBeds_62 : decode cX8_findBeds 62 = .ok (.aload_n 1, 1) := by decide +kernel
theorem dX8_findBeds_63 : decode cX8_findBeds 63 = .ok (.getfield 67, 3) := by decide +kernel
theorem dX8_findBeds_66 : decode cX8_findBeds 66 = .ok (.aload_n 0, 1) := by decide +kernel
theorem dX8_findBeds_67 : decode cX8_findBeds 67 = .ok (.getfield 15, 3) := by decide +kernel
theorem dX8_findBeds_70 : decode cX8_findBeds 70 = .ok (.invokevirtual 71, 3) := by decide +kernel
theorem dX8_findBeds_73 : decode cX8_findBeds 73 = .ok (.ifCond .eq 38, 3) := by decide +kernel
theorem dX8_findBeds_76 : decode cX8_findBeds 76 = .ok (.aload_n 0, 1) := by decide +kernel
theorem dX8_findBeds_77 : decode cX8_findBeds 77 = .ok (.getfield 15, 3) := by decide +kernel
theorem dX8_findBeds_80 : decode cX8_findBeds 80 = .ok (.iconst 0, 1) := by decide +kernel
theorem dX8_findBeds_81 : decode cX8_findBeds 81 = .ok (.aload_n 0, 1) := by decide +kernel
theorem dX8_findBeds_82 : decode cX8_findBeds 82 = .ok (.getfield 21, 3) := by decide +kernel
theorem dX8_findBeds_85 : decode cX8_findBeds 85 = .ok (.getfield 36, 3) := by decide +kernel
theorem dX8_findBeds_88 : decode cX8_findBeds 88 = .ok (.getfield 77, 3) := by decide +kernel
theorem dX8_findBeds_91 : decode cX8_findBeds 91 = .ok (.iconst 0, 1) := by decide +kernel
theorem dX8_findBeds_92 : decode cX8_findBeds 92 = .ok (.iload_n 3, 1) := by decide +kernel
theorem dX8_findBeds_93 : decode cX8_findBeds 93 = .ok (.invokestatic 80, 3) := by decide +kernel
theorem dX8_findBeds_96 : decode cX8_findBeds 96 = .ok (.aload_n 0, 1) := by decide +kernel
theorem dX8_findBeds_97 : decode cX8_findBeds 97 = .ok (.getfield 28, 3) := by decide +kernel
theorem dX8_findBeds_100 : decode cX8_findBeds 100 = .ok (.aload_n 0, 1) := by decide +kernel
theorem dX8_findBeds_101 : decode cX8_findBeds 101 = .ok (.getfield 21, 3) := by decide +kernel
theorem dX8_findBeds_104 : decode cX8_findBeds 104 = .ok (.invokevirtual 86, 3) := by decide +kernel
theorem dX8_findBeds_107 : decode cX8_findBeds 107 = .ok (.aload_n 0, 1) := by decide +kernel
theorem dX8_findBeds_108 : decode cX8_findBeds 108 = .ok (.invokevirtual 89, 3) := by decide +kernel
theorem dX8_findBeds_111 : decode cX8_findBeds 111 = .ok (.iinc 5 1, 3) := by decide +kernel
theorem dX8_findBeds_114 : decode cX8_findBeds 114 = .ok (.goto (-85), 3) := by decide +kernel
theorem dX8_findBeds_117 : decode cX8_findBeds 117 = .ok (.aload_n 0, 1) := by decide +kernel
theorem dX8_findBeds_118 : decode cX8_findBeds 118 = .ok (.getfield 92, 3) := by decide +kernel
theorem dX8_findBeds_121 : decode cX8_findBeds 121 = .ok (.ireturn, 1) := by decide +kernel
theorem dX8_findGoes_0 : decode cX8_findGoes 0 = .ok (.aload_n 0, 1) := by decide +kernel
theorem dX8_findGoes_1 : decode cX8_findGoes 1 = .ok (.aload_n 1, 1) := by decide +kernel
theorem dX8_findGoes_2 : decode cX8_findGoes 2 = .ok (.invokevirtual 32, 3) := by decide +kernel
theorem dX8_findGoes_5 : decode cX8_findGoes 5 = .ok (.aload_n 1, 1) := by decide +kernel
theorem dX8_findGoes_6 : decode cX8_findGoes 6 = .ok (.getfield 36, 3) := by decide +kernel
theorem dX8_findGoes_9 : decode cX8_findGoes 9 = .ok (.getfield 40, 3) := by decide +kernel
theorem dX8_findGoes_12 : decode cX8_findGoes 12 = .ok (.istore_n 2, 1) := by decide +kernel
theorem dX8_findGoes_13 : decode cX8_findGoes 13 = .ok (.iload_n 2, 1) := by decide +kernel
theorem dX8_findGoes_14 : decode cX8_findGoes 14 = .ok (.iload_n 2, 1) := by decide +kernel
theorem dX8_findGoes_15 : decode cX8_findGoes 15 = .ok (.invokestatic 55, 3) := by decide +kernel
theorem dX8_findGoes_18 : decode cX8_findGoes 18 = .ok (.istore_n 3, 1) := by decide +kernel
theorem dX8_findGoes_19 : decode cX8_findGoes 19 = .ok (.iconst 0, 1) := by decide +kernel
theorem dX8_findGoes_20 : decode cX8_findGoes 20 = .ok (.istore 4, 2) := by decide +kernel
theorem dX8_findGoes_22 : decode cX8_findGoes 22 = .ok (.iload 4, 2) := by decide +kernel
theorem dX8_findGoes_24 : decode cX8_findGoes 24 = .ok (.iload_n 3, 1) := by decide +kernel
theorem dX8_findGoes_25 : decode cX8_findGoes 25 = .ok (.if_icmp .ge 51, 3) := by decide +kernel
theorem dX8_findGoes_28 : decode cX8_findGoes 28 = .ok (.aload_n 0, 1) := by decide +kernel
theorem dX8_findGoes_29 : decode cX8_findGoes 29 = .ok (.iload 4, 2) := by decide +kernel
theorem dX8_findGoes_31 : decode cX8_findGoes 31 = .ok (.iload_n 2, 1) := by decide +kernel
theorem dX8_findGoes_32 : decode cX8_findGoes 32 = .ok (.iload_n 2, 1) := by decide +kernel
theorem dX8_findGoes_33 : decode cX8_findGoes 33 = .ok (.invokevirtual 59, 3) := by decide +kernel
theorem dX8_findGoes_36 : decode cX8_findGoes 36 = .ok (.aload_n 0, 1) := by decide +kernel
theorem dX8_findGoes_37 : decode cX8_findGoes 37 = .ok (.iload_n 2, 1) := by decide +kernel
theorem dX8_findGoes_38 : decode cX8_findGoes 38 = .ok (.invokevirtual 63, 3) := by decide +kernel
theorem dX8_findGoes_41 : decode cX8_findGoes 41 = .ok (.ifCond .eq 29, 3) := by decide +kernel
theorem dX8_findGoes_44 : decode cX8_findGoes 44 = .ok (.aload_n 0, 1) := by decide +kernel
theorem dX8_findGoes_45 : decode cX8_findGoes 45 = .ok (.aload_n 1, 1) := by decide +kernel
theorem dX8_findGoes_46 : decode cX8_findGoes 46 = .ok (.getfield 36, 3) := by decide +kernel
theorem dX8_findGoes_49 : decode cX8_findGoes 49 = .ok (.invokevirtual 96, 3) := by decide +kernel
theorem dX8_findGoes_52 : decode cX8_findGoes 52 = .ok (.ifCond .eq 18, 3) := by decide +kernel
theorem dX8_findGoes_55 : decode cX8_findGoes 55 = .ok (.aload_n 0, 1) := by decide +kernel
theorem dX8_findGoes_56 : decode cX8_findGoes 56 = .ok (.getfield 28, 3) := by decide +kernel
theorem dX8_findGoes_59 : decode cX8_findGoes 59 = .ok (.aload_n 0, 1) := by decide +kernel
theorem dX8_findGoes_60 : decode cX8_findGoes 60 = .ok (.getfield 21, 3) := by decide +kernel
theorem dX8_findGoes_63 : decode cX8_findGoes 63 = .ok (.invokevirtual 86, 3) := by decide +kernel
theorem dX8_findGoes_66 : decode cX8_findGoes 66 = .ok (.aload_n 0, 1) := by decide +kernel
theorem dX8_findGoes_67 : decode cX8_findGoes 67 = .ok (.invokevirtual 89, 3) := by decide +kernel
theorem dX8_findGoes_70 : decode cX8_findGoes 70 = .ok (.iinc 4 1, 3) := by decide +kernel
theorem dX8_findGoes_73 : decode cX8_findGoes 73 = .ok (.goto (-51), 3) := by decide +kernel
theorem dX8_findGoes_76 : decode cX8_findGoes 76 = .ok (.aload_n 0, 1) := by decide +kernel
theorem dX8_findGoes_77 : decode cX8_findGoes 77 = .ok (.getfield 92, 3) := by decide +kernel
theorem dX8_findGoes_80 : decode cX8_findGoes 80 = .ok (.ireturn, 1) := by decide +kernel
theorem dX8_start_0 : decode cX8_start 0 = .ok (.aload_n 0, 1) := by decide +kernel
theorem dX8_start_1 : decode cX8_start 1 = .ok (.iconst 0, 1) := by decide +kernel
theorem dX8_start_2 : decode cX8_start 2 = .ok (.putfield 92, 3) := by decide +kernel
theorem dX8_start_5 : decode cX8_start 5 = .ok (.aload_n 0, 1) := by decide +kernel
theorem dX8_start_6 : decode cX8_start 6 = .ok (.iconst 0, 1) := by decide +kernel
theorem dX8_start_7 : decode cX8_start 7 = .ok (.putfield 100, 3) := by decide +kernel
theorem dX8_start_10 : decode cX8_start 10 = .ok (.aload_n 0, 1) := by decide +kernel
theorem dX8_start_11 : decode cX8_start 11 = .ok (.iconst 0, 1) := by decide +kernel
theorem dX8_start_12 : decode cX8_start 12 = .ok (.putfield 103, 3) := by decide +kernel
theorem dX8_start_15 : decode cX8_start 15 = .ok (.aload_n 0, 1) := by decide +kernel
theorem dX8_start_16 : decode cX8_start 16 = .ok (.getfield 21, 3) := by decide +kernel
theorem dX8_start_19 : decode cX8_start 19 = .ok (.aload_n 1, 1) := by decide +kernel
theorem dX8_start_20 : decode cX8_start 20 = .ok (.invokevirtual 106, 3) := by decide +kernel
theorem dX8_start_23 : decode cX8_start 23 = .ok (.aload_n 0, 1) := by decide +kernel
theorem dX8_start_24 : decode cX8_start 24 = .ok (.getfield 28, 3) := by decide +kernel
theorem dX8_start_27 : decode cX8_start 27 = .ok (.getfield 109, 3) := by decide +kernel
theorem dX8_start_30 : decode cX8_start 30 = .ok (.aload_n 0, 1) := by decide +kernel
theorem dX8_start_31 : decode cX8_start 31 = .ok (.getfield 21, 3) := by decide +kernel
theorem dX8_start_34 : decode cX8_start 34 = .ok (.iconst 0, 1) := by decide +kernel
theorem dX8_start_35 : decode cX8_start 35 = .ok (.invokevirtual 113, 3) := by decide +kernel
theorem dX8_start_38 : decode cX8_start 38 = .ok (.return_, 1) := by decide +kernel
theorem dX8_exchange_0 : decode cX8_exchange 0 = .ok (.iconst 0, 1) := by decide +kernel
theorem dX8_exchange_1 : decode cX8_exchange 1 = .ok (.istore_n 2, 1) := by decide +kernel
theorem dX8_exchange_2 : decode cX8_exchange 2 = .ok (.iload_n 2, 1) := by decide +kernel
theorem dX8_exchange_3 : decode cX8_exchange 3 = .ok (.aload_n 1, 1) := by decide +kernel
theorem dX8_exchange_4 : decode cX8_exchange 4 = .ok (.getfield 40, 3) := by decide +kernel
theorem dX8_exchange_7 : decode cX8_exchange 7 = .ok (.if_icmp .ge 46, 3) := by decide +kernel
theorem dX8_exchange_10 : decode cX8_exchange 10 = .ok (.aload_n 1, 1) := by decide +kernel
theorem dX8_exchange_11 : decode cX8_exchange 11 = .ok (.getfield 119, 3) := by decide +kernel
theorem dX8_exchange_14 : decode cX8_exchange 14 = .ok (.aload_n 0, 1) := by decide +kernel
theorem dX8_exchange_15 : decode cX8_exchange 15 = .ok (.getfield 15, 3) := by decide +kernel
theorem dX8_exchange_18 : decode cX8_exchange 18 = .ok (.iload_n 2, 1) := by decide +kernel
theorem dX8_exchange_19 : decode cX8_exchange 19 = .ok (.iaload, 1) := by decide +kernel
theorem dX8_exchange_20 : decode cX8_exchange 20 = .ok (.iaload, 1) := by decide +kernel
theorem dX8_exchange_21 : decode cX8_exchange 21 = .ok (.istore_n 3, 1) := by decide +kernel
theorem dX8_exchange_22 : decode cX8_exchange 22 = .ok (.iload_n 3, 1) := by decide +kernel
theorem dX8_exchange_23 : decode cX8_exchange 23 = .ok (.aload_n 1, 1) := by decide +kernel
theorem dX8_exchange_24 : decode cX8_exchange 24 = .ok (.getfield 122, 3) := by decide +kernel
theorem dX8_exchange_27 : decode cX8_exchange 27 = .ok (.iload_n 2, 1) := by decide +kernel
theorem dX8_exchange_28 : decode cX8_exchange 28 = .ok (.iaload, 1) := by decide +kernel
theorem dX8_exchange_29 : decode cX8_exchange 29 = .ok (.if_icmp .lt 5, 3) := by decide +kernel
theorem dX8_exchange_32 : decode cX8_exchange 32 = .ok (.iconst 0, 1) := by decide +kernel
theorem dX8_exchange_33 : decode cX8_exchange 33 = .ok (.ireturn, 1) := by decide +kernel
theorem dX8_exchange_34 : decode cX8_exchange 34 = .ok (.aload_n 0, 1) := by decide +kernel
theorem dX8_exchange_35 : decode cX8_exchange 35 = .ok (.getfield 21, 3) := by decide +kernel
theorem dX8_exchange_38 : decode cX8_exchange 38 = .ok (.getfield 36, 3) := by decide +kernel
theorem dX8_exchange_41 : decode cX8_exchange 41 = .ok (.getfield 119, 3) := by decide +kernel
theorem dX8_exchange_44 : decode cX8_exchange 44 = .ok (.iload_n 2, 1) := by decide +kernel
theorem dX8_exchange_45 : decode cX8_exchange 45 = .ok (.iload_n 3, 1) := by decide +kernel
theorem dX8_exchange_46 : decode cX8_exchange 46 = .ok (.iastore, 1) := by decide +kernel
theorem dX8_exchange_47 : decode cX8_exchange 47 = .ok (.iinc 2 1, 3) := by decide +kernel
theorem dX8_exchange_50 : decode cX8_exchange 50 = .ok (.goto (-48), 3) := by decide +kernel
theorem dX8_exchange_53 : decode cX8_exchange 53 = .ok (.iconst 1, 1) := by decide +kernel
theorem dX8_exchange_54 : decode cX8_exchange 54 = .ok (.ireturn, 1) := by decide +kernel
theorem dX8_keepIfBetter_0 : decode cX8_keepIfBetter 0 = .ok (.aload_n 0, 1) := by decide +kernel
theorem dX8_keepIfBetter_1 : decode cX8_keepIfBetter 1 = .ok (.getfield 92, 3) := by decide +kernel
theorem dX8_keepIfBetter_4 : decode cX8_keepIfBetter 4 = .ok (.ifCond .eq 21, 3) := by decide +kernel
theorem dX8_keepIfBetter_7 : decode cX8_keepIfBetter 7 = .ok (.aload_n 0, 1) := by decide +kernel
theorem dX8_keepIfBetter_8 : decode cX8_keepIfBetter 8 = .ok (.getfield 28, 3) := by decide +kernel
theorem dX8_keepIfBetter_11 : decode cX8_keepIfBetter 11 = .ok (.aload_n 0, 1) := by decide +kernel
theorem dX8_keepIfBetter_12 : decode cX8_keepIfBetter 12 = .ok (.getfield 100, 3) := by decide +kernel
theorem dX8_keepIfBetter_15 : decode cX8_keepIfBetter 15 = .ok (.aload_n 0, 1) := by decide +kernel
theorem dX8_keepIfBetter_16 : decode cX8_keepIfBetter 16 = .ok (.getfield 103, 3) := by decide +kernel
theorem dX8_keepIfBetter_19 : decode cX8_keepIfBetter 19 = .ok (.invokevirtual 125, 3) := by decide +kernel
theorem dX8_keepIfBetter_22 : decode cX8_keepIfBetter 22 = .ok (.ifCond .eq 44, 3) := by decide +kernel
theorem dX8_keepIfBetter_25 : decode cX8_keepIfBetter 25 = .ok (.aload_n 0, 1) := by decide +kernel
theorem dX8_keepIfBetter_26 : decode cX8_keepIfBetter 26 = .ok (.iconst 1, 1) := by decide +kernel
theorem dX8_keepIfBetter_27 : decode cX8_keepIfBetter 27 = .ok (.putfield 92, 3) := by decide +kernel
theorem dX8_keepIfBetter_30 : decode cX8_keepIfBetter 30 = .ok (.aload_n 0, 1) := by decide +kernel
theorem dX8_keepIfBetter_31 : decode cX8_keepIfBetter 31 = .ok (.aload_n 0, 1) := by decide +kernel
theorem dX8_keepIfBetter_32 : decode cX8_keepIfBetter 32 = .ok (.getfield 28, 3) := by decide +kernel
theorem dX8_keepIfBetter_35 : decode cX8_keepIfBetter 35 = .ok (.invokevirtual 129, 3) := by decide +kernel
theorem dX8_keepIfBetter_38 : decode cX8_keepIfBetter 38 = .ok (.putfield 100, 3) := by decide +kernel
theorem dX8_keepIfBetter_41 : decode cX8_keepIfBetter 41 = .ok (.aload_n 0, 1) := by decide +kernel
theorem dX8_keepIfBetter_42 : decode cX8_keepIfBetter 42 = .ok (.aload_n 0, 1) := by decide +kernel
theorem dX8_keepIfBetter_43 : decode cX8_keepIfBetter 43 = .ok (.getfield 28, 3) := by decide +kernel
theorem dX8_keepIfBetter_46 : decode cX8_keepIfBetter 46 = .ok (.invokevirtual 132, 3) := by decide +kernel
theorem dX8_keepIfBetter_49 : decode cX8_keepIfBetter 49 = .ok (.putfield 103, 3) := by decide +kernel
theorem dX8_keepIfBetter_52 : decode cX8_keepIfBetter 52 = .ok (.aload_n 0, 1) := by decide +kernel
theorem dX8_keepIfBetter_53 : decode cX8_keepIfBetter 53 = .ok (.getfield 15, 3) := by decide +kernel
theorem dX8_keepIfBetter_56 : decode cX8_keepIfBetter 56 = .ok (.iconst 0, 1) := by decide +kernel
theorem dX8_keepIfBetter_57 : decode cX8_keepIfBetter 57 = .ok (.aload_n 0, 1) := by decide +kernel
theorem dX8_keepIfBetter_58 : decode cX8_keepIfBetter 58 = .ok (.getfield 9, 3) := by decide +kernel
theorem dX8_keepIfBetter_61 : decode cX8_keepIfBetter 61 = .ok (.iconst 0, 1) := by decide +kernel
theorem dX8_keepIfBetter_62 : decode cX8_keepIfBetter 62 = .ok (.iconst 5, 1) := by decide +kernel
theorem dX8_keepIfBetter_63 : decode cX8_keepIfBetter 63 = .ok (.invokestatic 80, 3) := by decide +kernel
theorem dX8_keepIfBetter_66 : decode cX8_keepIfBetter 66 = .ok (.return_, 1) := by decide +kernel
theorem dX8_fillRow_0 : decode cX8_fillRow 0 = .ok (.iload_n 1, 1) := by decide +kernel
theorem dX8_fillRow_1 : decode cX8_fillRow 1 = .ok (.istore 4, 2) := by decide +kernel
theorem dX8_fillRow_3 : decode cX8_fillRow 3 = .ok (.iload_n 3, 1) := by decide +kernel
theorem dX8_fillRow_4 : decode cX8_fillRow 4 = .ok (.iconst 1, 1) := by decide +kernel
theorem dX8_fillRow_5 : decode cX8_fillRow 5 = .ok (.isub, 1) := by decide +kernel
theorem dX8_fillRow_6 : decode cX8_fillRow 6 = .ok (.istore 5, 2) := by decide +kernel
theorem dX8_fillRow_8 : decode cX8_fillRow 8 = .ok (.iload 5, 2) := by decide +kernel
theorem dX8_fillRow_10 : decode cX8_fillRow 10 = .ok (.ifCond .lt 30, 3) := by decide +kernel
theorem dX8_fillRow_13 : decode cX8_fillRow 13 = .ok (.iload_n 2, 1) := by decide +kernel
theorem dX8_fillRow_14 : decode cX8_fillRow 14 = .ok (.ifCond .le 26, 3) := by decide +kernel
theorem dX8_fillRow_17 : decode cX8_fillRow 17 = .ok (.aload_n 0, 1) := by decide +kernel
theorem dX8_fillRow_18 : decode cX8_fillRow 18 = .ok (.getfield 15, 3) := by decide +kernel
theorem dX8_fillRow_21 : decode cX8_fillRow 21 = .ok (.iload 5, 2) := by decide +kernel
theorem dX8_fillRow_23 : decode cX8_fillRow 23 = .ok (.iload 4, 2) := by decide +kernel
theorem dX8_fillRow_25 : decode cX8_fillRow 25 = .ok (.iload_n 2, 1) := by decide +kernel
theorem dX8_fillRow_26 : decode cX8_fillRow 26 = .ok (.irem, 1) := by decide +kernel
theorem dX8_fillRow_27 : decode cX8_fillRow 27 = .ok (.iastore, 1) := by decide +kernel
theorem dX8_fillRow_28 : decode cX8_fillRow 28 = .ok (.iload 4, 2) := by decide +kernel
theorem dX8_fillRow_30 : decode cX8_fillRow 30 = .ok (.iload_n 2, 1) := by decide +kernel
theorem dX8_fillRow_31 : decode cX8_fillRow 31 = .ok (.idiv, 1) := by decide +kernel
theorem dX8_fillRow_32 : decode cX8_fillRow 32 = .ok (.istore 4, 2) := by decide +kernel
theorem dX8_fillRow_34 : decode cX8_fillRow 34 = .ok (.iinc 5 (-1), 3) := by decide +kernel
theorem dX8_fillRow_37 : decode cX8_fillRow 37 = .ok (.goto (-29), 3) := by decide +kernel
theorem dX8_fillRow_40 : decode cX8_fillRow 40 = .ok (.return_, 1) := by decide +kernel
theorem dX8_isUnlike_0 : decode cX8_isUnlike 0 = .ok (.iconst 0, 1) := by decide +kernel
theorem dX8_isUnlike_1 : decode cX8_isUnlike 1 = .ok (.istore_n 2, 1) := by decide +kernel
theorem dX8_isUnlike_2 : decode cX8_isUnlike 2 = .ok (.iconst 0, 1) := by decide +kernel
theorem dX8_isUnlike_3 : decode cX8_isUnlike 3 = .ok (.istore_n 3, 1) := by decide +kernel
theorem dX8_isUnlike_4 : decode cX8_isUnlike 4 = .ok (.iload_n 3, 1) := by decide +kernel
theorem dX8_isUnlike_5 : decode cX8_isUnlike 5 = .ok (.iload_n 1, 1) := by decide +kernel
theorem dX8_isUnlike_6 : decode cX8_isUnlike 6 = .ok (.if_icmp .ge 35, 3) := by decide +kernel
theorem dX8_isUnlike_9 : decode cX8_isUnlike 9 = .ok (.iload_n 2, 1) := by decide +kernel
theorem dX8_isUnlike_10 : decode cX8_isUnlike 10 = .ok (.aload_n 0, 1) := by decide +kernel
theorem dX8_isUnlike_11 : decode cX8_isUnlike 11 = .ok (.getfield 15, 3) := by decide +kernel
theorem dX8_isUnlike_14 : decode cX8_isUnlike 14 = .ok (.iload_n 3, 1) := by decide +kernel
theorem dX8_isUnlike_15 : decode cX8_isUnlike 15 = .ok (.iaload, 1) := by decide +kernel
theorem dX8_isUnlike_16 : decode cX8_isUnlike 16 = .ok (.ishr, 1) := by decide +kernel
theorem dX8_isUnlike_17 : decode cX8_isUnlike 17 = .ok (.iconst 1, 1) := by decide +kernel
theorem dX8_isUnlike_18 : decode cX8_isUnlike 18 = .ok (.iand, 1) := by decide +kernel
theorem dX8_isUnlike_19 : decode cX8_isUnlike 19 = .ok (.ifCond .eq 5, 3) := by decide +kernel
theorem dX8_isUnlike_22 : decode cX8_isUnlike 22 = .ok (.iconst 0, 1) := by decide +kernel
theorem dX8_isUnlike_23 : decode cX8_isUnlike 23 = .ok (.ireturn, 1) := by decide +kernel
theorem dX8_isUnlike_24 : decode cX8_isUnlike 24 = .ok (.iload_n 2, 1) := by decide +kernel
theorem dX8_isUnlike_25 : decode cX8_isUnlike 25 = .ok (.iconst 1, 1) := by decide +kernel
theorem dX8_isUnlike_26 : decode cX8_isUnlike 26 = .ok (.aload_n 0, 1) := by decide +kernel
theorem dX8_isUnlike_27 : decode cX8_isUnlike 27 = .ok (.getfield 15, 3) := by decide +kernel
theorem dX8_isUnlike_30 : decode cX8_isUnlike 30 = .ok (.iload_n 3, 1) := by decide +kernel
theorem dX8_isUnlike_31 : decode cX8_isUnlike 31 = .ok (.iaload, 1) := by decide +kernel
theorem dX8_isUnlike_32 : decode cX8_isUnlike 32 = .ok (.ishl, 1) := by decide +kernel
theorem dX8_isUnlike_33 : decode cX8_isUnlike 33 = .ok (.ior, 1) := by decide +kernel
theorem dX8_isUnlike_34 : decode cX8_isUnlike 34 = .ok (.istore_n 2, 1) := by decide +kernel
theorem dX8_isUnlike_35 : decode cX8_isUnlike 35 = .ok (.iinc 3 1, 3) := by decide +kernel
theorem dX8_isUnlike_38 : decode cX8_isUnlike 38 = .ok (.goto (-34), 3) := by decide +kernel
theorem dX8_isUnlike_41 : decode cX8_isUnlike 41 = .ok (.iconst 1, 1) := by decide +kernel
theorem dX8_isUnlike_42 : decode cX8_isUnlike 42 = .ok (.ireturn, 1) := by decide +kernel
theorem dX8_power_0 : decode cX8_power 0 = .ok (.iconst 1, 1) := by decide +kernel
theorem dX8_power_1 : decode cX8_power 1 = .ok (.istore_n 2, 1) := by decide +kernel
theorem dX8_power_2 : decode cX8_power 2 = .ok (.iconst 0, 1) := by decide +kernel
theorem dX8_power_3 : decode cX8_power 3 = .ok (.istore_n 3, 1) := by decide +kernel
theorem dX8_power_4 : decode cX8_power 4 = .ok (.iload_n 3, 1) := by decide +kernel
theorem dX8_power_5 : decode cX8_power 5 = .ok (.iload_n 1, 1) := by decide +kernel
theorem dX8_power_6 : decode cX8_power 6 = .ok (.if_icmp .ge 13, 3) := by decide +kernel
theorem dX8_power_9 : decode cX8_power 9 = .ok (.iload_n 2, 1) := by decide +kernel
theorem dX8_power_10 : decode cX8_power 10 = .ok (.iload_n 0, 1) := by decide +kernel
theorem dX8_power_11 : decode cX8_power 11 = .ok (.imul, 1) := by decide +kernel
theorem dX8_power_12 : decode cX8_power 12 = .ok (.istore_n 2, 1) := by decide +kernel
theorem dX8_power_13 : decode cX8_power 13 = .ok (.iinc 3 1, 3) := by decide +kernel
theorem dX8_power_16 : decode cX8_power 16 = .ok (.goto (-12), 3) := by decide +kernel
theorem dX8_power_19 : decode cX8_power 19 = .ok (.iload_n 2, 1) := by decide +kernel
theorem dX8_power_20 : decode cX8_power 20 = .ok (.ireturn, 1) := by decide +kernel
theorem dX9_init_0 : decode cX9_init 0 = .ok (.aload_n 0, 1) := by decide +kernel
theorem dX9_init_1 : decode cX9_init 1 = .ok (.invokespecial 3, 3) := by decide +kernel
theorem dX9_init_4 : decode cX9_init 4 = .ok (.aload_n 0, 1) := by decide +kernel
theorem dX9_init_5 : decode cX9_init 5 = .ok (.bipush 8, 2) := by decide +kernel
theorem dX9_init_7 : decode cX9_init 7 = .ok (.newarray .int, 2) := by decide +kernel
theorem dX9_init_9 : decode cX9_init 9 = .ok (.putfield 9, 3) := by decide +kernel
theorem dX9_init_12 : decode cX9_init 12 = .ok (.aload_n 0, 1) := by decide +kernel
theorem dX9_init_13 : decode cX9_init 13 = .ok (.bipush 8, 2) := by decide +kernel
theorem dX9_init_15 : decode cX9_init 15 = .ok (.newarray .int, 2) := by decide +kernel
theorem dX9_init_17 : decode cX9_init 17 = .ok (.putfield 15, 3) := by decide +kernel
theorem dX9_init_20 : decode cX9_init 20 = .ok (.aload_n 0, 1) := by decide +kernel
theorem dX9_init_21 : decode cX9_init 21 = .ok (.bipush 8, 2) := by decide +kernel
theorem dX9_init_23 : decode cX9_init 23 = .ok (.newarray .int, 2) := by decide +kernel
theorem dX9_init_25 : decode cX9_init 25 = .ok (.putfield 18, 3) := by decide +kernel
theorem dX9_init_28 : decode cX9_init 28 = .ok (.aload_n 0, 1) := by decide +kernel
theorem dX9_init_29 : decode cX9_init 29 = .ok (.bipush 8, 2) := by decide +kernel
theorem dX9_init_31 : decode cX9_init 31 = .ok (.newarray .int, 2) := by decide +kernel
theorem dX9_init_33 : decode cX9_init 33 = .ok (.putfield 21, 3) := by decide +kernel
theorem dX9_init_36 : decode cX9_init 36 = .ok (.aload_n 0, 1) := by decide +kernel
theorem dX9_init_37 : decode cX9_init 37 = .ok (.bipush 8, 2) := by decide +kernel
theorem dX9_init_39 : decode cX9_init 39 = .ok (.newarray .int, 2) := by decide +kernel
theorem dX9_init_41 : decode cX9_init 41 = .ok (.putfield 24, 3) := by decide +kernel
theorem dX9_init_44 : decode cX9_init 44 = .ok (.aload_n 0, 1) := by decide +kernel
theorem dX9_init_45 : decode cX9_init 45 = .ok (.iconst 0, 1) := by decide +kernel
theorem dX9_init_46 : decode cX9_init 46 = .ok (.putfield 27, 3) := by decide +kernel
theorem dX9_init_49 : decode cX9_init 49 = .ok (.return_, 1) := by decide +kernel
theorem dX9_copy_0 : decode cX9_copy 0 = .ok (.aload_n 1, 1) := by decide +kernel
theorem dX9_copy_1 : decode cX9_copy 1 = .ok (.getfield 9, 3) := by decide +kernel
theorem dX9_copy_4 : decode cX9_copy 4 = .ok (.iconst 0, 1) := by decide +kernel
theorem dX9_copy_5 : decode cX9_copy 5 = .ok (.aload_n 0, 1) := by decide +kernel
theorem dX9_copy_6 : decode cX9_copy 6 = .ok (.getfield 9, 3) := by decide +kernel
theorem dX9_copy_9 : decode cX9_copy 9 = .ok (.iconst 0, 1) := by decide +kernel
theorem dX9_copy_10 : decode cX9_copy 10 = .ok (.bipush 8, 2) := by decide +kernel
theorem dX9_copy_12 : decode cX9_copy 12 = .ok (.invokestatic 31, 3) := by decide +kernel
theorem dX9_copy_15 : decode cX9_copy 15 = .ok (.aload_n 1, 1) := by decide +kernel
theorem dX9_copy_16 : decode cX9_copy 16 = .ok (.getfield 15, 3) := by decide +kernel
theorem dX9_copy_19 : decode cX9_copy 19 = .ok (.iconst 0, 1) := by decide +kernel
theorem dX9_copy_20 : decode cX9_copy 20 = .ok (.aload_n 0, 1) := by decide +kernel
theorem dX9_copy_21 : decode cX9_copy 21 = .ok (.getfield 15, 3) := by decide +kernel
theorem dX9_copy_24 : decode cX9_copy 24 = .ok (.iconst 0, 1) := by decide +kernel
theorem dX9_copy_25 : decode cX9_copy 25 = .ok (.bipush 8, 2) := by decide +kernel
theorem dX9_copy_27 : decode cX9_copy 27 = .ok (.invokestatic 31, 3) := by decide +kernel
theorem dX9_copy_30 : decode cX9_copy 30 = .ok (.aload_n 1, 1) := by decide +kernel
theorem dX9_copy_31 : decode cX9_copy 31 = .ok (.getfield 18, 3) := by decide +kernel
theorem dX9_copy_34 : decode cX9_copy 34 = .ok (.iconst 0, 1) := by decide +kernel
theorem dX9_copy_35 : decode cX9_copy 35 = .ok (.aload_n 0, 1) := by decide +kernel
theorem dX9_copy_36 : decode cX9_copy 36 = .ok (.getfield 18, 3) := by decide +kernel
theorem dX9_copy_39 : decode cX9_copy 39 = .ok (.iconst 0, 1) := by decide +kernel
theorem dX9_copy_40 : decode cX9_copy 40 = .ok (.bipush 8, 2) := by decide +kernel
theorem dX9_copy_42 : decode cX9_copy 42 = .ok (.invokestatic 31, 3) := by decide +kernel
theorem dX9_copy_45 : decode cX9_copy 45 = .ok (.aload_n 1, 1) := by decide +kernel
theorem dX9_copy_46 : decode cX9_copy 46 = .ok (.getfield 21, 3) := by decide +kernel
theorem dX9_copy_49 : decode cX9_copy 49 = .ok (.iconst 0, 1) := by decide +kernel
theorem dX9_copy_50 : decode cX9_copy 50 = .ok (.aload_n 0, 1) := by decide +kernel
theorem dX9_copy_51 : decode cX9_copy 51 = .ok (.getfield 21, 3) := by decide +kernel
theorem dX9_copy_54 : decode cX9_copy 54 = .ok (.iconst 0, 1) := by decide +kernel
theorem dX9_copy_55 : decode cX9_copy 55 = .ok (.bipush 8, 2) := by decide +kernel
theorem dX9_copy_57 : decode cX9_copy 57 = .ok (.invokestatic 31, 3) := by decide +kernel
theorem dX9_copy_60 : decode cX9_copy 60 = .ok (.aload_n 1, 1) := by decide +kernel
theorem dX9_copy_61 : decode cX9_copy 61 = .ok (.getfield 24, 3) := by decide +kernel
theorem dX9_copy_64 : decode cX9_copy 64 = .ok (.iconst 0, 1) := by decide +kernel
theorem dX9_copy_65 : decode cX9_copy 65 = .ok (.aload_n 0, 1) := by decide +kernel
theorem dX9_copy_66 : decode cX9_copy 66 = .ok (.getfield 24, 3) := by decide +kernel
theorem dX9_copy_69 : decode cX9_copy 69 = .ok (.iconst 0, 1) := by decide +kernel
theorem dX9_copy_70 : decode cX9_copy 70 = .ok (.bipush 8, 2) := by decide +kernel
theorem dX9_copy_72 : decode cX9_copy 72 = .ok (.invokestatic 31, 3) := by decide +kernel
theorem dX9_copy_75 : decode cX9_copy 75 = .ok (.aload_n 0, 1) := by decide +kernel
theorem dX9_copy_76 : decode cX9_copy 76 = .ok (.aload_n 1, 1) := by decide +kernel
theorem dX9_copy_77 : decode cX9_copy 77 = .ok (.getfield 27, 3) := by decide +kernel
theorem dX9_copy_80 : decode cX9_copy 80 = .ok (.putfield 27, 3) := by decide +kernel
theorem dX9_copy_83 : decode cX9_copy 83 = .ok (.return_, 1) := by decide +kernel
theorem dX9_add_0 : decode cX9_add 0 = .ok (.iload_n 3, 1) := by decide +kernel
theorem dX9_add_1 : decode cX9_add 1 = .ok (.iconst 0, 1) := by decide +kernel
theorem dX9_add_2 : decode cX9_add 2 = .ok (.bipush 39, 2) := by decide +kernel
theorem dX9_add_4 : decode cX9_add 4 = .ok (.invokestatic 37, 3) := by decide +kernel
theorem dX9_add_7 : decode cX9_add 7 = .ok (.ifCond .eq 25, 3) := by decide +kernel
theorem dX9_add_10 : decode cX9_add 10 = .ok (.iload 4, 2) := by decide +kernel
theorem dX9_add_12 : decode cX9_add 12 = .ok (.iload_n 3, 1) := by decide +kernel
theorem dX9_add_13 : decode cX9_add 13 = .ok (.bipush 39, 2) := by decide +kernel
theorem dX9_add_15 : decode cX9_add 15 = .ok (.invokestatic 37, 3) := by decide +kernel
theorem dX9_add_18 : decode cX9_add 18 = .ok (.ifCond .eq 14, 3) := by decide +kernel
theorem dX9_add_21 : decode cX9_add 21 = .ok (.iload 5, 2) := by decide +kernel
theorem dX9_add_23 : decode cX9_add 23 = .ok (.iconst 0, 1) := by decide +kernel
theorem dX9_add_24 : decode cX9_add 24 = .ok (.bipush 60, 2) := by decide +kernel
theorem dX9_add_26 : decode cX9_add 26 = .ok (.invokestatic 37, 3) := by decide +kernel
theorem dX9_add_29 : decode cX9_add 29 = .ok (.ifCond .ne 6, 3) := by decide +kernel
theorem dX9_add_32 : decode cX9_add 32 = .ok (.bipush (-2), 2) := by decide +kernel
theorem dX9_add_34 : decode cX9_add 34 = .ok (.ireturn, 1) := by decide +kernel
theorem dX9_add_35 : decode cX9_add 35 = .ok (.aload_n 0, 1) := by decide +kernel
theorem dX9_add_36 : decode cX9_add 36 = .ok (.getfield 27, 3) := by decide +kernel
theorem dX9_add_39 : decode cX9_add 39 = .ok (.bipush 8, 2) := by decide +kernel
theorem dX9_add_41 : decode cX9_add 41 = .ok (.if_icmp .lt 6, 3) := by decide +kernel
theorem dX9_add_44 : decode cX9_add 44 = .ok (.bipush (-4), 2) := by decide +kernel
theorem dX9_add_46 : decode cX9_add 46 = .ok (.ireturn, 1) := by decide +kernel
theorem dX9_add_47 : decode cX9_add 47 = .ok (.aload_n 0, 1) := by decide +kernel
theorem dX9_add_48 : decode cX9_add 48 = .ok (.getfield 9, 3) := by decide +kernel
theorem dX9_add_51 : decode cX9_add 51 = .ok (.aload_n 0, 1) := by decide +kernel
theorem dX9_add_52 : decode cX9_add 52 = .ok (.getfield 27, 3) := by decide +kernel
theorem dX9_add_55 : decode cX9_add 55 = .ok (.iload_n 1, 1) := by decide +kernel
theorem dX9_add_56 : decode cX9_add 56 = .ok (.iastore, 1) := by decide +kernel
theorem dX9_add_57 : decode cX9_add 57 = .ok (.aload_n 0, 1) := by decide +kernel
theorem dX9_add_58 : decode cX9_add 58 = .ok (.getfield 15, 3) := by decide +kernel
theorem dX9_add_61 : decode cX9_add 61 = .ok (.aload_n 0, 1) := by decide +kernel
theorem dX9_add_62 : decode cX9_add 62 = .ok (.getfield 27, 3) := by decide +kernel
theorem dX9_add_65 : decode cX9_add 65 = .ok (.iload_n 2, 1) := by decide +kernel
theorem dX9_add_66 : decode cX9_add 66 = .ok (.iastore, 1) := by decide +kernel
theorem dX9_add_67 : decode cX9_add 67 = .ok (.aload_n 0, 1) := by decide +kernel
theorem dX9_add_68 : decode cX9_add 68 = .ok (.getfield 18, 3) := by decide +kernel
theorem dX9_add_71 : decode cX9_add 71 = .ok (.aload_n 0, 1) := by decide +kernel
theorem dX9_add_72 : decode cX9_add 72 = .ok (.getfield 27, 3) := by decide +kernel
theorem dX9_add_75 : decode cX9_add 75 = .ok (.iload_n 3, 1) := by decide +kernel
theorem dX9_add_76 : decode cX9_add 76 = .ok (.iastore, 1) := by decide +kernel
theorem dX9_add_77 : decode cX9_add 77 = .ok (.aload_n 0, 1) := by decide +kernel
theorem dX9_add_78 : decode cX9_add 78 = .ok (.getfield 21, 3) := by decide +kernel
theorem dX9_add_81 : decode cX9_add 81 = .ok (.aload_n 0, 1) := by decide +kernel
theorem dX9_add_82 : decode cX9_add 82 = .ok (.getfield 27, 3) := by decide +kernel
theorem dX9_add_85 : decode cX9_add 85 = .ok (.iload 4, 2) := by decide +kernel
theorem dX9_add_87 : decode cX9_add 87 = .ok (.iastore, 1) := by decide +kernel
theorem dX9_add_88 : decode cX9_add 88 = .ok (.aload_n 0, 1) := by decide +kernel
theorem dX9_add_89 : decode cX9_add 89 = .ok (.getfield 24, 3) := by decide +kernel
theorem dX9_add_92 : decode cX9_add 92 = .ok (.aload_n 0, 1) := by decide +kernel
theorem dX9_add_93 : decode cX9_add 93 = .ok (.getfield 27, 3) := by decide +kernel
theorem dX9_add_96 : decode cX9_add 96 = .ok (.iload 5, 2) := by decide +kernel
theorem dX9_add_98 : decode cX9_add 98 = .ok (.iastore, 1) := by decide +kernel
theorem dX9_add_99 : decode cX9_add 99 = .ok (.aload_n 0, 1) := by decide +kernel
theorem dX9_add_100 : decode cX9_add 100 = .ok (.dup, 1) := by decide +kernel
theorem dX9_add_101 : decode cX9_add 101 = .ok (.getfield 27, 3) := by decide +kernel
theorem dX9_add_104 : decode cX9_add 104 = .ok (.dup_x1, 1) := by decide +kernel
theorem dX9_add_105 : decode cX9_add 105 = .ok (.iconst 1, 1) := by decide +kernel
theorem dX9_add_106 : decode cX9_add 106 = .ok (.iadd, 1) := by decide +kernel
theorem dX9_add_107 : decode cX9_add 107 = .ok (.putfield 27, 3) := by decide +kernel
theorem dX9_add_110 : decode cX9_add 110 = .ok (.ireturn, 1) := by decide +kernel
theorem dX9_dropLast_0 : decode cX9_dropLast 0 = .ok (.aload_n 0, 1) := by decide +kernel
theorem dX9_dropLast_1 : decode cX9_dropLast 1 = .ok (.getfield 27, 3) := by decide +kernel
theorem dX9_dropLast_4 : decode cX9_dropLast 4 = .ok (.ifCond .ne 6, 3) := by decide +kernel
theorem dX9_dropLast_7 : decode cX9_dropLast 7 = .ok (.bipush (-3), 2) := by decide +kernel
theorem dX9_dropLast_9 : decode cX9_dropLast 9 = .ok (.ireturn, 1) := by decide +kernel
theorem dX9_dropLast_10 : decode cX9_dropLast 10 = .ok (.aload_n 0, 1) := by decide +kernel
theorem dX9_dropLast_11 : decode cX9_dropLast 11 = .ok (.dup, 1) := by decide +kernel
theorem dX9_dropLast_12 : decode cX9_dropLast 12 = .ok (.getfield 27, 3) := by decide +kernel
theorem dX9_dropLast_15 : decode cX9_dropLast 15 = .ok (.iconst 1, 1) := by decide +kernel
theorem dX9_dropLast_16 : decode cX9_dropLast 16 = .ok (.isub, 1) := by decide +kernel
theorem dX9_dropLast_17 : decode cX9_dropLast 17 = .ok (.putfield 27, 3) := by decide +kernel
theorem dX9_dropLast_20 : decode cX9_dropLast 20 = .ok (.iconst 1, 1) := by decide +kernel
theorem dX9_dropLast_21 : decode cX9_dropLast 21 = .ok (.ireturn, 1) := by decide +kernel
theorem dX9_isDue_0 : decode cX9_isDue 0 = .ok (.iload_n 2, 1) := by decide +kernel
theorem dX9_isDue_1 : decode cX9_isDue 1 = .ok (.aload_n 0, 1) := by decide +kernel
theorem dX9_isDue_2 : decode cX9_isDue 2 = .ok (.getfield 18, 3) := by decide +kernel
theorem dX9_isDue_5 : decode cX9_isDue 5 = .ok (.iload_n 1, 1) := by decide +kernel
theorem dX9_isDue_6 : decode cX9_isDue 6 = .ok (.iaload, 1) := by decide +kernel
theorem dX9_isDue_7 : decode cX9_isDue 7 = .ok (.if_icmp .lt 13, 3) := by decide +kernel
theorem dX9_isDue_10 : decode cX9_isDue 10 = .ok (.iload_n 2, 1) := by decide +kernel
theorem dX9_isDue_11 : decode cX9_isDue 11 = .ok (.aload_n 0, 1) := by decide +kernel
theorem dX9_isDue_12 : decode cX9_isDue 12 = .ok (.getfield 21, 3) := by decide +kernel
theorem dX9_isDue_15 : decode cX9_isDue 15 = .ok (.iload_n 1, 1) := by decide +kernel
theorem dX9_isDue_16 : decode cX9_isDue 16 = .ok (.iaload, 1) := by decide +kernel
theorem dX9_isDue_17 : decode cX9_isDue 17 = .ok (.if_icmp .le 5, 3) := by decide +kernel
theorem dX9_isDue_20 : decode cX9_isDue 20 = .ok (.iconst 0, 1) := by decide +kernel
theorem dX9_isDue_21 : decode cX9_isDue 21 = .ok (.ireturn, 1) := by decide +kernel
theorem dX9_isDue_22 : decode cX9_isDue 22 = .ok (.aload_n 0, 1) := by decide +kernel
theorem dX9_isDue_23 : decode cX9_isDue 23 = .ok (.getfield 9, 3) := by decide +kernel
theorem dX9_isDue_26 : decode cX9_isDue 26 = .ok (.iload_n 1, 1) := by decide +kernel
theorem dX9_isDue_27 : decode cX9_isDue 27 = .ok (.iaload, 1) := by decide +kernel
theorem dX9_isDue_28 : decode cX9_isDue 28 = .ok (.lookupswitch 63 #[(1, 28), (3, 47)], 28) := by decide +kernel
theorem dX9_isDue_56 : decode cX9_isDue 56 = .ok (.iload_n 2, 1) := by decide +kernel
theorem dX9_isDue_57 : decode cX9_isDue 57 = .ok (.aload_n 0, 1) := by decide +kernel
theorem dX9_isDue_58 : decode cX9_isDue 58 = .ok (.getfield 18, 3) := by decide +kernel
theorem dX9_isDue_61 : decode cX9_isDue 61 = .ok (.iload_n 1, 1) := by decide +kernel
theorem dX9_isDue_62 : decode cX9_isDue 62 = .ok (.iaload, 1) := by decide +kernel
theorem dX9_isDue_63 : decode cX9_isDue 63 = .ok (.isub, 1) := by decide +kernel
theorem dX9_isDue_64 : decode cX9_isDue 64 = .ok (.iconst 4, 1) := by decide +kernel
theorem dX9_isDue_65 : decode cX9_isDue 65 = .ok (.irem, 1) := by decide +kernel
theorem dX9_isDue_66 : decode cX9_isDue 66 = .ok (.ifCond .ne 7, 3) := by decide +kernel
theorem dX9_isDue_69 : decode cX9_isDue 69 = .ok (.iconst 1, 1) := by decide +kernel
theorem dX9_isDue_70 : decode cX9_isDue 70 = .ok (.goto 4, 3) := by decide +kernel
theorem dX9_isDue_73 : decode cX9_isDue 73 = .ok (.iconst 0, 1) := by decide +kernel
theorem dX9_isDue_74 : decode cX9_isDue 74 = .ok (.ireturn, 1) := by decide +kernel
theorem dX9_isDue_75 : decode cX9_isDue 75 = .ok (.iload_n 2, 1) := by decide +kernel
theorem dX9_isDue_76 : decode cX9_isDue 76 = .ok (.aload_n 0, 1) := by decide +kernel
theorem dX9_isDue_77 : decode cX9_isDue 77 = .ok (.getfield 18, 3) := by decide +kernel
theorem dX9_isDue_80 : decode cX9_isDue 80 = .ok (.iload_n 1, 1) := by decide +kernel
theorem dX9_isDue_81 : decode cX9_isDue 81 = .ok (.iaload, 1) := by decide +kernel
theorem dX9_isDue_82 : decode cX9_isDue 82 = .ok (.if_icmp .ne 7, 3) := by decide +kernel
theorem dX9_isDue_85 : decode cX9_isDue 85 = .ok (.iconst 1, 1) := by decide +kernel
theorem dX9_isDue_86 : decode cX9_isDue 86 = .ok (.goto 4, 3) := by decide +kernel
theorem dX9_isDue_89 : decode cX9_isDue 89 = .ok (.iconst 0, 1) := by decide +kernel
theorem dX9_isDue_90 : decode cX9_isDue 90 = .ok (.ireturn, 1) := by decide +kernel
theorem dX9_isDue_91 : decode cX9_isDue 91 = .ok (.aload_n 0, 1) := by decide +kernel
theorem dX9_isDue_92 : decode cX9_isDue 92 = .ok (.getfield 9, 3) := by decide +kernel
theorem dX9_isDue_95 : decode cX9_isDue 95 = .ok (.iload_n 1, 1) := by decide +kernel
theorem dX9_isDue_96 : decode cX9_isDue 96 = .ok (.iaload, 1) := by decide +kernel
theorem dX9_isDue_97 : decode cX9_isDue 97 = .ok (.iconst 4, 1) := by decide +kernel
theorem dX9_isDue_98 : decode cX9_isDue 98 = .ok (.if_icmp .eq 7, 3) := by decide +kernel
theorem dX9_isDue_101 : decode cX9_isDue 101 = .ok (.iconst 1, 1) := by decide +kernel
theorem dX9_isDue_102 : decode cX9_isDue 102 = .ok (.goto 4, 3) := by decide +kernel
theorem dX9_isDue_105 : decode cX9_isDue 105 = .ok (.iconst 0, 1) := by decide +kernel
theorem dX9_isDue_106 : decode cX9_isDue 106 = .ok (.ireturn, 1) := by decide +kernel
theorem dX9_coverIn_0 : decode cX9_coverIn 0 = .ok (.iconst 0, 1) := by decide +kernel
theorem dX9_coverIn_1 : decode cX9_coverIn 1 = .ok (.istore_n 2, 1) := by decide +kernel
theorem dX9_coverIn_2 : decode cX9_coverIn 2 = .ok (.iconst 0, 1) := by decide +kernel
theorem dX9_coverIn_3 : decode cX9_coverIn 3 = .ok (.istore_n 3, 1) := by decide +kernel
theorem dX9_coverIn_4 : decode cX9_coverIn 4 = .ok (.iload_n 3, 1) := by decide +kernel
theorem dX9_coverIn_5 : decode cX9_coverIn 5 = .ok (.aload_n 0, 1) := by decide +kernel
theorem dX9_coverIn_6 : decode cX9_coverIn 6 = .ok (.getfield 27, 3) := by decide +kernel
theorem dX9_coverIn_9 : decode cX9_coverIn 9 = .ok (.if_icmp .ge 48, 3) := by decide +kernel
theorem dX9_coverIn_12 : decode cX9_coverIn 12 = .ok (.aload_n 0, 1) := by decide +kernel
theorem dX9_coverIn_13 : decode cX9_coverIn 13 = .ok (.getfield 9, 3) := by decide +kernel
theorem dX9_coverIn_16 : decode cX9_coverIn 16 = .ok (.iload_n 3, 1) := by decide +kernel
theorem dX9_coverIn_17 : decode cX9_coverIn 17 = .ok (.iaload, 1) := by decide +kernel
theorem dX9_coverIn_18 : decode cX9_coverIn 18 = .ok (.iconst 4, 1) := by decide +kernel
theorem dX9_coverIn_19 : decode cX9_coverIn 19 = .ok (.if_icmp .ne 32, 3) := by decide +kernel
theorem dX9_coverIn_22 : decode cX9_coverIn 22 = .ok (.iload_n 1, 1) := by decide +kernel
theorem dX9_coverIn_23 : decode cX9_coverIn 23 = .ok (.aload_n 0, 1) := by decide +kernel
theorem dX9_coverIn_24 : decode cX9_coverIn 24 = .ok (.getfield 18, 3) := by decide +kernel
theorem dX9_coverIn_27 : decode cX9_coverIn 27 = .ok (.iload_n 3, 1) := by decide +kernel
theorem dX9_coverIn_28 : decode cX9_coverIn 28 = .ok (.iaload, 1) := by decide +kernel
theorem dX9_coverIn_29 : decode cX9_coverIn 29 = .ok (.if_icmp .lt 22, 3) := by decide +kernel
theorem dX9_coverIn_32 : decode cX9_coverIn 32 = .ok (.iload_n 1, 1) := by decide +kernel
theorem dX9_coverIn_33 : decode cX9_coverIn 33 = .ok (.aload_n 0, 1) := by decide +kernel
theorem dX9_coverIn_34 : decode cX9_coverIn 34 = .ok (.getfield 21, 3) := by decide +kernel
theorem dX9_coverIn_37 : decode cX9_coverIn 37 = .ok (.iload_n 3, 1) := by decide +kernel
theorem dX9_coverIn_38 : decode cX9_coverIn 38 = .ok (.iaload, 1) := by decide +kernel
theorem dX9_coverIn_39 : decode cX9_coverIn 39 = .ok (.if_icmp .gt 12, 3) := by decide +kernel
theorem dX9_coverIn_42 : decode cX9_coverIn 42 = .ok (.iload_n 2, 1) := by decide +kernel
theorem dX9_coverIn_43 : decode cX9_coverIn 43 = .ok (.aload_n 0, 1) := by decide +kernel
theorem dX9_coverIn_44 : decode cX9_coverIn 44 = .ok (.getfield 24, 3) := by decide +kernel
theorem dX9_coverIn_47 : decode cX9_coverIn 47 = .ok (.iload_n 3, 1) := by decide +kernel
theorem dX9_coverIn_48 : decode cX9_coverIn 48 = .ok (.iaload, 1) := by decide +kernel
theorem dX9_coverIn_49 : decode cX9_coverIn 49 = .ok (.iadd, 1) := by decide +kernel
theorem dX9_coverIn_50 : decode cX9_coverIn 50 = .ok (.istore_n 2, 1) := by decide +kernel
theorem dX9_coverIn_51 : decode cX9_coverIn 51 = .ok (.iinc 3 1, 3) := by decide +kernel
theorem dX9_coverIn_54 : decode cX9_coverIn 54 = .ok (.goto (-50), 3) := by decide +kernel
theorem dX9_coverIn_57 : decode cX9_coverIn 57 = .ok (.iload_n 2, 1) := by decide +kernel
theorem dX9_coverIn_58 : decode cX9_coverIn 58 = .ok (.ireturn, 1) := by decide +kernel
theorem dX9_digestOn_0 : decode cX9_digestOn 0 = .ok (.lload_n 1, 1) := by decide +kernel
theorem dX9_digestOn_1 : decode cX9_digestOn 1 = .ok (.lstore_n 3, 1) := by decide +kernel
theorem dX9_digestOn_2 : decode cX9_digestOn 2 = .ok (.iconst 0, 1) := by decide +kernel
theorem dX9_digestOn_3 : decode cX9_digestOn 3 = .ok (.istore 5, 2) := by decide +kernel
theorem dX9_digestOn_5 : decode cX9_digestOn 5 = .ok (.iload 5, 2) := by decide +kernel
theorem dX9_digestOn_7 : decode cX9_digestOn 7 = .ok (.aload_n 0, 1) := by decide +kernel
theorem dX9_digestOn_8 : decode cX9_digestOn 8 = .ok (.getfield 27, 3) := by decide +kernel
theorem dX9_digestOn_11 : decode cX9_digestOn 11 = .ok (.if_icmp .ge 84, 3) := by decide +kernel
theorem dX9_digestOn_14 : decode cX9_digestOn 14 = .ok (.ldc2_w 41, 3) := by decide +kernel
theorem dX9_digestOn_17 : decode cX9_digestOn 17 = .ok (.lload_n 3, 1) := by decide +kernel
theorem dX9_digestOn_18 : decode cX9_digestOn 18 = .ok (.lmul, 1) := by decide +kernel
theorem dX9_digestOn_19 : decode cX9_digestOn 19 = .ok (.aload_n 0, 1) := by decide +kernel
theorem dX9_digestOn_20 : decode cX9_digestOn 20 = .ok (.getfield 9, 3) := by decide +kernel
theorem dX9_digestOn_23 : decode cX9_digestOn 23 = .ok (.iload 5, 2) := by decide +kernel
theorem dX9_digestOn_25 : decode cX9_digestOn 25 = .ok (.iaload, 1) := by decide +kernel
theorem dX9_digestOn_26 : decode cX9_digestOn 26 = .ok (.i2l, 1) := by decide +kernel
theorem dX9_digestOn_27 : decode cX9_digestOn 27 = .ok (.ladd, 1) := by decide +kernel
theorem dX9_digestOn_28 : decode cX9_digestOn 28 = .ok (.lstore_n 3, 1) := by decide +kernel
theorem dX9_digestOn_29 : decode cX9_digestOn 29 = .ok (.ldc2_w 41, 3) := by decide +kernel
theorem dX9_digestOn_32 : decode cX9_digestOn 32 = .ok (.lload_n 3, 1) := by decide +kernel
theorem dX9_digestOn_33 : decode cX9_digestOn 33 = .ok (.lmul, 1) := by decide +kernel
theorem dX9_digestOn_34 : decode cX9_digestOn 34 = .ok (.aload_n 0, 1) := by decide +kernel
theorem dX9_digestOn_35 : decode cX9_digestOn 35 = .ok (.getfield 15, 3) := by decide +kernel
theorem dX9_digestOn_38 : decode cX9_digestOn 38 = .ok (.iload 5, 2) := by decide +kernel
theorem dX9_digestOn_40 : decode cX9_digestOn 40 = .ok (.iaload, 1) := by decide +kernel
theorem dX9_digestOn_41 : decode cX9_digestOn 41 = .ok (.i2l, 1) := by decide +kernel
theorem dX9_digestOn_42 : decode cX9_digestOn 42 = .ok (.ladd, 1) := by decide +kernel
theorem dX9_digestOn_43 : decode cX9_digestOn 43 = .ok (.lstore_n 3, 1) := by decide +kernel
theorem dX9_digestOn_44 : decode cX9_digestOn 44 = .ok (.ldc2_w 41, 3) := by decide +kernel
theorem dX9_digestOn_47 : decode cX9_digestOn 47 = .ok (.lload_n 3, 1) := by decide +kernel
theorem dX9_digestOn_48 : decode cX9_digestOn 48 = .ok (.lmul, 1) := by decide +kernel
theorem dX9_digestOn_49 : decode cX9_digestOn 49 = .ok (.aload_n 0, 1) := by decide +kernel
theorem dX9_digestOn_50 : decode cX9_digestOn 50 = .ok (.getfield 18, 3) := by decide +kernel
theorem dX9_digestOn_53 : decode cX9_digestOn 53 = .ok (.iload 5, 2) := by decide +kernel
theorem dX9_digestOn_55 : decode cX9_digestOn 55 = .ok (.iaload, 1) := by decide +kernel
theorem dX9_digestOn_56 : decode cX9_digestOn 56 = .ok (.i2l, 1) := by decide +kernel
theorem dX9_digestOn_57 : decode cX9_digestOn 57 = .ok (.ladd, 1) := by decide +kernel
theorem dX9_digestOn_58 : decode cX9_digestOn 58 = .ok (.lstore_n 3, 1) := by decide +kernel
theorem dX9_digestOn_59 : decode cX9_digestOn 59 = .ok (.ldc2_w 41, 3) := by decide +kernel
theorem dX9_digestOn_62 : decode cX9_digestOn 62 = .ok (.lload_n 3, 1) := by decide +kernel
theorem dX9_digestOn_63 : decode cX9_digestOn 63 = .ok (.lmul, 1) := by decide +kernel
theorem dX9_digestOn_64 : decode cX9_digestOn 64 = .ok (.aload_n 0, 1) := by decide +kernel
theorem dX9_digestOn_65 : decode cX9_digestOn 65 = .ok (.getfield 21, 3) := by decide +kernel
theorem dX9_digestOn_68 : decode cX9_digestOn 68 = .ok (.iload 5, 2) := by decide +kernel
theorem dX9_digestOn_70 : decode cX9_digestOn 70 = .ok (.iaload, 1) := by decide +kernel
theorem dX9_digestOn_71 : decode cX9_digestOn 71 = .ok (.i2l, 1) := by decide +kernel
theorem dX9_digestOn_72 : decode cX9_digestOn 72 = .ok (.ladd, 1) := by decide +kernel
theorem dX9_digestOn_73 : decode cX9_digestOn 73 = .ok (.lstore_n 3, 1) := by decide +kernel
theorem dX9_digestOn_74 : decode cX9_digestOn 74 = .ok (.ldc2_w 41, 3) := by decide +kernel
theorem dX9_digestOn_77 : decode cX9_digestOn 77 = .ok (.lload_n 3, 1) := by decide +kernel
theorem dX9_digestOn_78 : decode cX9_digestOn 78 = .ok (.lmul, 1) := by decide +kernel
theorem dX9_digestOn_79 : decode cX9_digestOn 79 = .ok (.aload_n 0, 1) := by decide +kernel
theorem dX9_digestOn_80 : decode cX9_digestOn 80 = .ok (.getfield 24, 3) := by decide +kernel
theorem dX9_digestOn_83 : decode cX9_digestOn 83 = .ok (.iload 5, 2) := by decide +kernel
theorem dX9_digestOn_85 : decode cX9_digestOn 85 = .ok (.iaload, 1) := by decide +kernel
theorem dX9_digestOn_86 : decode cX9_digestOn 86 = .ok (.i2l, 1) := by decide +kernel
theorem dX9_digestOn_87 : decode cX9_digestOn 87 = .ok (.ladd, 1) := by decide +kernel
theorem dX9_digestOn_88 : decode cX9_digestOn 88 = .ok (.lstore_n 3, 1) := by decide +kernel
theorem dX9_digestOn_89 : decode cX9_digestOn 89 = .ok (.iinc 5 1, 3) := by decide +kernel
theorem dX9_digestOn_92 : decode cX9_digestOn 92 = .ok (.goto (-87), 3) := by decide +kernel
theorem dX9_digestOn_95 : decode cX9_digestOn 95 = .ok (.lload_n 3, 1) := by decide +kernel
theorem dX9_digestOn_96 : decode cX9_digestOn 96 = .ok (.lreturn, 1) := by decide +kernel
theorem dX10_init_0 : decode cX10_init 0 = .ok (.aload_n 0, 1) := by decide +kernel
theorem dX10_init_1 : decode cX10_init 1 = .ok (.invokespecial 3, 3) := by decide +kernel
theorem dX10_init_4 : decode cX10_init 4 = .ok (.aload_n 0, 1) := by decide +kernel
theorem dX10_init_5 : decode cX10_init 5 = .ok (.iconst 0, 1) := by decide +kernel
theorem dX10_init_6 : decode cX10_init 6 = .ok (.putfield 9, 3) := by decide +kernel
theorem dX10_init_9 : decode cX10_init 9 = .ok (.aload_n 0, 1) := by decide +kernel
theorem dX10_init_10 : decode cX10_init 10 = .ok (.iconst 0, 1) := by decide +kernel
theorem dX10_init_11 : decode cX10_init 11 = .ok (.putfield 15, 3) := by decide +kernel
theorem dX10_init_14 : decode cX10_init 14 = .ok (.aload_n 0, 1) := by decide +kernel
theorem dX10_init_15 : decode cX10_init 15 = .ok (.bipush 60, 2) := by decide +kernel
theorem dX10_init_17 : decode cX10_init 17 = .ok (.newarray .int, 2) := by decide +kernel
theorem dX10_init_19 : decode cX10_init 19 = .ok (.putfield 18, 3) := by decide +kernel
theorem dX10_init_22 : decode cX10_init 22 = .ok (.aload_n 0, 1) := by decide +kernel
theorem dX10_init_23 : decode cX10_init 23 = .ok (.bipush 60, 2) := by decide +kernel
theorem dX10_init_25 : decode cX10_init 25 = .ok (.iconst 5, 1) := by decide +kernel
theorem dX10_init_26 : decode cX10_init 26 = .ok (.multianewarray 22 2, 4) := by decide +kernel
theorem dX10_init_30 : decode cX10_init 30 = .ok (.putfield 24, 3) := by decide +kernel
theorem dX10_init_33 : decode cX10_init 33 = .ok (.aload_n 0, 1) := by decide +kernel
theorem dX10_init_34 : decode cX10_init 34 = .ok (.sipush 300, 3) := by decide +kernel
theorem dX10_init_37 : decode cX10_init 37 = .ok (.newarray .int, 2) := by decide +kernel
theorem dX10_init_39 : decode cX10_init 39 = .ok (.putfield 27, 3) := by decide +kernel
theorem dX10_init_42 : decode cX10_init 42 = .ok (.return_, 1) := by decide +kernel
theorem dX10_append_0 : decode cX10_append 0 = .ok (.iload_n 3, 1) := by decide +kernel
theorem dX10_append_1 : decode cX10_append 1 = .ok (.iconst 1, 1) := by decide +kernel
theorem dX10_append_2 : decode cX10_append 2 = .ok (.bipush 8, 2) := by decide +kernel
theorem dX10_append_4 : decode cX10_append 4 = .ok (.invokestatic 30, 3) := by decide +kernel
theorem dX10_append_7 : decode cX10_append 7 = .ok (.ifCond .ne 6, 3) := by decide +kernel
theorem dX10_append_10 : decode cX10_append 10 = .ok (.bipush (-2), 2) := by decide +kernel
theorem dX10_append_12 : decode cX10_append 12 = .ok (.ireturn, 1) := by decide +kernel
theorem dX10_append_13 : decode cX10_append 13 = .ok (.aload_n 0, 1) := by decide +kernel
theorem dX10_append_14 : decode cX10_append 14 = .ok (.getfield 9, 3) := by decide +kernel
theorem dX10_append_17 : decode cX10_append 17 = .ok (.iload_n 3, 1) := by decide +kernel
theorem dX10_append_18 : decode cX10_append 18 = .ok (.iadd, 1) := by decide +kernel
theorem dX10_append_19 : decode cX10_append 19 = .ok (.sipush 300, 3) := by decide +kernel
theorem dX10_append_22 : decode cX10_append 22 = .ok (.if_icmp .le 6, 3) := by decide +kernel
theorem dX10_append_25 : decode cX10_append 25 = .ok (.bipush (-4), 2) := by decide +kernel
theorem dX10_append_27 : decode cX10_append 27 = .ok (.ireturn, 1) := by decide +kernel
theorem dX10_append_28 : decode cX10_append 28 = .ok (.iload_n 3, 1) := by decide +kernel
theorem dX10_append_29 : decode cX10_append 29 = .ok (.iconst 1, 1) := by decide +kernel
theorem dX10_append_30 : decode cX10_append 30 = .ok (.isub, 1) := by decide +kernel
theorem dX10_append_31 : decode cX10_append 31 = .ok (.istore 4, 2) := by decide +kernel
theorem dX10_append_33 : decode cX10_append 33 = .ok (.iload 4, 2) := by decide +kernel
theorem dX10_append_35 : decode cX10_append 35 = .ok (.ifCond .lt 37, 3) := by decide +kernel
theorem dX10_append_38 : decode cX10_append 38 = .ok (.aload_n 0, 1) := by decide +kernel
theorem dX10_append_39 : decode cX10_append 39 = .ok (.getfield 27, 3) := by decide +kernel
theorem dX10_append_42 : decode cX10_append 42 = .ok (.aload_n 0, 1) := by decide +kernel
theorem dX10_append_43 : decode cX10_append 43 = .ok (.dup, 1) := by decide +kernel
theorem dX10_append_44 : decode cX10_append 44 = .ok (.getfield 9, 3) := by decide +kernel
theorem dX10_append_47 : decode cX10_append 47 = .ok (.dup_x1, 1) := by decide +kernel
theorem dX10_append_48 : decode cX10_append 48 = .ok (.iconst 1, 1) := by decide +kernel
theorem dX10_append_49 : decode cX10_append 49 = .ok (.iadd, 1) := by decide +kernel
theorem dX10_append_50 : decode cX10_append 50 = .ok (.putfield 9, 3) := by decide +kernel
theorem dX10_append_53 : decode cX10_append 53 = .ok (.lload_n 1, 1) := by decide +kernel
theorem dX10_append_54 : decode cX10_append 54 = .ok (.bipush 8, 2) := by decide +kernel
theorem dX10_append_56 : decode cX10_append 56 = .ok (.iload 4, 2) := by decide +kernel
theorem dX10_append_58 : decode cX10_append 58 = .ok (.imul, 1) := by decide +kernel
theorem dX10_append_59 : decode cX10_append 59 = .ok (.lushr, 1) := by decide +kernel
theorem dX10_append_60 : decode cX10_append 60 = .ok (.ldc2_w 34, 3) := by decide +kernel
theorem dX10_append_63 : decode cX10_append 63 = .ok (.land, 1) := by decide +kernel
theorem dX10_append_64 : decode cX10_append 64 = .ok (.l2i, 1) := by decide +kernel
theorem dX10_append_65 : decode cX10_append 65 = .ok (.iastore, 1) := by decide +kernel
theorem dX10_append_66 : decode cX10_append 66 = .ok (.iinc 4 (-1), 3) := by decide +kernel
theorem dX10_append_69 : decode cX10_append 69 = .ok (.goto (-36), 3) := by decide +kernel
theorem dX10_append_72 : decode cX10_append 72 = .ok (.aload_n 0, 1) := by decide +kernel
theorem dX10_append_73 : decode cX10_append 73 = .ok (.getfield 9, 3) := by decide +kernel
theorem dX10_append_76 : decode cX10_append 76 = .ok (.ireturn, 1) := by decide +kernel
theorem dX10_empty_0 : decode cX10_empty 0 = .ok (.aload_n 0, 1) := by decide +kernel
theorem dX10_empty_1 : decode cX10_empty 1 = .ok (.getfield 9, 3) := by decide +kernel
theorem dX10_empty_4 : decode cX10_empty 4 = .ok (.istore_n 1, 1) := by decide +kernel
theorem dX10_empty_5 : decode cX10_empty 5 = .ok (.aload_n 0, 1) := by decide +kernel
theorem dX10_empty_6 : decode cX10_empty 6 = .ok (.iconst 0, 1) := by decide +kernel
theorem dX10_empty_7 : decode cX10_empty 7 = .ok (.putfield 9, 3) := by decide +kernel
theorem dX10_empty_10 : decode cX10_empty 10 = .ok (.iload_n 1, 1) := by decide +kernel
theorem dX10_empty_11 : decode cX10_empty 11 = .ok (.ireturn, 1) := by decide +kernel
theorem dX10_read_0 : decode cX10_read 0 = .ok (.aload_n 0, 1) := by decide +kernel
theorem dX10_read_1 : decode cX10_read 1 = .ok (.iconst 0, 1) := by decide +kernel
theorem dX10_read_2 : decode cX10_read 2 = .ok (.putfield 15, 3) := by decide +kernel
theorem dX10_read_5 : decode cX10_read 5 = .ok (.aload_n 0, 1) := by decide +kernel
theorem dX10_read_6 : decode cX10_read 6 = .ok (.iconst 0, 1) := by decide +kernel
theorem dX10_read_7 : decode cX10_read 7 = .ok (.putfield 36, 3) := by decide +kernel
theorem dX10_read_10 : decode cX10_read 10 = .ok (.aload_n 0, 1) := by decide +kernel
theorem dX10_read_11 : decode cX10_read 11 = .ok (.invokevirtual 39, 3) := by decide +kernel
theorem dX10_read_14 : decode cX10_read 14 = .ok (.iconst 0, 1) := by decide +kernel
theorem dX10_read_15 : decode cX10_read 15 = .ok (.istore_n 1, 1) := by decide +kernel
theorem dX10_read_16 : decode cX10_read 16 = .ok (.iload_n 1, 1) := by decide +kernel
theorem dX10_read_17 : decode cX10_read 17 = .ok (.sipush 300, 3) := by decide +kernel
theorem dX10_read_20 : decode cX10_read 20 = .ok (.if_icmp .ge 46, 3) := by decide +kernel
theorem dX10_read_23 : decode cX10_read 23 = .ok (.aload_n 0, 1) := by decide +kernel
theorem dX10_read_24 : decode cX10_read 24 = .ok (.getfield 36, 3) := by decide +kernel
theorem dX10_read_27 : decode cX10_read 27 = .ok (.aload_n 0, 1) := by decide +kernel
theorem dX10_read_28 : decode cX10_read 28 = .ok (.getfield 9, 3) := by decide +kernel
theorem dX10_read_31 : decode cX10_read 31 = .ok (.if_icmp .ge 35, 3) := by decide +kernel
theorem dX10_read_34 : decode cX10_read 34 = .ok (.aload_n 0, 1) := by decide +kernel
theorem dX10_read_35 : decode cX10_read 35 = .ok (.invokevirtual 42, 3) := by decide +kernel
theorem dX10_read_38 : decode cX10_read 38 = .ok (.istore_n 2, 1) := by decide +kernel
theorem dX10_read_39 : decode cX10_read 39 = .ok (.iload_n 2, 1) := by decide +kernel
theorem dX10_read_40 : decode cX10_read 40 = .ok (.iconst (-1), 1) := by decide +kernel
theorem dX10_read_41 : decode cX10_read 41 = .ok (.if_icmp .eq 5, 3) := by decide +kernel
theorem dX10_read_44 : decode cX10_read 44 = .ok (.iload_n 2, 1) := by decide +kernel
theorem dX10_read_45 : decode cX10_read 45 = .ok (.ireturn, 1) := by decide +kernel
theorem dX10_read_46 : decode cX10_read 46 = .ok (.aload_n 0, 1) := by decide +kernel
theorem dX10_read_47 : decode cX10_read 47 = .ok (.dup, 1) := by decide +kernel
theorem dX10_read_48 : decode cX10_read 48 = .ok (.getfield 15, 3) := by decide +kernel
theorem dX10_read_51 : decode cX10_read 51 = .ok (.iconst 1, 1) := by decide +kernel
theorem dX10_read_52 : decode cX10_read 52 = .ok (.iadd, 1) := by decide +kernel
theorem dX10_read_53 : decode cX10_read 53 = .ok (.putfield 15, 3) := by decide +kernel
theorem dX10_read_56 : decode cX10_read 56 = .ok (.aload_n 0, 1) := by decide +kernel
theorem dX10_read_57 : decode cX10_read 57 = .ok (.invokevirtual 39, 3) := by decide +kernel
theorem dX10_read_60 : decode cX10_read 60 = .ok (.iinc 1 1, 3) := by decide +kernel
theorem dX10_read_63 : decode cX10_read 63 = .ok (.goto (-47), 3) := by decide +kernel
theorem dX10_read_66 : decode cX10_read 66 = .ok (.iconst (-1), 1) := by decide +kernel
theorem dX10_read_67 : decode cX10_read 67 = .ok (.ireturn, 1) := by decide +kernel
theorem dX10_readItem_0 : decode cX10_readItem 0 = .ok (.aload_n 0, 1) := by decide +kernel
theorem dX10_readItem_1 : decode cX10_readItem 1 = .ok (.getfield 36, 3) := by decide +kernel
theorem dX10_readItem_4 : decode cX10_readItem 4 = .ok (.istore_n 1, 1) := by decide +kernel
theorem dX10_readItem_5 : decode cX10_readItem 5 = .ok (.aload_n 0, 1) := by decide +kernel
theorem dX10_readItem_6 : decode cX10_readItem 6 = .ok (.invokevirtual 46, 3) := by decide +kernel
theorem dX10_readItem_9 : decode cX10_readItem 9 = .ok (.istore_n 2, 1) := by decide +kernel
theorem dX10_readItem_10 : decode cX10_readItem 10 = .ok (.iload_n 2, 1) := by decide +kernel
theorem dX10_readItem_11 : decode cX10_readItem 11 = .ok (.iconst (-1), 1) := by decide +kernel
theorem dX10_readItem_12 : decode cX10_readItem 12 = .ok (.if_icmp .eq 12, 3) := by decide +kernel
theorem dX10_readItem_15 : decode cX10_readItem 15 = .ok (.aload_n 0, 1) := by decide +kernel
theorem dX10_readItem_16 : decode cX10_readItem 16 = .ok (.getfield 15, 3) := by decide +kernel
theorem dX10_readItem_19 : decode cX10_readItem 19 = .ok (.bipush 60, 2) := by decide +kernel
theorem dX10_readItem_21 : decode cX10_readItem 21 = .ok (.if_icmp .lt 5, 3) := by decide +kernel
theorem dX10_readItem_24 : decode cX10_readItem 24 = .ok (.iload_n 1, 1) := by decide +kernel
theorem dX10_readItem_25 : decode cX10_readItem 25 = .ok (.ireturn, 1) := by decide +kernel
theorem dX10_readItem_26 : decode cX10_readItem 26 = .ok (.aload_n 0, 1) := by decide +kernel
theorem dX10_readItem_27 : decode cX10_readItem 27 = .ok (.getfield 18, 3) := by decide +kernel
theorem dX10_readItem_30 : decode cX10_readItem 30 = .ok (.aload_n 0, 1) := by decide +kernel
theorem dX10_readItem_31 : decode cX10_readItem 31 = .ok (.getfield 15, 3) := by decide +kernel
theorem dX10_readItem_34 : decode cX10_readItem 34 = .ok (.iload_n 2, 1) := by decide +kernel
theorem dX10_readItem_35 : decode cX10_readItem 35 = .ok (.iastore, 1) := by decide +kernel
theorem dX10_readItem_36 : decode cX10_readItem 36 = .ok (.iconst 0, 1) := by decide +kernel
theorem dX10_readItem_37 : decode cX10_readItem 37 = .ok (.istore_n 3, 1) := by decide +kernel
theorem dX10_readItem_38 : decode cX10_readItem 38 = .ok (.iload_n 3, 1) := by decide +kernel
theorem dX10_readItem_39 : decode cX10_readItem 39 = .ok (.getstatic 49, 3) := by decide +kernel
theorem dX10_readItem_42 : decode cX10_readItem 42 = .ok (.iload_n 2, 1) := by decide +kernel
theorem dX10_readItem_43 : decode cX10_readItem 43 = .ok (.iaload, 1) := by decide +kernel
theorem dX10_readItem_44 : decode cX10_readItem 44 = .ok (.if_icmp .ge 45, 3) := by decide +kernel
theorem dX10_readItem_47 : decode cX10_readItem 47 = .ok (.aload_n 0, 1) := by decide +kernel
theorem dX10_readItem_48 : decode cX10_readItem 48 = .ok (.invokevirtual 39, 3) := by decide +kernel
theorem dX10_readItem_51 : decode cX10_readItem 51 = .ok (.aload_n 0, 1) := by decide +kernel
theorem dX10_readItem_52 : decode cX10_readItem 52 = .ok (.getfield 36, 3) := by decide +kernel
theorem dX10_readItem_55 : decode cX10_readItem 55 = .ok (.istore_n 1, 1) := by decide +kernel
theorem dX10_readItem_56 : decode cX10_readItem 56 = .ok (.aload_n 0, 1) := by decide +kernel
theorem dX10_readItem_57 : decode cX10_readItem 57 = .ok (.invokevirtual 52, 3) := by decide +kernel
theorem dX10_readItem_60 : decode cX10_readItem 60 = .ok (.istore 4, 2) := by decide +kernel
theorem dX10_readItem_62 : decode cX10_readItem 62 = .ok (.iload 4, 2) := by decide +kernel
theorem dX10_readItem_64 : decode cX10_readItem 64 = .ok (.iconst (-1), 1) := by decide +kernel
theorem dX10_readItem_65 : decode cX10_readItem 65 = .ok (.if_icmp .ne 5, 3) := by decide +kernel
theorem dX10_readItem_68 : decode cX10_readItem 68 = .ok (.iload_n 1, 1) := by decide +kernel
theorem dX10_readItem_69 : decode cX10_readItem 69 = .ok (.ireturn, 1) := by decide +kernel
theorem dX10_readItem_70 : decode cX10_readItem 70 = .ok (.aload_n 0, 1) := by decide +kernel
theorem dX10_readItem_71 : decode cX10_readItem 71 = .ok (.getfield 24, 3) := by decide +kernel
theorem dX10_readItem_74 : decode cX10_readItem 74 = .ok (.aload_n 0, 1) := by decide +kernel
theorem dX10_readItem_75 : decode cX10_readItem 75 = .ok (.getfield 15, 3) := by decide +kernel
theorem dX10_readItem_78 : decode cX10_readItem 78 = .ok (.aaload, 1) := by decide +kernel
theorem dX10_readItem_79 : decode cX10_readItem 79 = .ok (.iload_n 3, 1) := by decide +kernel
theorem dX10_readItem_80 : decode cX10_readItem 80 = .ok (.iload 4, 2) := by decide +kernel
theorem dX10_readItem_82 : decode cX10_readItem 82 = .ok (.iastore, 1) := by decide +kernel
theorem dX10_readItem_83 : decode cX10_readItem 83 = .ok (.iinc 3 1, 3) := by decide +kernel
theorem dX10_readItem_86 : decode cX10_readItem 86 = .ok (.goto (-48), 3) := by decide +kernel
theorem dX10_readItem_89 : decode cX10_readItem 89 = .ok (.aload_n 0, 1) := by decide +kernel
theorem dX10_readItem_90 : decode cX10_readItem 90 = .ok (.invokevirtual 39, 3) := by decide +kernel
theorem dX10_readItem_93 : decode cX10_readItem 93 = .ok (.aload_n 0, 1) := by decide +kernel
theorem dX10_readItem_94 : decode cX10_readItem 94 = .ok (.aload_n 0, 1) := by decide +kernel
theorem dX10_readItem_95 : decode cX10_readItem 95 = .ok (.getfield 36, 3) := by decide +kernel
theorem dX10_readItem_98 : decode cX10_readItem 98 = .ok (.invokevirtual 55, 3) := by decide +kernel
theorem dX10_readItem_101 : decode cX10_readItem 101 = .ok (.bipush 59, 2) := by decide +kernel
theorem dX10_readItem_103 : decode cX10_readItem 103 = .ok (.if_icmp .eq 8, 3) := by decide +kernel
theorem dX10_readItem_106 : decode cX10_readItem 106 = .ok (.aload_n 0, 1) := by decide +kernel
theorem dX10_readItem_107 : decode cX10_readItem 107 = .ok (.getfield 36, 3) := by decide +kernel
theorem dX10_readItem_110 : decode cX10_readItem 110 = .ok (.ireturn, 1) := by decide +kernel
theorem dX10_readItem_111 : decode cX10_readItem 111 = .ok (.aload_n 0, 1) := by decide +kernel
theorem dX10_readItem_112 : decode cX10_readItem 112 = .ok (.dup, 1) := by decide +kernel
theorem dX10_readItem_113 : decode cX10_readItem 113 = .ok (.getfield 36, 3) := by decide +kernel
theorem dX10_readItem_116 : decode cX10_readItem 116 = .ok (.iconst 1, 1) := by decide +kernel
theorem dX10_readItem_117 : decode cX10_readItem 117 = .ok (.iadd, 1) := by decide +kernel
theorem dX10_readItem_118 : decode cX10_readItem 118 = .ok (.putfield 36, 3) := by decide +kernel
theorem dX10_readItem_121 : decode cX10_readItem 121 = .ok (.iconst (-1), 1) := by decide +kernel
theorem dX10_readItem_122 : decode cX10_readItem 122 = .ok (.ireturn, 1) := by decide +kernel
theorem dX10_skipBlanks_0 : decode cX10_skipBlanks 0 = .ok (.iconst 0, 1) := by decide +kernel
theorem dX10_skipBlanks_1 : decode cX10_skipBlanks 1 = .ok (.istore_n 1, 1) := by decide +kernel
theorem dX10_skipBlanks_2 : decode cX10_skipBlanks 2 = .ok (.iload_n 1, 1) := by decide +kernel
theorem dX10_skipBlanks_3 : decode cX10_skipBlanks 3 = .ok (.sipush 300, 3) := by decide +kernel
theorem dX10_skipBlanks_6 : decode cX10_skipBlanks 6 = .ok (.if_icmp .ge 32, 3) := by decide +kernel
theorem dX10_skipBlanks_9 : decode cX10_skipBlanks 9 = .ok (.aload_n 0, 1) := by decide +kernel
theorem dX10_skipBlanks_10 : decode cX10_skipBlanks 10 = .ok (.aload_n 0, 1) := by decide +kernel
theorem dX10_skipBlanks_11 : decode cX10_skipBlanks 11 = .ok (.getfield 36, 3) := by decide +kernel
theorem dX10_skipBlanks_14 : decode cX10_skipBlanks 14 = .ok (.invokevirtual 55, 3) := by decide +kernel
theorem dX10_skipBlanks_17 : decode cX10_skipBlanks 17 = .ok (.bipush 32, 2) := by decide +kernel
theorem dX10_skipBlanks_19 : decode cX10_skipBlanks 19 = .ok (.if_icmp .ne 19, 3) := by decide +kernel
theorem dX10_skipBlanks_22 : decode cX10_skipBlanks 22 = .ok (.aload_n 0, 1) := by decide +kernel
theorem dX10_skipBlanks_23 : decode cX10_skipBlanks 23 = .ok (.dup, 1) := by decide +kernel
theorem dX10_skipBlanks_24 : decode cX10_skipBlanks 24 = .ok (.getfield 36, 3) := by decide +kernel
theorem dX10_skipBlanks_27 : decode cX10_skipBlanks 27 = .ok (.iconst 1, 1) := by decide +kernel
theorem dX10_skipBlanks_28 : decode cX10_skipBlanks 28 = .ok (.iadd, 1) := by decide +kernel
theorem dX10_skipBlanks_29 : decode cX10_skipBlanks 29 = .ok (.putfield 36, 3) := by decide +kernel
theorem dX10_skipBlanks_32 : decode cX10_skipBlanks 32 = .ok (.iinc 1 1, 3) := by decide +kernel
theorem dX10_skipBlanks_35 : decode cX10_skipBlanks 35 = .ok (.goto (-33), 3) := by decide +kernel
theorem dX10_skipBlanks_38 : decode cX10_skipBlanks 38 = .ok (.return_, 1) := by decide +kernel
theorem dX10_byteAt_0 : decode cX10_byteAt 0 = .ok (.iload_n 1, 1) := by decide +kernel
theorem dX10_byteAt_1 : decode cX10_byteAt 1 = .ok (.aload_n 0, 1) := by decide +kernel
theorem dX10_byteAt_2 : decode cX10_byteAt 2 = .ok (.getfield 9, 3) := by decide +kernel
theorem dX10_byteAt_5 : decode cX10_byteAt 5 = .ok (.if_icmp .ge 12, 3) := by decide +kernel
theorem dX10_byteAt_8 : decode cX10_byteAt 8 = .ok (.aload_n 0, 1) := by decide +kernel
theorem dX10_byteAt_9 : decode cX10_byteAt 9 = .ok (.getfield 27, 3) := by decide +kernel
theorem dX10_byteAt_12 : decode cX10_byteAt 12 = .ok (.iload_n 1, 1) := by decide +kernel
theorem dX10_byteAt_13 : decode cX10_byteAt 13 = .ok (.iaload, 1) := by decide +kernel
theorem dX10_byteAt_14 : decode cX10_byteAt 14 = .ok (.goto 4, 3) := by decide +kernel
theorem dX10_byteAt_17 : decode cX10_byteAt 17 = .ok (.iconst (-1), 1) := by decide +kernel
theorem dX10_byteAt_18 : decode cX10_byteAt 18 = .ok (.ireturn, 1) := by decide +kernel
theorem dX10_readWord_0 : decode cX10_readWord 0 = .ok (.aload_n 0, 1) := by decide +kernel
theorem dX10_readWord_1 : decode cX10_readWord 1 = .ok (.getfield 36, 3) := by decide +kernel
theorem dX10_readWord_4 : decode cX10_readWord 4 = .ok (.istore_n 1, 1) := by decide +kernel
theorem dX10_readWord_5 : decode cX10_readWord 5 = .ok (.iconst 0, 1) := by decide +kernel
theorem dX10_readWord_6 : decode cX10_readWord 6 = .ok (.istore_n 2, 1) := by decide +kernel
theorem dX10_readWord_7 : decode cX10_readWord 7 = .ok (.iload_n 2, 1) := by decide +kernel
theorem dX10_readWord_8 : decode cX10_readWord 8 = .ok (.sipush 300, 3) := by decide +kernel
theorem dX10_readWord_11 : decode cX10_readWord 11 = .ok (.if_icmp .ge 45, 3) := by decide +kernel
theorem dX10_readWord_14 : decode cX10_readWord 14 = .ok (.aload_n 0, 1) := by decide +kernel
theorem dX10_readWord_15 : decode cX10_readWord 15 = .ok (.aload_n 0, 1) := by decide +kernel
theorem dX10_readWord_16 : decode cX10_readWord 16 = .ok (.getfield 36, 3) := by decide +kernel
theorem dX10_readWord_19 : decode cX10_readWord 19 = .ok (.invokevirtual 55, 3) := by decide +kernel
theorem dX10_readWord_22 : decode cX10_readWord 22 = .ok (.bipush 97, 2) := by decide +kernel
theorem dX10_readWord_24 : decode cX10_readWord 24 = .ok (.if_icmp .lt 32, 3) := by decide +kernel
theorem dX10_readWord_27 : decode cX10_readWord 27 = .ok (.aload_n 0, 1) := by decide +kernel
theorem dX10_readWord_28 : decode cX10_readWord 28 = .ok (.aload_n 0, 1) := by decide +kernel
theorem dX10_readWord_29 : decode cX10_readWord 29 = .ok (.getfield 36, 3) := by decide +kernel
theorem dX10_readWord_32 : decode cX10_readWord 32 = .ok (.invokevirtual 55, 3) := by decide +kernel
theorem dX10_readWord_35 : decode cX10_readWord 35 = .ok (.bipush 122, 2) := by decide +kernel
theorem dX10_readWord_37 : decode cX10_readWord 37 = .ok (.if_icmp .gt 19, 3) := by decide +kernel
theorem dX10_readWord_40 : decode cX10_readWord 40 = .ok (.aload_n 0, 1) := by decide +kernel
theorem dX10_readWord_41 : decode cX10_readWord 41 = .ok (.dup, 1) := by decide +kernel
theorem dX10_readWord_42 : decode cX10_readWord 42 = .ok (.getfield 36, 3) := by decide +kernel
theorem dX10_readWord_45 : decode cX10_readWord 45 = .ok (.iconst 1, 1) := by decide +kernel
theorem dX10_readWord_46 : decode cX10_readWord 46 = .ok (.iadd, 1) := by decide +kernel
theorem dX10_readWord_47 : decode cX10_readWord 47 = .ok (.putfield 36, 3) := by decide +kernel
theorem dX10_readWord_50 : decode cX10_readWord 50 = .ok (.iinc 2 1, 3) := by decide +kernel
theorem dX10_readWord_53 : decode cX10_readWord 53 = .ok (.goto (-46), 3) := by decide +kernel
theorem dX10_readWord_56 : decode cX10_readWord 56 = .ok (.iconst 0, 1) := by decide +kernel
theorem dX10_readWord_57 : decode cX10_readWord 57 = .ok (.istore_n 2, 1) := by decide +kernel
theorem dX10_readWord_58 : decode cX10_readWord 58 = .ok (.iconst 0, 1) := by decide +kernel
theorem dX10_readWord_59 : decode cX10_readWord 59 = .ok (.istore_n 3, 1) := by decide +kernel
theorem dX10_readWord_60 : decode cX10_readWord 60 = .ok (.iconst 0, 1) := by decide +kernel
theorem dX10_readWord_61 : decode cX10_readWord 61 = .ok (.istore 4, 2) := by decide +kernel
theorem dX10_readWord_63 : decode cX10_readWord 63 = .ok (.iload 4, 2) := by decide +kernel
theorem dX10_readWord_65 : decode cX10_readWord 65 = .ok (.ldc 59, 2) := by decide +kernel
theorem dX10_readWord_67 : decode cX10_readWord 67 = .ok (.invokevirtual 61, 3) := by decide +kernel
theorem dX10_readWord_70 : decode cX10_readWord 70 = .ok (.if_icmp .ge 42, 3) := by decide +kernel
theorem dX10_readWord_73 : decode cX10_readWord 73 = .ok (.ldc 59, 2) := by decide +kernel
theorem dX10_readWord_75 : decode cX10_readWord 75 = .ok (.iload 4, 2) := by decide +kernel
theorem dX10_readWord_77 : decode cX10_readWord 77 = .ok (.invokevirtual 65, 3) := by decide +kernel
theorem dX10_readWord_80 : decode cX10_readWord 80 = .ok (.bipush 32, 2) := by decide +kernel
theorem dX10_readWord_82 : decode cX10_readWord 82 = .ok (.if_icmp .ne 24, 3) := by decide +kernel
theorem dX10_readWord_85 : decode cX10_readWord 85 = .ok (.aload_n 0, 1) := by decide +kernel
theorem dX10_readWord_86 : decode cX10_readWord 86 = .ok (.iload_n 1, 1) := by decide +kernel
theorem dX10_readWord_87 : decode cX10_readWord 87 = .ok (.iload_n 3, 1) := by decide +kernel
theorem dX10_readWord_88 : decode cX10_readWord 88 = .ok (.iload 4, 2) := by decide +kernel
theorem dX10_readWord_90 : decode cX10_readWord 90 = .ok (.invokevirtual 69, 3) := by decide +kernel
theorem dX10_readWord_93 : decode cX10_readWord 93 = .ok (.ifCond .eq 5, 3) := by decide +kernel
theorem dX10_readWord_96 : decode cX10_readWord 96 = .ok (.iload_n 2, 1) := by decide +kernel
theorem dX10_readWord_97 : decode cX10_readWord 97 = .ok (.ireturn, 1) := by decide +kernel
theorem dX10_readWord_98 : decode cX10_readWord 98 = .ok (.iinc 2 1, 3) := by decide +kernel
theorem dX10_readWord_101 : decode cX10_readWord 101 = .ok (.iload 4, 2) := by decide +kernel
theorem dX10_readWord_103 : decode cX10_readWord 103 = .ok (.iconst 1, 1) := by decide +kernel
theorem dX10_readWord_104 : decode cX10_readWord 104 = .ok (.iadd, 1) := by decide +kernel
theorem dX10_readWord_105 : decode cX10_readWord 105 = .ok (.istore_n 3, 1) := by decide +kernel
theorem dX10_readWord_106 : decode cX10_readWord 106 = .ok (.iinc 4 1, 3) := by decide +kernel
theorem dX10_readWord_109 : decode cX10_readWord 109 = .ok (.goto (-46), 3) := by decide +kernel
theorem dX10_readWord_112 : decode cX10_readWord 112 = .ok (.iconst (-1), 1) := by decide +kernel
theorem dX10_readWord_113 : decode cX10_readWord 113 = .ok (.ireturn, 1) := by decide +kernel
theorem dX10_isSame_0 : decode cX10_isSame 0 = .ok (.aload_n 0, 1) := by decide +kernel
theorem dX10_isSame_1 : decode cX10_isSame 1 = .ok (.getfield 36, 3) := by decide +kernel
theorem dX10_isSame_4 : decode cX10_isSame 4 = .ok (.iload_n 1, 1) := by decide +kernel
theorem dX10_isSame_5 : decode cX10_isSame 5 = .ok (.isub, 1) := by decide +kernel
theorem dX10_isSame_6 : decode cX10_isSame 6 = .ok (.iload_n 3, 1) := by decide +kernel
theorem dX10_isSame_7 : decode cX10_isSame 7 = .ok (.iload_n 2, 1) := by decide +kernel
theorem dX10_isSame_8 : decode cX10_isSame 8 = .ok (.isub, 1) := by decide +kernel
theorem dX10_isSame_9 : decode cX10_isSame 9 = .ok (.if_icmp .eq 5, 3) := by decide +kernel
theorem dX10_isSame_12 : decode cX10_isSame 12 = .ok (.iconst 0, 1) := by decide +kernel
theorem dX10_isSame_13 : decode cX10_isSame 13 = .ok (.ireturn, 1) := by decide +kernel
theorem dX10_isSame_14 : decode cX10_isSame 14 = .ok (.iload_n 2, 1) := by decide +kernel
theorem dX10_isSame_15 : decode cX10_isSame 15 = .ok (.istore 4, 2) := by decide +kernel
theorem dX10_isSame_17 : decode cX10_isSame 17 = .ok (.iload 4, 2) := by decide +kernel
theorem dX10_isSame_19 : decode cX10_isSame 19 = .ok (.iload_n 3, 1) := by decide +kernel
theorem dX10_isSame_20 : decode cX10_isSame 20 = .ok (.if_icmp .ge 32, 3) := by decide +kernel
theorem dX10_isSame_23 : decode cX10_isSame 23 = .ok (.aload_n 0, 1) := by decide +kernel
theorem dX10_isSame_24 : decode cX10_isSame 24 = .ok (.getfield 27, 3) := by decide +kernel
theorem dX10_isSame_27 : decode cX10_isSame 27 = .ok (.iload_n 1, 1) := by decide +kernel
theorem dX10_isSame_28 : decode cX10_isSame 28 = .ok (.iload 4, 2) := by decide +kernel
theorem dX10_isSame_30 : decode cX10_isSame 30 = .ok (.iadd, 1) := by decide +kernel
theorem dX10_isSame_31 : decode cX10_isSame 31 = .ok (.iload_n 2, 1) := by decide +kernel
theorem dX10_isSame_32 : decode cX10_isSame 32 = .ok (.isub, 1) := by decide +kernel
theorem dX10_isSame_33 : decode cX10_isSame 33 = .ok (.iaload, 1) := by decide +kernel
theorem dX10_isSame_34 : decode cX10_isSame 34 = .ok (.ldc 59, 2) := by decide +kernel
theorem dX10_isSame_36 : decode cX10_isSame 36 = .ok (.iload 4, 2) := by decide +kernel
theorem dX10_isSame_38 : decode cX10_isSame 38 = .ok (.invokevirtual 65, 3) := by decide +kernel
theorem dX10_isSame_41 : decode cX10_isSame 41 = .ok (.if_icmp .eq 5, 3) := by decide +kernel
theorem dX10_isSame_44 : decode cX10_isSame 44 = .ok (.iconst 0, 1) := by decide +kernel
theorem dX10_isSame_45 : decode cX10_isSame 45 = .ok (.ireturn, 1) := by decide +kernel
theorem dX10_isSame_46 : decode cX10_isSame 46 = .ok (.iinc 4 1, 3) := by decide +kernel
theorem dX10_isSame_49 : decode cX10_isSame 49 = .ok (.goto (-32), 3) := by decide +kernel
theorem dX10_isSame_52 : decode cX10_isSame 52 = .ok (.iconst 1, 1) := by decide +kernel
theorem dX10_isSame_53 : decode cX10_isSame 53 = .ok (.ireturn, 1) := by decide +kernel
theorem dX10_readNumber_0 : decode cX10_readNumber 0 = .ok (.iconst 0, 1) := by decide +kernel
theorem dX10_readNumber_1 : decode cX10_readNumber 1 = .ok (.istore_n 1, 1) := by decide +kernel
theorem dX10_readNumber_2 : decode cX10_readNumber 2 = .ok (.iconst 0, 1) := by decide +kernel
theorem dX10_readNumber_3 : decode cX10_readNumber 3 = .ok (.istore_n 2, 1) := by decide +kernel
theorem dX10_readNumber_4 : decode cX10_readNumber 4 = .ok (.iconst 0, 1) := by decide +kernel
theorem dX10_readNumber_5 : decode cX10_readNumber 5 = .ok (.istore_n 3, 1) := by decide +kernel
theorem dX10_readNumber_6 : decode cX10_readNumber 6 = .ok (.iload_n 3, 1) := by decide +kernel
theorem dX10_readNumber_7 : decode cX10_readNumber 7 = .ok (.sipush 300, 3) := by decide +kernel
theorem dX10_readNumber_10 : decode cX10_readNumber 10 = .ok (.if_icmp .ge 74, 3) := by decide +kernel
theorem dX10_readNumber_13 : decode cX10_readNumber 13 = .ok (.aload_n 0, 1) := by decide +kernel
theorem dX10_readNumber_14 : decode cX10_readNumber 14 = .ok (.aload_n 0, 1) := by decide +kernel
theorem dX10_readNumber_15 : decode cX10_readNumber 15 = .ok (.getfield 36, 3) := by decide +kernel
theorem dX10_readNumber_18 : decode cX10_readNumber 18 = .ok (.invokevirtual 55, 3) := by decide +kernel
theorem dX10_readNumber_21 : decode cX10_readNumber 21 = .ok (.bipush 48, 2) := by decide +kernel
theorem dX10_readNumber_23 : decode cX10_readNumber 23 = .ok (.if_icmp .lt 61, 3) := by decide +kernel
theorem dX10_readNumber_26 : decode cX10_readNumber 26 = .ok (.aload_n 0, 1) := by decide +kernel
theorem dX10_readNumber_27 : decode cX10_readNumber 27 = .ok (.aload_n 0, 1) := by decide +kernel
theorem dX10_readNumber_28 : decode cX10_readNumber 28 = .ok (.getfield 36, 3) := by decide +kernel
theorem dX10_readNumber_31 : decode cX10_readNumber 31 = .ok (.invokevirtual 55, 3) := by decide +kernel
theorem dX10_readNumber_34 : decode cX10_readNumber 34 = .ok (.bipush 57, 2) := by decide +kernel
theorem dX10_readNumber_36 : decode cX10_readNumber 36 = .ok (.if_icmp .gt 48, 3) := by decide +kernel
theorem dX10_readNumber_39 : decode cX10_readNumber 39 = .ok (.iload_n 1, 1) := by decide +kernel
theorem dX10_readNumber_40 : decode cX10_readNumber 40 = .ok (.iconst 2, 1) := by decide +kernel
theorem dX10_readNumber_41 : decode cX10_readNumber 41 = .ok (.if_icmp .ge 22, 3) := by decide +kernel
theorem dX10_readNumber_44 : decode cX10_readNumber 44 = .ok (.bipush 10, 2) := by decide +kernel
theorem dX10_readNumber_46 : decode cX10_readNumber 46 = .ok (.iload_n 2, 1) := by decide +kernel
theorem dX10_readNumber_47 : decode cX10_readNumber 47 = .ok (.imul, 1) := by decide +kernel
theorem dX10_readNumber_48 : decode cX10_readNumber 48 = .ok (.aload_n 0, 1) := by decide +kernel
theorem dX10_readNumber_49 : decode cX10_readNumber 49 = .ok (.aload_n 0, 1) := by decide +kernel
theorem dX10_readNumber_50 : decode cX10_readNumber 50 = .ok (.getfield 36, 3) := by decide +kernel
theorem dX10_readNumber_53 : decode cX10_readNumber 53 = .ok (.invokevirtual 55, 3) := by decide +kernel
theorem dX10_readNumber_56 : decode cX10_readNumber 56 = .ok (.iadd, 1) := by decide +kernel
theorem dX10_readNumber_57 : decode cX10_readNumber 57 = .ok (.bipush 48, 2) := by decide +kernel
theorem dX10_readNumber_59 : decode cX10_readNumber 59 = .ok (.isub, 1) := by decide +kernel
theorem dX10_readNumber_60 : decode cX10_readNumber 60 = .ok (.goto 4, 3) := by decide +kernel
theorem dX10_readNumber_63 : decode cX10_readNumber 63 = .ok (.iload_n 2, 1) := by decide +kernel
theorem dX10_readNumber_64 : decode cX10_readNumber 64 = .ok (.istore_n 2, 1) := by decide +kernel
theorem dX10_readNumber_65 : decode cX10_readNumber 65 = .ok (.iinc 1 1, 3) := by decide +kernel
theorem dX10_readNumber_68 : decode cX10_readNumber 68 = .ok (.aload_n 0, 1) := by decide +kernel
theorem dX10_readNumber_69 : decode cX10_readNumber 69 = .ok (.dup, 1) := by decide +kernel
theorem dX10_readNumber_70 : decode cX10_readNumber 70 = .ok (.getfield 36, 3) := by decide +kernel
theorem dX10_readNumber_73 : decode cX10_readNumber 73 = .ok (.iconst 1, 1) := by decide +kernel
theorem dX10_readNumber_74 : decode cX10_readNumber 74 = .ok (.iadd, 1) := by decide +kernel
theorem dX10_readNumber_75 : decode cX10_readNumber 75 = .ok (.putfield 36, 3) := by decide +kernel
theorem dX10_readNumber_78 : decode cX10_readNumber 78 = .ok (.iinc 3 1, 3) := by decide +kernel
theorem dX10_readNumber_81 : decode cX10_readNumber 81 = .ok (.goto (-75), 3) := by decide +kernel
theorem dX10_readNumber_84 : decode cX10_readNumber 84 = .ok (.iload_n 1, 1) := by decide +kernel
theorem dX10_readNumber_85 : decode cX10_readNumber 85 = .ok (.iconst 1, 1) := by decide +kernel
theorem dX10_readNumber_86 : decode cX10_readNumber 86 = .ok (.if_icmp .eq 8, 3) := by decide +kernel
theorem dX10_readNumber_89 : decode cX10_readNumber 89 = .ok (.iload_n 1, 1) := by decide +kernel
theorem dX10_readNumber_90 : decode cX10_readNumber 90 = .ok (.iconst 2, 1) := by decide +kernel
theorem dX10_readNumber_91 : decode cX10_readNumber 91 = .ok (.if_icmp .ne 7, 3) := by decide +kernel
theorem dX10_readNumber_94 : decode cX10_readNumber 94 = .ok (.iload_n 2, 1) := by decide +kernel
theorem dX10_readNumber_95 : decode cX10_readNumber 95 = .ok (.goto 4, 3) := by decide +kernel
theorem dX10_readNumber_98 : decode cX10_readNumber 98 = .ok (.iconst (-1), 1) := by decide +kernel
theorem dX10_readNumber_99 : decode cX10_readNumber 99 = .ok (.ireturn, 1) := by decide +kernel
