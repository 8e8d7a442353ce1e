theorem dX0_init_0 : decode cX0_init 0 = .ok (.aload_n 0, 1) := by decide +kernel
theorem dX0_init_1 : decode cX0_init 1 = .ok (.invokespecial 3, 3) := by decide +kernel
theorem dX0_init_4 : decode cX0_init 4 = .ok (.aload_n 0, 1) := by decide +kernel
theorem dX0_init_5 : decode cX0_init 5 = .ok (.new 9, 3) := by decide +kernel
theorem dX0_init_8 : decode cX0_init 8 = .ok (.dup, 1) := by decide +kernel
theorem dX0_init_9 : decode cX0_init 9 = .ok (.invokespecial 11, 3) := by decide +kernel
theorem dX0_init_12 : decode cX0_init 12 = .ok (.putfield 12, 3) := by decide +kernel
theorem dX0_init_15 : decode cX0_init 15 = .ok (.aload_n 0, 1) := by decide +kernel
theorem dX0_init_16 : decode cX0_init 16 = .ok (.bipush 6, 2) := by decide +kernel
theorem dX0_init_18 : decode cX0_init 18 = .ok (.bipush 36, 2) := by decide +kernel
theorem dX0_init_20 : decode cX0_init 20 = .ok (.multianewarray 18 2, 4) := by decide +kernel
theorem dX0_init_24 : decode cX0_init 24 = .ok (.putfield 20, 3) := by decide +kernel
theorem dX0_init_27 : decode cX0_init 27 = .ok (.aload_n 0, 1) := by decide +kernel
theorem dX0_init_28 : decode cX0_init 28 = .ok (.bipush 36, 2) := by decide +kernel
theorem dX0_init_30 : decode cX0_init 30 = .ok (.newarray .int, 2) := by decide +kernel
theorem dX0_init_32 : decode cX0_init 32 = .ok (.putfield 23, 3) := by decide +kernel
theorem dX0_init_35 : decode cX0_init 35 = .ok (.aload_n 0, 1) := by decide +kernel
theorem dX0_init_36 : decode cX0_init 36 = .ok (.bipush 6, 2) := by decide +kernel
theorem dX0_init_38 : decode cX0_init 38 = .ok (.bipush 6, 2) := by decide +kernel
theorem dX0_init_40 : decode cX0_init 40 = .ok (.multianewarray 18 2, 4) := by decide +kernel
theorem dX0_init_44 : decode cX0_init 44 = .ok (.putfield 27, 3) := by decide +kernel
theorem dX0_init_47 : decode cX0_init 47 = .ok (.aload_n 0, 1) := by decide +kernel
theorem dX0_init_48 : decode cX0_init 48 = .ok (.bipush 6, 2) := by decide +kernel
theorem dX0_init_50 : decode cX0_init 50 = .ok (.bipush 6, 2) := by decide +kernel
theorem dX0_init_52 : decode cX0_init 52 = .ok (.multianewarray 18 2, 4) := by decide +kernel
theorem dX0_init_56 : decode cX0_init 56 = .ok (.putfield 30, 3) := by decide +kernel
theorem dX0_init_59 : decode cX0_init 59 = .ok (.aload_n 0, 1) := by decide +kernel
theorem dX0_init_60 : decode cX0_init 60 = .ok (.bipush 8, 2) := by decide +kernel
theorem dX0_init_62 : decode cX0_init 62 = .ok (.bipush 6, 2) := by decide +kernel
theorem dX0_init_64 : decode cX0_init 64 = .ok (.multianewarray 18 2, 4) := by decide +kernel
theorem dX0_init_68 : decode cX0_init 68 = .ok (.putfield 33, 3) := by decide +kernel
theorem dX0_init_71 : decode cX0_init 71 = .ok (.aload_n 0, 1) := by decide +kernel
theorem dX0_init_72 : decode cX0_init 72 = .ok (.bipush 40, 2) := by decide +kernel
theorem dX0_init_74 : decode cX0_init 74 = .ok (.newarray .int, 2) := by decide +kernel
theorem dX0_init_76 : decode cX0_init 76 = .ok (.putfield 36, 3) := by decide +kernel
theorem dX0_init_79 : decode cX0_init 79 = .ok (.aload_n 0, 1) := by decide +kernel
theorem dX0_init_80 : decode cX0_init 80 = .ok (.bipush 40, 2) := by decide +kernel
theorem dX0_init_82 : decode cX0_init 82 = .ok (.newarray .int, 2) := by decide +kernel
theorem dX0_init_84 : decode cX0_init 84 = .ok (.putfield 39, 3) := by decide +kernel
theorem dX0_init_87 : decode cX0_init 87 = .ok (.aload_n 0, 1) := by decide +kernel
theorem dX0_init_88 : decode cX0_init 88 = .ok (.bipush 6, 2) := by decide +kernel
theorem dX0_init_90 : decode cX0_init 90 = .ok (.bipush 6, 2) := by decide +kernel
theorem dX0_init_92 : decode cX0_init 92 = .ok (.multianewarray 18 2, 4) := by decide +kernel
theorem dX0_init_96 : decode cX0_init 96 = .ok (.putfield 42, 3) := by decide +kernel
theorem dX0_init_99 : decode cX0_init 99 = .ok (.aload_n 0, 1) := by decide +kernel
theorem dX0_init_100 : decode cX0_init 100 = .ok (.new 45, 3) := by decide +kernel
theorem dX0_init_103 : decode cX0_init 103 = .ok (.dup, 1) := by decide +kernel
theorem dX0_init_104 : decode cX0_init 104 = .ok (.invokespecial 47, 3) := by decide +kernel
theorem dX0_init_107 : decode cX0_init 107 = .ok (.putfield 48, 3) := by decide +kernel
theorem dX0_init_110 : decode cX0_init 110 = .ok (.return_, 1) := by decide +kernel
theorem dX0_measure_0 : decode cX0_measure 0 = .ok (.aload_n 0, 1) := by decide +kernel
theorem dX0_measure_1 : decode cX0_measure 1 = .ok (.aload_n 1, 1) := by decide +kernel
theorem dX0_measure_2 : decode cX0_measure 2 = .ok (.putfield 48, 3) := by decide +kernel
theorem dX0_measure_5 : decode cX0_measure 5 = .ok (.iconst 0, 1) := by decide +kernel
theorem dX0_measure_6 : decode cX0_measure 6 = .ok (.istore_n 2, 1) := by decide +kernel
theorem dX0_measure_7 : decode cX0_measure 7 = .ok (.iload_n 2, 1) := by decide +kernel
theorem dX0_measure_8 : decode cX0_measure 8 = .ok (.aload_n 1, 1) := by decide +kernel
theorem dX0_measure_9 : decode cX0_measure 9 = .ok (.getfield 52, 3) := by decide +kernel
theorem dX0_measure_12 : decode cX0_measure 12 = .ok (.if_icmp .ge 32, 3) := by decide +kernel
theorem dX0_measure_15 : decode cX0_measure 15 = .ok (.aload_n 0, 1) := by decide +kernel
theorem dX0_measure_16 : decode cX0_measure 16 = .ok (.getfield 12, 3) := by decide +kernel
theorem dX0_measure_19 : decode cX0_measure 19 = .ok (.aload_n 1, 1) := by decide +kernel
theorem dX0_measure_20 : decode cX0_measure 20 = .ok (.getfield 56, 3) := by decide +kernel
theorem dX0_measure_23 : decode cX0_measure 23 = .ok (.aload_n 1, 1) := by decide +kernel
theorem dX0_measure_24 : decode cX0_measure 24 = .ok (.getfield 60, 3) := by decide +kernel
theorem dX0_measure_27 : decode cX0_measure 27 = .ok (.iload_n 2, 1) := by decide +kernel
theorem dX0_measure_28 : decode cX0_measure 28 = .ok (.iaload, 1) := by decide +kernel
theorem dX0_measure_29 : decode cX0_measure 29 = .ok (.aload_n 0, 1) := by decide +kernel
theorem dX0_measure_30 : decode cX0_measure 30 = .ok (.getfield 20, 3) := by decide +kernel
theorem dX0_measure_33 : decode cX0_measure 33 = .ok (.iload_n 2, 1) := by decide +kernel
theorem dX0_measure_34 : decode cX0_measure 34 = .ok (.aaload, 1) := by decide +kernel
theorem dX0_measure_35 : decode cX0_measure 35 = .ok (.invokevirtual 63, 3) := by decide +kernel
theorem dX0_measure_38 : decode cX0_measure 38 = .ok (.iinc 2 1, 3) := by decide +kernel
theorem dX0_measure_41 : decode cX0_measure 41 = .ok (.goto (-34), 3) := by decide +kernel
theorem dX0_measure_44 : decode cX0_measure 44 = .ok (.return_, 1) := by decide +kernel
theorem dX0_measureBeds_0 : decode cX0_measureBeds 0 = .ok (.iconst 0, 1) := by decide +kernel
theorem dX0_measureBeds_1 : decode cX0_measureBeds 1 = .ok (.istore_n 1, 1) := by decide +kernel
theorem dX0_measureBeds_2 : decode cX0_measureBeds 2 = .ok (.iload_n 1, 1) := by decide +kernel
theorem dX0_measureBeds_3 : decode cX0_measureBeds 3 = .ok (.aload_n 0, 1) := by decide +kernel
theorem dX0_measureBeds_4 : decode cX0_measureBeds 4 = .ok (.getfield 48, 3) := by decide +kernel
theorem dX0_measureBeds_7 : decode cX0_measureBeds 7 = .ok (.getfield 52, 3) := by decide +kernel
theorem dX0_measureBeds_10 : decode cX0_measureBeds 10 = .ok (.if_icmp .ge 72, 3) := by decide +kernel
theorem dX0_measureBeds_13 : decode cX0_measureBeds 13 = .ok (.iconst 0, 1) := by decide +kernel
theorem dX0_measureBeds_14 : decode cX0_measureBeds 14 = .ok (.istore_n 2, 1) := by decide +kernel
theorem dX0_measureBeds_15 : decode cX0_measureBeds 15 = .ok (.iload_n 2, 1) := by decide +kernel
theorem dX0_measureBeds_16 : decode cX0_measureBeds 16 = .ok (.aload_n 0, 1) := by decide +kernel
theorem dX0_measureBeds_17 : decode cX0_measureBeds 17 = .ok (.getfield 48, 3) := by decide +kernel
theorem dX0_measureBeds_20 : decode cX0_measureBeds 20 = .ok (.getfield 52, 3) := by decide +kernel
theorem dX0_measureBeds_23 : decode cX0_measureBeds 23 = .ok (.if_icmp .ge 53, 3) := by decide +kernel
theorem dX0_measureBeds_26 : decode cX0_measureBeds 26 = .ok (.aload_n 0, 1) := by decide +kernel
theorem dX0_measureBeds_27 : decode cX0_measureBeds 27 = .ok (.getfield 20, 3) := by decide +kernel
theorem dX0_measureBeds_30 : decode cX0_measureBeds 30 = .ok (.iload_n 1, 1) := by decide +kernel
theorem dX0_measureBeds_31 : decode cX0_measureBeds 31 = .ok (.aaload, 1) := by decide +kernel
theorem dX0_measureBeds_32 : decode cX0_measureBeds 32 = .ok (.aload_n 0, 1) := by decide +kernel
theorem dX0_measureBeds_33 : decode cX0_measureBeds 33 = .ok (.getfield 48, 3) := by decide +kernel
theorem dX0_measureBeds_36 : decode cX0_measureBeds 36 = .ok (.getfield 60, 3) := by decide +kernel
theorem dX0_measureBeds_39 : decode cX0_measureBeds 39 = .ok (.iload_n 2, 1) := by decide +kernel
theorem dX0_measureBeds_40 : decode cX0_measureBeds 40 = .ok (.iaload, 1) := by decide +kernel
theorem dX0_measureBeds_41 : decode cX0_measureBeds 41 = .ok (.iaload, 1) := by decide +kernel
theorem dX0_measureBeds_42 : decode cX0_measureBeds 42 = .ok (.istore_n 3, 1) := by decide +kernel
theorem dX0_measureBeds_43 : decode cX0_measureBeds 43 = .ok (.aload_n 0, 1) := by decide +kernel
theorem dX0_measureBeds_44 : decode cX0_measureBeds 44 = .ok (.getfield 42, 3) := by decide +kernel
theorem dX0_measureBeds_47 : decode cX0_measureBeds 47 = .ok (.iload_n 2, 1) := by decide +kernel
theorem dX0_measureBeds_48 : decode cX0_measureBeds 48 = .ok (.aaload, 1) := by decide +kernel
theorem dX0_measureBeds_49 : decode cX0_measureBeds 49 = .ok (.iload_n 1, 1) := by decide +kernel
theorem dX0_measureBeds_50 : decode cX0_measureBeds 50 = .ok (.iload_n 3, 1) := by decide +kernel
theorem dX0_measureBeds_51 : decode cX0_measureBeds 51 = .ok (.iconst (-1), 1) := by decide +kernel
theorem dX0_measureBeds_52 : decode cX0_measureBeds 52 = .ok (.if_icmp .ne 8, 3) := by decide +kernel
theorem dX0_measureBeds_55 : decode cX0_measureBeds 55 = .ok (.bipush 60, 2) := by decide +kernel
theorem dX0_measureBeds_57 : decode cX0_measureBeds 57 = .ok (.goto 12, 3) := by decide +kernel
theorem dX0_measureBeds_60 : decode cX0_measureBeds 60 = .ok (.aload_n 0, 1) := by decide +kernel
theorem dX0_measureBeds_61 : decode cX0_measureBeds 61 = .ok (.getfield 48, 3) := by decide +kernel
theorem dX0_measureBeds_64 : decode cX0_measureBeds 64 = .ok (.getfield 67, 3) := by decide +kernel
theorem dX0_measureBeds_67 : decode cX0_measureBeds 67 = .ok (.iload_n 3, 1) := by decide +kernel
theorem dX0_measureBeds_68 : decode cX0_measureBeds 68 = .ok (.imul, 1) := by decide +kernel
theorem dX0_measureBeds_69 : decode cX0_measureBeds 69 = .ok (.iastore, 1) := by decide +kernel
theorem dX0_measureBeds_70 : decode cX0_measureBeds 70 = .ok (.iinc 2 1, 3) := by decide +kernel
theorem dX0_measureBeds_73 : decode cX0_measureBeds 73 = .ok (.goto (-58), 3) := by decide +kernel
theorem dX0_measureBeds_76 : decode cX0_measureBeds 76 = .ok (.iinc 1 1, 3) := by decide +kernel
theorem dX0_measureBeds_79 : decode cX0_measureBeds 79 = .ok (.goto (-77), 3) := by decide +kernel
theorem dX0_measureBeds_82 : decode cX0_measureBeds 82 = .ok (.return_, 1) := by decide +kernel
theorem dX0_listenIn_0 : decode cX0_listenIn 0 = .ok (.aload_n 0, 1) := by decide +kernel
theorem dX0_listenIn_1 : decode cX0_listenIn 1 = .ok (.aload_n 1, 1) := by decide +kernel
theorem dX0_listenIn_2 : decode cX0_listenIn 2 = .ok (.getfield 70, 3) := by decide +kernel
theorem dX0_listenIn_5 : decode cX0_listenIn 5 = .ok (.invokevirtual 73, 3) := by decide +kernel
theorem dX0_listenIn_8 : decode cX0_listenIn 8 = .ok (.aload_n 0, 1) := by decide +kernel
theorem dX0_listenIn_9 : decode cX0_listenIn 9 = .ok (.invokevirtual 77, 3) := by decide +kernel
theorem dX0_listenIn_12 : decode cX0_listenIn 12 = .ok (.aload_n 0, 1) := by decide +kernel
theorem dX0_listenIn_13 : decode cX0_listenIn 13 = .ok (.getfield 12, 3) := by decide +kernel
theorem dX0_listenIn_16 : decode cX0_listenIn 16 = .ok (.aload_n 0, 1) := by decide +kernel
theorem dX0_listenIn_17 : decode cX0_listenIn 17 = .ok (.getfield 48, 3) := by decide +kernel
theorem dX0_listenIn_20 : decode cX0_listenIn 20 = .ok (.getfield 56, 3) := by decide +kernel
theorem dX0_listenIn_23 : decode cX0_listenIn 23 = .ok (.aload_n 0, 1) := by decide +kernel
theorem dX0_listenIn_24 : decode cX0_listenIn 24 = .ok (.getfield 48, 3) := by decide +kernel
theorem dX0_listenIn_27 : decode cX0_listenIn 27 = .ok (.getfield 80, 3) := by decide +kernel
theorem dX0_listenIn_30 : decode cX0_listenIn 30 = .ok (.aload_n 0, 1) := by decide +kernel
theorem dX0_listenIn_31 : decode cX0_listenIn 31 = .ok (.getfield 23, 3) := by decide +kernel
theorem dX0_listenIn_34 : decode cX0_listenIn 34 = .ok (.invokevirtual 63, 3) := by decide +kernel
theorem dX0_listenIn_37 : decode cX0_listenIn 37 = .ok (.iconst 0, 1) := by decide +kernel
theorem dX0_listenIn_38 : decode cX0_listenIn 38 = .ok (.istore_n 3, 1) := by decide +kernel
theorem dX0_listenIn_39 : decode cX0_listenIn 39 = .ok (.iload_n 3, 1) := by decide +kernel
theorem dX0_listenIn_40 : decode cX0_listenIn 40 = .ok (.aload_n 0, 1) := by decide +kernel
theorem dX0_listenIn_41 : decode cX0_listenIn 41 = .ok (.getfield 48, 3) := by decide +kernel
theorem dX0_listenIn_44 : decode cX0_listenIn 44 = .ok (.getfield 52, 3) := by decide +kernel
theorem dX0_listenIn_47 : decode cX0_listenIn 47 = .ok (.if_icmp .ge 55, 3) := by decide +kernel
theorem dX0_listenIn_50 : decode cX0_listenIn 50 = .ok (.aload_n 0, 1) := by decide +kernel
theorem dX0_listenIn_51 : decode cX0_listenIn 51 = .ok (.aload_n 0, 1) := by decide +kernel
theorem dX0_listenIn_52 : decode cX0_listenIn 52 = .ok (.getfield 48, 3) := by decide +kernel
theorem dX0_listenIn_55 : decode cX0_listenIn 55 = .ok (.getfield 80, 3) := by decide +kernel
theorem dX0_listenIn_58 : decode cX0_listenIn 58 = .ok (.aload_n 0, 1) := by decide +kernel
theorem dX0_listenIn_59 : decode cX0_listenIn 59 = .ok (.getfield 20, 3) := by decide +kernel
theorem dX0_listenIn_62 : decode cX0_listenIn 62 = .ok (.iload_n 3, 1) := by decide +kernel
theorem dX0_listenIn_63 : decode cX0_listenIn 63 = .ok (.aaload, 1) := by decide +kernel
theorem dX0_listenIn_64 : decode cX0_listenIn 64 = .ok (.aload_n 0, 1) := by decide +kernel
theorem dX0_listenIn_65 : decode cX0_listenIn 65 = .ok (.getfield 27, 3) := by decide +kernel
theorem dX0_listenIn_68 : decode cX0_listenIn 68 = .ok (.iload_n 3, 1) := by decide +kernel
theorem dX0_listenIn_69 : decode cX0_listenIn 69 = .ok (.aaload, 1) := by decide +kernel
theorem dX0_listenIn_70 : decode cX0_listenIn 70 = .ok (.invokevirtual 83, 3) := by decide +kernel
theorem dX0_listenIn_73 : decode cX0_listenIn 73 = .ok (.aload_n 0, 1) := by decide +kernel
theorem dX0_listenIn_74 : decode cX0_listenIn 74 = .ok (.aload_n 0, 1) := by decide +kernel
theorem dX0_listenIn_75 : decode cX0_listenIn 75 = .ok (.getfield 48, 3) := by decide +kernel
theorem dX0_listenIn_78 : decode cX0_listenIn 78 = .ok (.getfield 60, 3) := by decide +kernel
theorem dX0_listenIn_81 : decode cX0_listenIn 81 = .ok (.iload_n 3, 1) := by decide +kernel
theorem dX0_listenIn_82 : decode cX0_listenIn 82 = .ok (.iaload, 1) := by decide +kernel
theorem dX0_listenIn_83 : decode cX0_listenIn 83 = .ok (.aload_n 0, 1) := by decide +kernel
theorem dX0_listenIn_84 : decode cX0_listenIn 84 = .ok (.getfield 23, 3) := by decide +kernel
theorem dX0_listenIn_87 : decode cX0_listenIn 87 = .ok (.aload_n 0, 1) := by decide +kernel
theorem dX0_listenIn_88 : decode cX0_listenIn 88 = .ok (.getfield 30, 3) := by decide +kernel
theorem dX0_listenIn_91 : decode cX0_listenIn 91 = .ok (.iload_n 3, 1) := by decide +kernel
theorem dX0_listenIn_92 : decode cX0_listenIn 92 = .ok (.aaload, 1) := by decide +kernel
theorem dX0_listenIn_93 : decode cX0_listenIn 93 = .ok (.invokevirtual 83, 3) := by decide +kernel
theorem dX0_listenIn_96 : decode cX0_listenIn 96 = .ok (.iinc 3 1, 3) := by decide +kernel
theorem dX0_listenIn_99 : decode cX0_listenIn 99 = .ok (.goto (-60), 3) := by decide +kernel
theorem dX0_listenIn_102 : decode cX0_listenIn 102 = .ok (.iconst 0, 1) := by decide +kernel
theorem dX0_listenIn_103 : decode cX0_listenIn 103 = .ok (.istore_n 3, 1) := by decide +kernel
theorem dX0_listenIn_104 : decode cX0_listenIn 104 = .ok (.iload_n 3, 1) := by decide +kernel
theorem dX0_listenIn_105 : decode cX0_listenIn 105 = .ok (.bipush 40, 2) := by decide +kernel
theorem dX0_listenIn_107 : decode cX0_listenIn 107 = .ok (.if_icmp .ge 32, 3) := by decide +kernel
theorem dX0_listenIn_110 : decode cX0_listenIn 110 = .ok (.aload_n 0, 1) := by decide +kernel
theorem dX0_listenIn_111 : decode cX0_listenIn 111 = .ok (.getfield 36, 3) := by decide +kernel
theorem dX0_listenIn_114 : decode cX0_listenIn 114 = .ok (.iload_n 3, 1) := by decide +kernel
theorem dX0_listenIn_115 : decode cX0_listenIn 115 = .ok (.iload_n 2, 1) := by decide +kernel
theorem dX0_listenIn_116 : decode cX0_listenIn 116 = .ok (.aload_n 1, 1) := by decide +kernel
theorem dX0_listenIn_117 : decode cX0_listenIn 117 = .ok (.getfield 87, 3) := by decide +kernel
theorem dX0_listenIn_120 : decode cX0_listenIn 120 = .ok (.iload_n 3, 1) := by decide +kernel
theorem dX0_listenIn_121 : decode cX0_listenIn 121 = .ok (.invokevirtual 91, 3) := by decide +kernel
theorem dX0_listenIn_124 : decode cX0_listenIn 124 = .ok (.iadd, 1) := by decide +kernel
theorem dX0_listenIn_125 : decode cX0_listenIn 125 = .ok (.iastore, 1) := by decide +kernel
theorem dX0_listenIn_126 : decode cX0_listenIn 126 = .ok (.aload_n 0, 1) := by decide +kernel
theorem dX0_listenIn_127 : decode cX0_listenIn 127 = .ok (.getfield 39, 3) := by decide +kernel
theorem dX0_listenIn_130 : decode cX0_listenIn 130 = .ok (.iload_n 3, 1) := by decide +kernel
theorem dX0_listenIn_131 : decode cX0_listenIn 131 = .ok (.iconst 0, 1) := by decide +kernel
theorem dX0_listenIn_132 : decode cX0_listenIn 132 = .ok (.iastore, 1) := by decide +kernel
theorem dX0_listenIn_133 : decode cX0_listenIn 133 = .ok (.iinc 3 1, 3) := by decide +kernel
theorem dX0_listenIn_136 : decode cX0_listenIn 136 = .ok (.goto (-32), 3) := by decide +kernel
theorem dX0_listenIn_139 : decode cX0_listenIn 139 = .ok (.iconst 0, 1) := by decide +kernel
theorem dX0_listenIn_140 : decode cX0_listenIn 140 = .ok (.istore_n 3, 1) := by decide +kernel
theorem dX0_listenIn_141 : decode cX0_listenIn 141 = .ok (.iload_n 3, 1) := by decide +kernel
theorem dX0_listenIn_142 : decode cX0_listenIn 142 = .ok (.aload_n 1, 1) := by decide +kernel
theorem dX0_listenIn_143 : decode cX0_listenIn 143 = .ok (.getfield 87, 3) := by decide +kernel
theorem dX0_listenIn_146 : decode cX0_listenIn 146 = .ok (.getfield 97, 3) := by decide +kernel
theorem dX0_listenIn_149 : decode cX0_listenIn 149 = .ok (.if_icmp .ge 18, 3) := by decide +kernel
theorem dX0_listenIn_152 : decode cX0_listenIn 152 = .ok (.aload_n 0, 1) := by decide +kernel
theorem dX0_listenIn_153 : decode cX0_listenIn 153 = .ok (.aload_n 1, 1) := by decide +kernel
theorem dX0_listenIn_154 : decode cX0_listenIn 154 = .ok (.getfield 87, 3) := by decide +kernel
theorem dX0_listenIn_157 : decode cX0_listenIn 157 = .ok (.iload_n 3, 1) := by decide +kernel
theorem dX0_listenIn_158 : decode cX0_listenIn 158 = .ok (.invokevirtual 100, 3) := by decide +kernel
theorem dX0_listenIn_161 : decode cX0_listenIn 161 = .ok (.iinc 3 1, 3) := by decide +kernel
theorem dX0_listenIn_164 : decode cX0_listenIn 164 = .ok (.goto (-23), 3) := by decide +kernel
theorem dX0_listenIn_167 : decode cX0_listenIn 167 = .ok (.return_, 1) := by decide +kernel
theorem dX0_listenTo_0 : decode cX0_listenTo 0 = .ok (.iconst 0, 1) := by decide +kernel
theorem dX0_listenTo_1 : decode cX0_listenTo 1 = .ok (.istore_n 3, 1) := by decide +kernel
theorem dX0_listenTo_2 : decode cX0_listenTo 2 = .ok (.iload_n 3, 1) := by decide +kernel
theorem dX0_listenTo_3 : decode cX0_listenTo 3 = .ok (.bipush 40, 2) := by decide +kernel
theorem dX0_listenTo_5 : decode cX0_listenTo 5 = .ok (.if_icmp .ge 30, 3) := by decide +kernel
theorem dX0_listenTo_8 : decode cX0_listenTo 8 = .ok (.aload_n 1, 1) := by decide +kernel
theorem dX0_listenTo_9 : decode cX0_listenTo 9 = .ok (.iload_n 2, 1) := by decide +kernel
theorem dX0_listenTo_10 : decode cX0_listenTo 10 = .ok (.iload_n 3, 1) := by decide +kernel
theorem dX0_listenTo_11 : decode cX0_listenTo 11 = .ok (.invokevirtual 104, 3) := by decide +kernel
theorem dX0_listenTo_14 : decode cX0_listenTo 14 = .ok (.ifCond .eq 15, 3) := by decide +kernel
theorem dX0_listenTo_17 : decode cX0_listenTo 17 = .ok (.aload_n 0, 1) := by decide +kernel
theorem dX0_listenTo_18 : decode cX0_listenTo 18 = .ok (.getfield 39, 3) := by decide +kernel
theorem dX0_listenTo_21 : decode cX0_listenTo 21 = .ok (.iload_n 3, 1) := by decide +kernel
theorem dX0_listenTo_22 : decode cX0_listenTo 22 = .ok (.dup2, 1) := by decide +kernel
theorem dX0_listenTo_23 : decode cX0_listenTo 23 = .ok (.iaload, 1) := by decide +kernel
theorem dX0_listenTo_24 : decode cX0_listenTo 24 = .ok (.iconst 1, 1) := by decide +kernel
theorem dX0_listenTo_25 : decode cX0_listenTo 25 = .ok (.iload_n 2, 1) := by decide +kernel
theorem dX0_listenTo_26 : decode cX0_listenTo 26 = .ok (.ishl, 1) := by decide +kernel
theorem dX0_listenTo_27 : decode cX0_listenTo 27 = .ok (.ior, 1) := by decide +kernel
theorem dX0_listenTo_28 : decode cX0_listenTo 28 = .ok (.iastore, 1) := by decide +kernel
theorem dX0_listenTo_29 : decode cX0_listenTo 29 = .ok (.iinc 3 1, 3) := by decide +kernel
theorem dX0_listenTo_32 : decode cX0_listenTo 32 = .ok (.goto (-30), 3) := by decide +kernel
theorem dX0_listenTo_35 : decode cX0_listenTo 35 = .ok (.aload_n 1, 1) := by decide +kernel
theorem dX0_listenTo_36 : decode cX0_listenTo 36 = .ok (.getfield 108, 3) := by decide +kernel
theorem dX0_listenTo_39 : decode cX0_listenTo 39 = .ok (.iload_n 2, 1) := by decide +kernel
theorem dX0_listenTo_40 : decode cX0_listenTo 40 = .ok (.iaload, 1) := by decide +kernel
theorem dX0_listenTo_41 : decode cX0_listenTo 41 = .ok (.ifCond .ne 47, 3) := by decide +kernel
theorem dX0_listenTo_44 : decode cX0_listenTo 44 = .ok (.iconst 0, 1) := by decide +kernel
theorem dX0_listenTo_45 : decode cX0_listenTo 45 = .ok (.istore_n 3, 1) := by decide +kernel
theorem dX0_listenTo_46 : decode cX0_listenTo 46 = .ok (.iload_n 3, 1) := by decide +kernel
theorem dX0_listenTo_47 : decode cX0_listenTo 47 = .ok (.aload_n 0, 1) := by decide +kernel
theorem dX0_listenTo_48 : decode cX0_listenTo 48 = .ok (.getfield 48, 3) := by decide +kernel
theorem dX0_listenTo_51 : decode cX0_listenTo 51 = .ok (.getfield 52, 3) := by decide +kernel
theorem dX0_listenTo_54 : decode cX0_listenTo 54 = .ok (.if_icmp .ge 34, 3) := by decide +kernel
theorem dX0_listenTo_57 : decode cX0_listenTo 57 = .ok (.aload_n 0, 1) := by decide +kernel
theorem dX0_listenTo_58 : decode cX0_listenTo 58 = .ok (.getfield 33, 3) := by decide +kernel
theorem dX0_listenTo_61 : decode cX0_listenTo 61 = .ok (.iload_n 2, 1) := by decide +kernel
theorem dX0_listenTo_62 : decode cX0_listenTo 62 = .ok (.aaload, 1) := by decide +kernel
theorem dX0_listenTo_63 : decode cX0_listenTo 63 = .ok (.iload_n 3, 1) := by decide +kernel
theorem dX0_listenTo_64 : decode cX0_listenTo 64 = .ok (.aload_n 0, 1) := by decide +kernel
theorem dX0_listenTo_65 : decode cX0_listenTo 65 = .ok (.iload_n 3, 1) := by decide +kernel
theorem dX0_listenTo_66 : decode cX0_listenTo 66 = .ok (.aload_n 1, 1) := by decide +kernel
theorem dX0_listenTo_67 : decode cX0_listenTo 67 = .ok (.getfield 111, 3) := by decide +kernel
theorem dX0_listenTo_70 : decode cX0_listenTo 70 = .ok (.iload_n 2, 1) := by decide +kernel
theorem dX0_listenTo_71 : decode cX0_listenTo 71 = .ok (.iaload, 1) := by decide +kernel
theorem dX0_listenTo_72 : decode cX0_listenTo 72 = .ok (.aload_n 1, 1) := by decide +kernel
theorem dX0_listenTo_73 : decode cX0_listenTo 73 = .ok (.getfield 114, 3) := by decide +kernel
theorem dX0_listenTo_76 : decode cX0_listenTo 76 = .ok (.iload_n 2, 1) := by decide +kernel
theorem dX0_listenTo_77 : decode cX0_listenTo 77 = .ok (.iaload, 1) := by decide +kernel
theorem dX0_listenTo_78 : decode cX0_listenTo 78 = .ok (.invokevirtual 117, 3) := by decide +kernel
theorem dX0_listenTo_81 : decode cX0_listenTo 81 = .ok (.iastore, 1) := by decide +kernel
theorem dX0_listenTo_82 : decode cX0_listenTo 82 = .ok (.iinc 3 1, 3) := by decide +kernel
theorem dX0_listenTo_85 : decode cX0_listenTo 85 = .ok (.goto (-39), 3) := by decide +kernel
theorem dX0_listenTo_88 : decode cX0_listenTo 88 = .ok (.return_, 1) := by decide +kernel
theorem dX0_walk_0 : decode cX0_walk 0 = .ok (.aload_n 3, 1) := by decide +kernel
theorem dX0_walk_1 : decode cX0_walk 1 = .ok (.iconst 0, 1) := by decide +kernel
theorem dX0_walk_2 : decode cX0_walk 2 = .ok (.invokestatic 121, 3) := by decide +kernel
theorem dX0_walk_5 : decode cX0_walk 5 = .ok (.iload_n 1, 1) := by decide +kernel
theorem dX0_walk_6 : decode cX0_walk 6 = .ok (.istore 4, 2) := by decide +kernel
theorem dX0_walk_8 : decode cX0_walk 8 = .ok (.aload_n 2, 1) := by decide +kernel
theorem dX0_walk_9 : decode cX0_walk 9 = .ok (.iload_n 1, 1) := by decide +kernel
theorem dX0_walk_10 : decode cX0_walk 10 = .ok (.iaload, 1) := by decide +kernel
theorem dX0_walk_11 : decode cX0_walk 11 = .ok (.istore 5, 2) := by decide +kernel
theorem dX0_walk_13 : decode cX0_walk 13 = .ok (.iload 5, 2) := by decide +kernel
theorem dX0_walk_15 : decode cX0_walk 15 = .ok (.ifCond .le 74, 3) := by decide +kernel
theorem dX0_walk_18 : decode cX0_walk 18 = .ok (.iload 4, 2) := by decide +kernel
theorem dX0_walk_20 : decode cX0_walk 20 = .ok (.aload_n 2, 1) := by decide +kernel
theorem dX0_walk_21 : decode cX0_walk 21 = .ok (.invokestatic 127, 3) := by decide +kernel
theorem dX0_walk_24 : decode cX0_walk 24 = .ok (.istore 4, 2) := by decide +kernel
theorem dX0_walk_26 : decode cX0_walk 26 = .ok (.iload 4, 2) := by decide +kernel
theorem dX0_walk_28 : decode cX0_walk 28 = .ok (.iconst (-1), 1) := by decide +kernel
theorem dX0_walk_29 : decode cX0_walk 29 = .ok (.if_icmp .ne 4, 3) := by decide +kernel
theorem dX0_walk_32 : decode cX0_walk 32 = .ok (.return_, 1) := by decide +kernel
theorem dX0_walk_33 : decode cX0_walk 33 = .ok (.iconst 0, 1) := by decide +kernel
theorem dX0_walk_34 : decode cX0_walk 34 = .ok (.istore 6, 2) := by decide +kernel
theorem dX0_walk_36 : decode cX0_walk 36 = .ok (.iload 6, 2) := by decide +kernel
theorem dX0_walk_38 : decode cX0_walk 38 = .ok (.aload_n 0, 1) := by decide +kernel
theorem dX0_walk_39 : decode cX0_walk 39 = .ok (.getfield 48, 3) := by decide +kernel
theorem dX0_walk_42 : decode cX0_walk 42 = .ok (.getfield 52, 3) := by decide +kernel
theorem dX0_walk_45 : decode cX0_walk 45 = .ok (.if_icmp .ge 38, 3) := by decide +kernel
theorem dX0_walk_48 : decode cX0_walk 48 = .ok (.aload_n 3, 1) := by decide +kernel
theorem dX0_walk_49 : decode cX0_walk 49 = .ok (.iload 6, 2) := by decide +kernel
theorem dX0_walk_51 : decode cX0_walk 51 = .ok (.aload_n 3, 1) := by decide +kernel
theorem dX0_walk_52 : decode cX0_walk 52 = .ok (.iload 6, 2) := by decide +kernel
theorem dX0_walk_54 : decode cX0_walk 54 = .ok (.iaload, 1) := by decide +kernel
theorem dX0_walk_55 : decode cX0_walk 55 = .ok (.aload_n 0, 1) := by decide +kernel
theorem dX0_walk_56 : decode cX0_walk 56 = .ok (.iload 6, 2) := by decide +kernel
theorem dX0_walk_58 : decode cX0_walk 58 = .ok (.iload 4, 2) := by decide +kernel
theorem dX0_walk_60 : decode cX0_walk 60 = .ok (.aload_n 0, 1) := by decide +kernel
theorem dX0_walk_61 : decode cX0_walk 61 = .ok (.getfield 48, 3) := by decide +kernel
theorem dX0_walk_64 : decode cX0_walk 64 = .ok (.getfield 131, 3) := by decide +kernel
theorem dX0_walk_67 : decode cX0_walk 67 = .ok (.iload 4, 2) := by decide +kernel
theorem dX0_walk_69 : decode cX0_walk 69 = .ok (.iaload, 1) := by decide +kernel
theorem dX0_walk_70 : decode cX0_walk 70 = .ok (.invokevirtual 117, 3) := by decide +kernel
theorem dX0_walk_73 : decode cX0_walk 73 = .ok (.invokestatic 134, 3) := by decide +kernel
theorem dX0_walk_76 : decode cX0_walk 76 = .ok (.iastore, 1) := by decide +kernel
theorem dX0_walk_77 : decode cX0_walk 77 = .ok (.iinc 6 1, 3) := by decide +kernel
theorem dX0_walk_80 : decode cX0_walk 80 = .ok (.goto (-44), 3) := by decide +kernel
theorem dX0_walk_83 : decode cX0_walk 83 = .ok (.iinc 5 (-1), 3) := by decide +kernel
theorem dX0_walk_86 : decode cX0_walk 86 = .ok (.goto (-73), 3) := by decide +kernel
theorem dX0_walk_89 : decode cX0_walk 89 = .ok (.return_, 1) := by decide +kernel
theorem dX0_at_0 : decode cX0_at 0 = .ok (.iload_n 3, 1) := by decide +kernel
theorem dX0_at_1 : decode cX0_at 1 = .ok (.aload_n 0, 1) := by decide +kernel
theorem dX0_at_2 : decode cX0_at 2 = .ok (.getfield 20, 3) := by decide +kernel
theorem dX0_at_5 : decode cX0_at 5 = .ok (.iload_n 1, 1) := by decide +kernel
theorem dX0_at_6 : decode cX0_at 6 = .ok (.aaload, 1) := by decide +kernel
theorem dX0_at_7 : decode cX0_at 7 = .ok (.iload_n 2, 1) := by decide +kernel
theorem dX0_at_8 : decode cX0_at 8 = .ok (.iaload, 1) := by decide +kernel
theorem dX0_at_9 : decode cX0_at 9 = .ok (.aload_n 0, 1) := by decide +kernel
theorem dX0_at_10 : decode cX0_at 10 = .ok (.getfield 48, 3) := by decide +kernel
theorem dX0_at_13 : decode cX0_at 13 = .ok (.getfield 67, 3) := by decide +kernel
theorem dX0_at_16 : decode cX0_at 16 = .ok (.invokestatic 140, 3) := by decide +kernel
theorem dX0_at_19 : decode cX0_at 19 = .ok (.ireturn, 1) := by decide +kernel
theorem dX1_init_0 : decode cX1_init 0 = .ok (.aload_n 0, 1) := by decide +kernel
theorem dX1_init_1 : decode cX1_init 1 = .ok (.invokespecial 3, 3) := by decide +kernel
theorem dX1_init_4 : decode cX1_init 4 = .ok (.aload_n 0, 1) := by decide +kernel
theorem dX1_init_5 : decode cX1_init 5 = .ok (.bipush 36, 2) := by decide +kernel
theorem dX1_init_7 : decode cX1_init 7 = .ok (.newarray .boolean, 2) := by decide +kernel
theorem dX1_init_9 : decode cX1_init 9 = .ok (.putfield 9, 3) := by decide +kernel
theorem dX1_init_12 : decode cX1_init 12 = .ok (.aload_n 0, 1) := by decide +kernel
theorem dX1_init_13 : decode cX1_init 13 = .ok (.bipush 36, 2) := by decide +kernel
theorem dX1_init_15 : decode cX1_init 15 = .ok (.newarray .int, 2) := by decide +kernel
theorem dX1_init_17 : decode cX1_init 17 = .ok (.putfield 15, 3) := by decide +kernel
theorem dX1_init_20 : decode cX1_init 20 = .ok (.aload_n 0, 1) := by decide +kernel
theorem dX1_init_21 : decode cX1_init 21 = .ok (.bipush 6, 2) := by decide +kernel
theorem dX1_init_23 : decode cX1_init 23 = .ok (.newarray .int, 2) := by decide +kernel
theorem dX1_init_25 : decode cX1_init 25 = .ok (.putfield 19, 3) := by decide +kernel
theorem dX1_init_28 : decode cX1_init 28 = .ok (.aload_n 0, 1) := by decide +kernel
theorem dX1_init_29 : decode cX1_init 29 = .ok (.iconst 0, 1) := by decide +kernel
theorem dX1_init_30 : decode cX1_init 30 = .ok (.putfield 22, 3) := by decide +kernel
theorem dX1_init_33 : decode cX1_init 33 = .ok (.aload_n 0, 1) := by decide +kernel
theorem dX1_init_34 : decode cX1_init 34 = .ok (.iconst 2, 1) := by decide +kernel
theorem dX1_init_35 : decode cX1_init 35 = .ok (.putfield 26, 3) := by decide +kernel
theorem dX1_init_38 : decode cX1_init 38 = .ok (.aload_n 0, 1) := by decide +kernel
theorem dX1_init_39 : decode cX1_init 39 = .ok (.iconst 0, 1) := by decide +kernel
theorem dX1_init_40 : decode cX1_init 40 = .ok (.putfield 29, 3) := by decide +kernel
theorem dX1_init_43 : decode cX1_init 43 = .ok (.return_, 1) := by decide +kernel
theorem dX1_restart_0 : decode cX1_restart 0 = .ok (.iconst 0, 1) := by decide +kernel
theorem dX1_restart_1 : decode cX1_restart 1 = .ok (.istore_n 1, 1) := by decide +kernel
theorem dX1_restart_2 : decode cX1_restart 2 = .ok (.iload_n 1, 1) := by decide +kernel
theorem dX1_restart_3 : decode cX1_restart 3 = .ok (.bipush 36, 2) := by decide +kernel
theorem dX1_restart_5 : decode cX1_restart 5 = .ok (.if_icmp .ge 23, 3) := by decide +kernel
theorem dX1_restart_8 : decode cX1_restart 8 = .ok (.aload_n 0, 1) := by decide +kernel
theorem dX1_restart_9 : decode cX1_restart 9 = .ok (.getfield 9, 3) := by decide +kernel
theorem dX1_restart_12 : decode cX1_restart 12 = .ok (.iload_n 1, 1) := by decide +kernel
theorem dX1_restart_13 : decode cX1_restart 13 = .ok (.iconst 0, 1) := by decide +kernel
theorem dX1_restart_14 : decode cX1_restart 14 = .ok (.bastore, 1) := by decide +kernel
theorem dX1_restart_15 : decode cX1_restart 15 = .ok (.aload_n 0, 1) := by decide +kernel
theorem dX1_restart_16 : decode cX1_restart 16 = .ok (.getfield 15, 3) := by decide +kernel
theorem dX1_restart_19 : decode cX1_restart 19 = .ok (.iload_n 1, 1) := by decide +kernel
theorem dX1_restart_20 : decode cX1_restart 20 = .ok (.iconst 0, 1) := by decide +kernel
theorem dX1_restart_21 : decode cX1_restart 21 = .ok (.iastore, 1) := by decide +kernel
theorem dX1_restart_22 : decode cX1_restart 22 = .ok (.iinc 1 1, 3) := by decide +kernel
theorem dX1_restart_25 : decode cX1_restart 25 = .ok (.goto (-23), 3) := by decide +kernel
theorem dX1_restart_28 : decode cX1_restart 28 = .ok (.aload_n 0, 1) := by decide +kernel
theorem dX1_restart_29 : decode cX1_restart 29 = .ok (.iconst 0, 1) := by decide +kernel
theorem dX1_restart_30 : decode cX1_restart 30 = .ok (.putfield 22, 3) := by decide +kernel
theorem dX1_restart_33 : decode cX1_restart 33 = .ok (.aload_n 0, 1) := by decide +kernel
theorem dX1_restart_34 : decode cX1_restart 34 = .ok (.iconst 2, 1) := by decide +kernel
theorem dX1_restart_35 : decode cX1_restart 35 = .ok (.putfield 26, 3) := by decide +kernel
theorem dX1_restart_38 : decode cX1_restart 38 = .ok (.aload_n 0, 1) := by decide +kernel
theorem dX1_restart_39 : decode cX1_restart 39 = .ok (.iconst 0, 1) := by decide +kernel
theorem dX1_restart_40 : decode cX1_restart 40 = .ok (.putfield 29, 3) := by decide +kernel
theorem dX1_restart_43 : decode cX1_restart 43 = .ok (.return_, 1) := by decide +kernel
theorem dX1_copy_0 : decode cX1_copy 0 = .ok (.aload_n 1, 1) := by decide +kernel
theorem dX1_copy_1 : decode cX1_copy 1 = .ok (.getfield 9, 3) := by decide +kernel
theorem dX1_copy_4 : decode cX1_copy 4 = .ok (.iconst 0, 1) := by decide +kernel
theorem dX1_copy_5 : decode cX1_copy 5 = .ok (.aload_n 0, 1) := by decide +kernel
theorem dX1_copy_6 : decode cX1_copy 6 = .ok (.getfield 9, 3) := by decide +kernel
theorem dX1_copy_9 : decode cX1_copy 9 = .ok (.iconst 0, 1) := by decide +kernel
theorem dX1_copy_10 : decode cX1_copy 10 = .ok (.bipush 36, 2) := by decide +kernel
theorem dX1_copy_12 : decode cX1_copy 12 = .ok (.invokestatic 32, 3) := by decide +kernel
theorem dX1_copy_15 : decode cX1_copy 15 = .ok (.aload_n 1, 1) := by decide +kernel
theorem dX1_copy_16 : decode cX1_copy 16 = .ok (.getfield 15, 3) := by decide +kernel
theorem dX1_copy_19 : decode cX1_copy 19 = .ok (.iconst 0, 1) := by decide +kernel
theorem dX1_copy_20 : decode cX1_copy 20 = .ok (.aload_n 0, 1) := by decide +kernel
theorem dX1_copy_21 : decode cX1_copy 21 = .ok (.getfield 15, 3) := by decide +kernel
theorem dX1_copy_24 : decode cX1_copy 24 = .ok (.iconst 0, 1) := by decide +kernel
theorem dX1_copy_25 : decode cX1_copy 25 = .ok (.bipush 36, 2) := by decide +kernel
theorem dX1_copy_27 : decode cX1_copy 27 = .ok (.invokestatic 32, 3) := by decide +kernel
theorem dX1_copy_30 : decode cX1_copy 30 = .ok (.aload_n 1, 1) := by decide +kernel
theorem dX1_copy_31 : decode cX1_copy 31 = .ok (.getfield 19, 3) := by decide +kernel
theorem dX1_copy_34 : decode cX1_copy 34 = .ok (.iconst 0, 1) := by decide +kernel
theorem dX1_copy_35 : decode cX1_copy 35 = .ok (.aload_n 0, 1) := by decide +kernel
theorem dX1_copy_36 : decode cX1_copy 36 = .ok (.getfield 19, 3) := by decide +kernel
theorem dX1_copy_39 : decode cX1_copy 39 = .ok (.iconst 0, 1) := by decide +kernel
theorem dX1_copy_40 : decode cX1_copy 40 = .ok (.bipush 6, 2) := by decide +kernel
theorem dX1_copy_42 : decode cX1_copy 42 = .ok (.invokestatic 32, 3) := by decide +kernel
theorem dX1_copy_45 : decode cX1_copy 45 = .ok (.aload_n 0, 1) := by decide +kernel
theorem dX1_copy_46 : decode cX1_copy 46 = .ok (.aload_n 1, 1) := by decide +kernel
theorem dX1_copy_47 : decode cX1_copy 47 = .ok (.getfield 22, 3) := by decide +kernel
theorem dX1_copy_50 : decode cX1_copy 50 = .ok (.putfield 22, 3) := by decide +kernel
theorem dX1_copy_53 : decode cX1_copy 53 = .ok (.aload_n 0, 1) := by decide +kernel
theorem dX1_copy_54 : decode cX1_copy 54 = .ok (.aload_n 1, 1) := by decide +kernel
theorem dX1_copy_55 : decode cX1_copy 55 = .ok (.getfield 26, 3) := by decide +kernel
theorem dX1_copy_58 : decode cX1_copy 58 = .ok (.putfield 26, 3) := by decide +kernel
theorem dX1_copy_61 : decode cX1_copy 61 = .ok (.aload_n 0, 1) := by decide +kernel
theorem dX1_copy_62 : decode cX1_copy 62 = .ok (.aload_n 1, 1) := by decide +kernel
theorem dX1_copy_63 : decode cX1_copy 63 = .ok (.getfield 29, 3) := by decide +kernel
theorem dX1_copy_66 : decode cX1_copy 66 = .ok (.putfield 29, 3) := by decide +kernel
theorem dX1_copy_69 : decode cX1_copy 69 = .ok (.return_, 1) := by decide +kernel
theorem dX1_hasBed_0 : decode cX1_hasBed 0 = .ok (.iload_n 1, 1) := by decide +kernel
theorem dX1_hasBed_1 : decode cX1_hasBed 1 = .ok (.ifCond .lt 15, 3) := by decide +kernel
theorem dX1_hasBed_4 : decode cX1_hasBed 4 = .ok (.iload_n 1, 1) := by decide +kernel
theorem dX1_hasBed_5 : decode cX1_hasBed 5 = .ok (.aload_n 0, 1) := by decide +kernel
theorem dX1_hasBed_6 : decode cX1_hasBed 6 = .ok (.getfield 22, 3) := by decide +kernel
theorem dX1_hasBed_9 : decode cX1_hasBed 9 = .ok (.if_icmp .ge 7, 3) := by decide +kernel
theorem dX1_hasBed_12 : decode cX1_hasBed 12 = .ok (.iconst 1, 1) := by decide +kernel
theorem dX1_hasBed_13 : decode cX1_hasBed 13 = .ok (.goto 4, 3) := by decide +kernel
theorem dX1_hasBed_16 : decode cX1_hasBed 16 = .ok (.iconst 0, 1) := by decide +kernel
theorem dX1_hasBed_17 : decode cX1_hasBed 17 = .ok (.ireturn, 1) := by decide +kernel
theorem dX1_hasBedAt_0 : decode cX1_hasBedAt 0 = .ok (.iconst 0, 1) := by decide +kernel
theorem dX1_hasBedAt_1 : decode cX1_hasBedAt 1 = .ok (.istore_n 2, 1) := by decide +kernel
theorem dX1_hasBedAt_2 : decode cX1_hasBedAt 2 = .ok (.iload_n 2, 1) := by decide +kernel
theorem dX1_hasBedAt_3 : decode cX1_hasBedAt 3 = .ok (.aload_n 0, 1) := by decide +kernel
theorem dX1_hasBedAt_4 : decode cX1_hasBedAt 4 = .ok (.getfield 22, 3) := by decide +kernel
theorem dX1_hasBedAt_7 : decode cX1_hasBedAt 7 = .ok (.if_icmp .ge 21, 3) := by decide +kernel
theorem dX1_hasBedAt_10 : decode cX1_hasBedAt 10 = .ok (.aload_n 0, 1) := by decide +kernel
theorem dX1_hasBedAt_11 : decode cX1_hasBedAt 11 = .ok (.getfield 19, 3) := by decide +kernel
theorem dX1_hasBedAt_14 : decode cX1_hasBedAt 14 = .ok (.iload_n 2, 1) := by decide +kernel
theorem dX1_hasBedAt_15 : decode cX1_hasBedAt 15 = .ok (.iaload, 1) := by decide +kernel
theorem dX1_hasBedAt_16 : decode cX1_hasBedAt 16 = .ok (.iload_n 1, 1) := by decide +kernel
theorem dX1_hasBedAt_17 : decode cX1_hasBedAt 17 = .ok (.if_icmp .ne 5, 3) := by decide +kernel
theorem dX1_hasBedAt_20 : decode cX1_hasBedAt 20 = .ok (.iconst 1, 1) := by decide +kernel
theorem dX1_hasBedAt_21 : decode cX1_hasBedAt 21 = .ok (.ireturn, 1) := by decide +kernel
theorem dX1_hasBedAt_22 : decode cX1_hasBedAt 22 = .ok (.iinc 2 1, 3) := by decide +kernel
theorem dX1_hasBedAt_25 : decode cX1_hasBedAt 25 = .ok (.goto (-23), 3) := by decide +kernel
theorem dX1_hasBedAt_28 : decode cX1_hasBedAt 28 = .ok (.iconst 0, 1) := by decide +kernel
theorem dX1_hasBedAt_29 : decode cX1_hasBedAt 29 = .ok (.ireturn, 1) := by decide +kernel
theorem dX1_wallCount_0 : decode cX1_wallCount 0 = .ok (.iconst 0, 1) := by decide +kernel
theorem dX1_wallCount_1 : decode cX1_wallCount 1 = .ok (.istore_n 1, 1) := by decide +kernel
theorem dX1_wallCount_2 : decode cX1_wallCount 2 = .ok (.aload_n 0, 1) := by decide +kernel
theorem dX1_wallCount_3 : decode cX1_wallCount 3 = .ok (.getfield 9, 3) := by decide +kernel
theorem dX1_wallCount_6 : decode cX1_wallCount 6 = .ok (.astore_n 2, 1) := by decide +kernel
theorem dX1_wallCount_7 : decode cX1_wallCount 7 = .ok (.aload_n 2, 1) := by decide +kernel
theorem dX1_wallCount_8 : decode cX1_wallCount 8 = .ok (.arraylength, 1) := by decide +kernel
theorem dX1_wallCount_9 : decode cX1_wallCount 9 = .ok (.istore_n 3, 1) := by decide +kernel
theorem dX1_wallCount_10 : decode cX1_wallCount 10 = .ok (.iconst 0, 1) := by decide +kernel
theorem dX1_wallCount_11 : decode cX1_wallCount 11 = .ok (.istore 4, 2) := by decide +kernel
theorem dX1_wallCount_13 : decode cX1_wallCount 13 = .ok (.iload 4, 2) := by decide +kernel
theorem dX1_wallCount_15 : decode cX1_wallCount 15 = .ok (.iload_n 3, 1) := by decide +kernel
theorem dX1_wallCount_16 : decode cX1_wallCount 16 = .ok (.if_icmp .ge 28, 3) := by decide +kernel
theorem dX1_wallCount_19 : decode cX1_wallCount 19 = .ok (.aload_n 2, 1) := by decide +kernel
theorem dX1_wallCount_20 : decode cX1_wallCount 20 = .ok (.iload 4, 2) := by decide +kernel
theorem dX1_wallCount_22 : decode cX1_wallCount 22 = .ok (.baload, 1) := by decide +kernel
theorem dX1_wallCount_23 : decode cX1_wallCount 23 = .ok (.istore 5, 2) := by decide +kernel
theorem dX1_wallCount_25 : decode cX1_wallCount 25 = .ok (.iload_n 1, 1) := by decide +kernel
theorem dX1_wallCount_26 : decode cX1_wallCount 26 = .ok (.iload 5, 2) := by decide +kernel
theorem dX1_wallCount_28 : decode cX1_wallCount 28 = .ok (.ifCond .eq 7, 3) := by decide +kernel
theorem dX1_wallCount_31 : decode cX1_wallCount 31 = .ok (.iconst 1, 1) := by decide +kernel
theorem dX1_wallCount_32 : decode cX1_wallCount 32 = .ok (.goto 4, 3) := by decide +kernel
theorem dX1_wallCount_35 : decode cX1_wallCount 35 = .ok (.iconst 0, 1) := by decide +kernel
theorem dX1_wallCount_36 : decode cX1_wallCount 36 = .ok (.iadd, 1) := by decide +kernel
theorem dX1_wallCount_37 : decode cX1_wallCount 37 = .ok (.istore_n 1, 1) := by decide +kernel
theorem dX1_wallCount_38 : decode cX1_wallCount 38 = .ok (.iinc 4 1, 3) := by decide +kernel
theorem dX1_wallCount_41 : decode cX1_wallCount 41 = .ok (.goto (-28), 3) := by decide +kernel
theorem dX1_wallCount_44 : decode cX1_wallCount 44 = .ok (.iload_n 1, 1) := by decide +kernel
theorem dX1_wallCount_45 : decode cX1_wallCount 45 = .ok (.ireturn, 1) := by decide +kernel
theorem dX1_setWall_0 : decode cX1_setWall 0 = .ok (.iload_n 1, 1) := by decide +kernel
theorem dX1_setWall_1 : decode cX1_setWall 1 = .ok (.invokestatic 38, 3) := by decide +kernel
theorem dX1_setWall_4 : decode cX1_setWall 4 = .ok (.ifCond .eq 19, 3) := by decide +kernel
theorem dX1_setWall_7 : decode cX1_setWall 7 = .ok (.iload_n 1, 1) := by decide +kernel
theorem dX1_setWall_8 : decode cX1_setWall 8 = .ok (.aload_n 0, 1) := by decide +kernel
theorem dX1_setWall_9 : decode cX1_setWall 9 = .ok (.getfield 29, 3) := by decide +kernel
theorem dX1_setWall_12 : decode cX1_setWall 12 = .ok (.if_icmp .eq 11, 3) := by decide +kernel
theorem dX1_setWall_15 : decode cX1_setWall 15 = .ok (.aload_n 0, 1) := by decide +kernel
theorem dX1_setWall_16 : decode cX1_setWall 16 = .ok (.iload_n 1, 1) := by decide +kernel
theorem dX1_setWall_17 : decode cX1_setWall 17 = .ok (.invokevirtual 42, 3) := by decide +kernel
theorem dX1_setWall_20 : decode cX1_setWall 20 = .ok (.ifCond .eq 6, 3) := by decide +kernel
theorem dX1_setWall_23 : decode cX1_setWall 23 = .ok (.bipush (-2), 2) := by decide +kernel
theorem dX1_setWall_25 : decode cX1_setWall 25 = .ok (.ireturn, 1) := by decide +kernel
theorem dX1_setWall_26 : decode cX1_setWall 26 = .ok (.aload_n 0, 1) := by decide +kernel
theorem dX1_setWall_27 : decode cX1_setWall 27 = .ok (.getfield 9, 3) := by decide +kernel
theorem dX1_setWall_30 : decode cX1_setWall 30 = .ok (.iload_n 1, 1) := by decide +kernel
theorem dX1_setWall_31 : decode cX1_setWall 31 = .ok (.baload, 1) := by decide +kernel
theorem dX1_setWall_32 : decode cX1_setWall 32 = .ok (.iload_n 2, 1) := by decide +kernel
theorem dX1_setWall_33 : decode cX1_setWall 33 = .ok (.if_icmp .ne 6, 3) := by decide +kernel
theorem dX1_setWall_36 : decode cX1_setWall 36 = .ok (.bipush (-3), 2) := by decide +kernel
theorem dX1_setWall_38 : decode cX1_setWall 38 = .ok (.ireturn, 1) := by decide +kernel
theorem dX1_setWall_39 : decode cX1_setWall 39 = .ok (.aload_n 0, 1) := by decide +kernel
theorem dX1_setWall_40 : decode cX1_setWall 40 = .ok (.getfield 9, 3) := by decide +kernel
theorem dX1_setWall_43 : decode cX1_setWall 43 = .ok (.iload_n 1, 1) := by decide +kernel
theorem dX1_setWall_44 : decode cX1_setWall 44 = .ok (.iload_n 2, 1) := by decide +kernel
theorem dX1_setWall_45 : decode cX1_setWall 45 = .ok (.bastore, 1) := by decide +kernel
theorem dX1_setWall_46 : decode cX1_setWall 46 = .ok (.iconst 1, 1) := by decide +kernel
theorem dX1_setWall_47 : decode cX1_setWall 47 = .ok (.ireturn, 1) := by decide +kernel
theorem dX1_setCreak_0 : decode cX1_setCreak 0 = .ok (.iload_n 1, 1) := by decide +kernel
theorem dX1_setCreak_1 : decode cX1_setCreak 1 = .ok (.invokestatic 38, 3) := by decide +kernel
theorem dX1_setCreak_4 : decode cX1_setCreak 4 = .ok (.ifCond .eq 13, 3) := by decide +kernel
theorem dX1_setCreak_7 : decode cX1_setCreak 7 = .ok (.iload_n 2, 1) := by decide +kernel
theorem dX1_setCreak_8 : decode cX1_setCreak 8 = .ok (.iconst 0, 1) := by decide +kernel
theorem dX1_setCreak_9 : decode cX1_setCreak 9 = .ok (.bipush 40, 2) := by decide +kernel
theorem dX1_setCreak_11 : decode cX1_setCreak 11 = .ok (.invokestatic 45, 3) := by decide +kernel
theorem dX1_setCreak_14 : decode cX1_setCreak 14 = .ok (.ifCond .ne 6, 3) := by decide +kernel
theorem dX1_setCreak_17 : decode cX1_setCreak 17 = .ok (.bipush (-2), 2) := by decide +kernel
theorem dX1_setCreak_19 : decode cX1_setCreak 19 = .ok (.ireturn, 1) := by decide +kernel
theorem dX1_setCreak_20 : decode cX1_setCreak 20 = .ok (.aload_n 0, 1) := by decide +kernel
theorem dX1_setCreak_21 : decode cX1_setCreak 21 = .ok (.getfield 15, 3) := by decide +kernel
theorem dX1_setCreak_24 : decode cX1_setCreak 24 = .ok (.iload_n 1, 1) := by decide +kernel
theorem dX1_setCreak_25 : decode cX1_setCreak 25 = .ok (.iaload, 1) := by decide +kernel
theorem dX1_setCreak_26 : decode cX1_setCreak 26 = .ok (.istore_n 3, 1) := by decide +kernel
theorem dX1_setCreak_27 : decode cX1_setCreak 27 = .ok (.aload_n 0, 1) := by decide +kernel
theorem dX1_setCreak_28 : decode cX1_setCreak 28 = .ok (.getfield 15, 3) := by decide +kernel
theorem dX1_setCreak_31 : decode cX1_setCreak 31 = .ok (.iload_n 1, 1) := by decide +kernel
theorem dX1_setCreak_32 : decode cX1_setCreak 32 = .ok (.iload_n 2, 1) := by decide +kernel
theorem dX1_setCreak_33 : decode cX1_setCreak 33 = .ok (.iastore, 1) := by decide +kernel
theorem dX1_setCreak_34 : decode cX1_setCreak 34 = .ok (.iload_n 3, 1) := by decide +kernel
theorem dX1_setCreak_35 : decode cX1_setCreak 35 = .ok (.ireturn, 1) := by decide +kernel
theorem dX1_setFade_0 : decode cX1_setFade 0 = .ok (.iload_n 1, 1) := by decide +kernel
theorem dX1_setFade_1 : decode cX1_setFade 1 = .ok (.iconst 0, 1) := by decide +kernel
theorem dX1_setFade_2 : decode cX1_setFade 2 = .ok (.bipush 9, 2) := by decide +kernel
theorem dX1_setFade_4 : decode cX1_setFade 4 = .ok (.invokestatic 45, 3) := by decide +kernel
theorem dX1_setFade_7 : decode cX1_setFade 7 = .ok (.ifCond .ne 6, 3) := by decide +kernel
theorem dX1_setFade_10 : decode cX1_setFade 10 = .ok (.bipush (-2), 2) := by decide +kernel
theorem dX1_setFade_12 : decode cX1_setFade 12 = .ok (.ireturn, 1) := by decide +kernel
theorem dX1_setFade_13 : decode cX1_setFade 13 = .ok (.aload_n 0, 1) := by decide +kernel
theorem dX1_setFade_14 : decode cX1_setFade 14 = .ok (.getfield 26, 3) := by decide +kernel
theorem dX1_setFade_17 : decode cX1_setFade 17 = .ok (.istore_n 2, 1) := by decide +kernel
theorem dX1_setFade_18 : decode cX1_setFade 18 = .ok (.aload_n 0, 1) := by decide +kernel
theorem dX1_setFade_19 : decode cX1_setFade 19 = .ok (.iload_n 1, 1) := by decide +kernel
theorem dX1_setFade_20 : decode cX1_setFade 20 = .ok (.putfield 26, 3) := by decide +kernel
theorem dX1_setFade_23 : decode cX1_setFade 23 = .ok (.iload_n 2, 1) := by decide +kernel
theorem dX1_setFade_24 : decode cX1_setFade 24 = .ok (.ireturn, 1) := by decide +kernel
theorem dX1_setDoor_0 : decode cX1_setDoor 0 = .ok (.iload_n 1, 1) := by decide +kernel
theorem dX1_setDoor_1 : decode cX1_setDoor 1 = .ok (.invokestatic 38, 3) := by decide +kernel
theorem dX1_setDoor_4 : decode cX1_setDoor 4 = .ok (.ifCond .eq 12, 3) := by decide +kernel
theorem dX1_setDoor_7 : decode cX1_setDoor 7 = .ok (.aload_n 0, 1) := by decide +kernel
theorem dX1_setDoor_8 : decode cX1_setDoor 8 = .ok (.getfield 9, 3) := by decide +kernel
theorem dX1_setDoor_11 : decode cX1_setDoor 11 = .ok (.iload_n 1, 1) := by decide +kernel
theorem dX1_setDoor_12 : decode cX1_setDoor 12 = .ok (.baload, 1) := by decide +kernel
theorem dX1_setDoor_13 : decode cX1_setDoor 13 = .ok (.ifCond .eq 6, 3) := by decide +kernel
theorem dX1_setDoor_16 : decode cX1_setDoor 16 = .ok (.bipush (-2), 2) := by decide +kernel
theorem dX1_setDoor_18 : decode cX1_setDoor 18 = .ok (.ireturn, 1) := by decide +kernel
theorem dX1_setDoor_19 : decode cX1_setDoor 19 = .ok (.aload_n 0, 1) := by decide +kernel
theorem dX1_setDoor_20 : decode cX1_setDoor 20 = .ok (.getfield 29, 3) := by decide +kernel
theorem dX1_setDoor_23 : decode cX1_setDoor 23 = .ok (.istore_n 2, 1) := by decide +kernel
theorem dX1_setDoor_24 : decode cX1_setDoor 24 = .ok (.aload_n 0, 1) := by decide +kernel
theorem dX1_setDoor_25 : decode cX1_setDoor 25 = .ok (.iload_n 1, 1) := by decide +kernel
theorem dX1_setDoor_26 : decode cX1_setDoor 26 = .ok (.putfield 29, 3) := by decide +kernel
theorem dX1_setDoor_29 : decode cX1_setDoor 29 = .ok (.iload_n 2, 1) := by decide +kernel
theorem dX1_setDoor_30 : decode cX1_setDoor 30 = .ok (.ireturn, 1) := by decide +kernel
theorem dX1_addBed_0 : decode cX1_addBed 0 = .ok (.iload_n 1, 1) := by decide +kernel
theorem dX1_addBed_1 : decode cX1_addBed 1 = .ok (.invokestatic 38, 3) := by decide +kernel
theorem dX1_addBed_4 : decode cX1_addBed 4 = .ok (.ifCond .eq 20, 3) := by decide +kernel
theorem dX1_addBed_7 : decode cX1_addBed 7 = .ok (.aload_n 0, 1) := by decide +kernel
theorem dX1_addBed_8 : decode cX1_addBed 8 = .ok (.getfield 9, 3) := by decide +kernel
theorem dX1_addBed_11 : decode cX1_addBed 11 = .ok (.iload_n 1, 1) := by decide +kernel
theorem dX1_addBed_12 : decode cX1_addBed 12 = .ok (.baload, 1) := by decide +kernel
theorem dX1_addBed_13 : decode cX1_addBed 13 = .ok (.ifCond .ne 11, 3) := by decide +kernel
theorem dX1_addBed_16 : decode cX1_addBed 16 = .ok (.aload_n 0, 1) := by decide +kernel
theorem dX1_addBed_17 : decode cX1_addBed 17 = .ok (.iload_n 1, 1) := by decide +kernel
theorem dX1_addBed_18 : decode cX1_addBed 18 = .ok (.invokevirtual 42, 3) := by decide +kernel
theorem dX1_addBed_21 : decode cX1_addBed 21 = .ok (.ifCond .eq 6, 3) := by decide +kernel
theorem dX1_addBed_24 : decode cX1_addBed 24 = .ok (.bipush (-2), 2) := by decide +kernel
theorem dX1_addBed_26 : decode cX1_addBed 26 = .ok (.ireturn, 1) := by decide +kernel
theorem dX1_addBed_27 : decode cX1_addBed 27 = .ok (.aload_n 0, 1) := by decide +kernel
theorem dX1_addBed_28 : decode cX1_addBed 28 = .ok (.getfield 22, 3) := by decide +kernel
theorem dX1_addBed_31 : decode cX1_addBed 31 = .ok (.bipush 6, 2) := by decide +kernel
theorem dX1_addBed_33 : decode cX1_addBed 33 = .ok (.if_icmp .lt 6, 3) := by decide +kernel
theorem dX1_addBed_36 : decode cX1_addBed 36 = .ok (.bipush (-4), 2) := by decide +kernel
theorem dX1_addBed_38 : decode cX1_addBed 38 = .ok (.ireturn, 1) := by decide +kernel
theorem dX1_addBed_39 : decode cX1_addBed 39 = .ok (.aload_n 0, 1) := by decide +kernel
theorem dX1_addBed_40 : decode cX1_addBed 40 = .ok (.getfield 19, 3) := by decide +kernel
theorem dX1_addBed_43 : decode cX1_addBed 43 = .ok (.aload_n 0, 1) := by decide +kernel
theorem dX1_addBed_44 : decode cX1_addBed 44 = .ok (.getfield 22, 3) := by decide +kernel
theorem dX1_addBed_47 : decode cX1_addBed 47 = .ok (.iload_n 1, 1) := by decide +kernel
theorem dX1_addBed_48 : decode cX1_addBed 48 = .ok (.iastore, 1) := by decide +kernel
theorem dX1_addBed_49 : decode cX1_addBed 49 = .ok (.aload_n 0, 1) := by decide +kernel
theorem dX1_addBed_50 : decode cX1_addBed 50 = .ok (.dup, 1) := by decide +kernel
theorem dX1_addBed_51 : decode cX1_addBed 51 = .ok (.getfield 22, 3) := by decide +kernel
theorem dX1_addBed_54 : decode cX1_addBed 54 = .ok (.dup_x1, 1) := by decide +kernel
theorem dX1_addBed_55 : decode cX1_addBed 55 = .ok (.iconst 1, 1) := by decide +kernel
theorem dX1_addBed_56 : decode cX1_addBed 56 = .ok (.iadd, 1) := by decide +kernel
theorem dX1_addBed_57 : decode cX1_addBed 57 = .ok (.putfield 22, 3) := by decide +kernel
theorem dX1_addBed_60 : decode cX1_addBed 60 = .ok (.ireturn, 1) := by decide +kernel
theorem dX1_digestOn_0 : decode cX1_digestOn 0 = .ok (.lload_n 1, 1) := by decide +kernel
theorem dX1_digestOn_1 : decode cX1_digestOn 1 = .ok (.lstore_n 3, 1) := by decide +kernel
theorem dX1_digestOn_2 : decode cX1_digestOn 2 = .ok (.iconst 0, 1) := by decide +kernel
theorem dX1_digestOn_3 : decode cX1_digestOn 3 = .ok (.istore 5, 2) := by decide +kernel
theorem dX1_digestOn_5 : decode cX1_digestOn 5 = .ok (.iload 5, 2) := by decide +kernel
theorem dX1_digestOn_7 : decode cX1_digestOn 7 = .ok (.bipush 36, 2) := by decide +kernel
theorem dX1_digestOn_9 : decode cX1_digestOn 9 = .ok (.if_icmp .ge 47, 3) := by decide +kernel
theorem dX1_digestOn_12 : decode cX1_digestOn 12 = .ok (.ldc2_w 49, 3) := by decide +kernel
theorem dX1_digestOn_15 : decode cX1_digestOn 15 = .ok (.lload_n 3, 1) := by decide +kernel
theorem dX1_digestOn_16 : decode cX1_digestOn 16 = .ok (.lmul, 1) := by decide +kernel
theorem dX1_digestOn_17 : decode cX1_digestOn 17 = .ok (.aload_n 0, 1) := by decide +kernel
theorem dX1_digestOn_18 : decode cX1_digestOn 18 = .ok (.getfield 9, 3) := by decide +kernel
theorem dX1_digestOn_21 : decode cX1_digestOn 21 = .ok (.iload 5, 2) := by decide +kernel
theorem dX1_digestOn_23 : decode cX1_digestOn 23 = .ok (.baload, 1) := by decide +kernel
theorem dX1_digestOn_24 : decode cX1_digestOn 24 = .ok (.ifCond .eq 7, 3) := by decide +kernel
theorem dX1_digestOn_27 : decode cX1_digestOn 27 = .ok (.iconst 1, 1) := by decide +kernel
theorem dX1_digestOn_28 : decode cX1_digestOn 28 = .ok (.goto 4, 3) := by decide +kernel
theorem dX1_digestOn_31 : decode cX1_digestOn 31 = .ok (.iconst 0, 1) := by decide +kernel
theorem dX1_digestOn_32 : decode cX1_digestOn 32 = .ok (.i2l, 1) := by decide +kernel
theorem dX1_digestOn_33 : decode cX1_digestOn 33 = .ok (.ladd, 1) := by decide +kernel
theorem dX1_digestOn_34 : decode cX1_digestOn 34 = .ok (.lstore_n 3, 1) := by decide +kernel
theorem dX1_digestOn_35 : decode cX1_digestOn 35 = .ok (.ldc2_w 49, 3) := by decide +kernel
theorem dX1_digestOn_38 : decode cX1_digestOn 38 = .ok (.lload_n 3, 1) := by decide +kernel
theorem dX1_digestOn_39 : decode cX1_digestOn 39 = .ok (.lmul, 1) := by decide +kernel
theorem dX1_digestOn_40 : decode cX1_digestOn 40 = .ok (.aload_n 0, 1) := by decide +kernel
theorem dX1_digestOn_41 : decode cX1_digestOn 41 = .ok (.getfield 15, 3) := by decide +kernel
theorem dX1_digestOn_44 : decode cX1_digestOn 44 = .ok (.iload 5, 2) := by decide +kernel
theorem dX1_digestOn_46 : decode cX1_digestOn 46 = .ok (.iaload, 1) := by decide +kernel
theorem dX1_digestOn_47 : decode cX1_digestOn 47 = .ok (.i2l, 1) := by decide +kernel
theorem dX1_digestOn_48 : decode cX1_digestOn 48 = .ok (.ladd, 1) := by decide +kernel
theorem dX1_digestOn_49 : decode cX1_digestOn 49 = .ok (.lstore_n 3, 1) := by decide +kernel
theorem dX1_digestOn_50 : decode cX1_digestOn 50 = .ok (.iinc 5 1, 3) := by decide +kernel
theorem dX1_digestOn_53 : decode cX1_digestOn 53 = .ok (.goto (-48), 3) := by decide +kernel
theorem dX1_digestOn_56 : decode cX1_digestOn 56 = .ok (.ldc2_w 49, 3) := by decide +kernel
theorem dX1_digestOn_59 : decode cX1_digestOn 59 = .ok (.lload_n 3, 1) := by decide +kernel
theorem dX1_digestOn_60 : decode cX1_digestOn 60 = .ok (.lmul, 1) := by decide +kernel
theorem dX1_digestOn_61 : decode cX1_digestOn 61 = .ok (.aload_n 0, 1) := by decide +kernel
theorem dX1_digestOn_62 : decode cX1_digestOn 62 = .ok (.getfield 26, 3) := by decide +kernel
theorem dX1_digestOn_65 : decode cX1_digestOn 65 = .ok (.i2l, 1) := by decide +kernel
theorem dX1_digestOn_66 : decode cX1_digestOn 66 = .ok (.ladd, 1) := by decide +kernel
theorem dX1_digestOn_67 : decode cX1_digestOn 67 = .ok (.lstore_n 3, 1) := by decide +kernel
theorem dX1_digestOn_68 : decode cX1_digestOn 68 = .ok (.ldc2_w 49, 3) := by decide +kernel
theorem dX1_digestOn_71 : decode cX1_digestOn 71 = .ok (.lload_n 3, 1) := by decide +kernel
theorem dX1_digestOn_72 : decode cX1_digestOn 72 = .ok (.lmul, 1) := by decide +kernel
theorem dX1_digestOn_73 : decode cX1_digestOn 73 = .ok (.aload_n 0, 1) := by decide +kernel
theorem dX1_digestOn_74 : decode cX1_digestOn 74 = .ok (.getfield 29, 3) := by decide +kernel
theorem dX1_digestOn_77 : decode cX1_digestOn 77 = .ok (.i2l, 1) := by decide +kernel
theorem dX1_digestOn_78 : decode cX1_digestOn 78 = .ok (.ladd, 1) := by decide +kernel
theorem dX1_digestOn_79 : decode cX1_digestOn 79 = .ok (.lstore_n 3, 1) := by decide +kernel
theorem dX1_digestOn_80 : decode cX1_digestOn 80 = .ok (.iconst 0, 1) := by decide +kernel
theorem dX1_digestOn_81 : decode cX1_digestOn 81 = .ok (.istore 5, 2) := by decide +kernel
theorem dX1_digestOn_83 : decode cX1_digestOn 83 = .ok (.iload 5, 2) := by decide +kernel
theorem dX1_digestOn_85 : decode cX1_digestOn 85 = .ok (.aload_n 0, 1) := by decide +kernel
theorem dX1_digestOn_86 : decode cX1_digestOn 86 = .ok (.getfield 22, 3) := by decide +kernel
theorem dX1_digestOn_89 : decode cX1_digestOn 89 = .ok (.if_icmp .ge 24, 3) := by decide +kernel
theorem dX1_digestOn_92 : decode cX1_digestOn 92 = .ok (.ldc2_w 49, 3) := by decide +kernel
theorem dX1_digestOn_95 : decode cX1_digestOn 95 = .ok (.lload_n 3, 1) := by decide +kernel
theorem dX1_digestOn_96 : decode cX1_digestOn 96 = .ok (.lmul, 1) := by decide +kernel
theorem dX1_digestOn_97 : decode cX1_digestOn 97 = .ok (.aload_n 0, 1) := by decide +kernel
theorem dX1_digestOn_98 : decode cX1_digestOn 98 = .ok (.getfield 19, 3) := by decide +kernel
theorem dX1_digestOn_101 : decode cX1_digestOn 101 = .ok (.iload 5, 2) := by decide +kernel
theorem dX1_digestOn_103 : decode cX1_digestOn 103 = .ok (.iaload, 1) := by decide +kernel
theorem dX1_digestOn_104 : decode cX1_digestOn 104 = .ok (.i2l, 1) := by decide +kernel
theorem dX1_digestOn_105 : decode cX1_digestOn 105 = .ok (.ladd, 1) := by decide +kernel
theorem dX1_digestOn_106 : decode cX1_digestOn 106 = .ok (.lstore_n 3, 1) := by decide +kernel
theorem dX1_digestOn_107 : decode cX1_digestOn 107 = .ok (.iinc 5 1, 3) := by decide +kernel
theorem dX1_digestOn_110 : decode cX1_digestOn 110 = .ok (.goto (-27), 3) := by decide +kernel
theorem dX1_digestOn_113 : decode cX1_digestOn 113 = .ok (.lload_n 3, 1) := by decide +kernel
theorem dX1_digestOn_114 : decode cX1_digestOn 114 = .ok (.lreturn, 1) := by decide +kernel
theorem dX2_init_0 : decode cX2_init 0 = .ok (.aload_n 0, 1) := by decide +kernel
theorem dX2_init_1 : decode cX2_init 1 = .ok (.invokespecial 3, 3) := by decide +kernel
theorem dX2_init_4 : decode cX2_init 4 = .ok (.aload_n 0, 1) := by decide +kernel
theorem dX2_init_5 : decode cX2_init 5 = .ok (.new 9, 3) := by decide +kernel
theorem dX2_init_8 : decode cX2_init 8 = .ok (.dup, 1) := by decide +kernel
theorem dX2_init_9 : decode cX2_init 9 = .ok (.invokespecial 11, 3) := by decide +kernel
theorem dX2_init_12 : decode cX2_init 12 = .ok (.putfield 12, 3) := by decide +kernel
theorem dX2_init_15 : decode cX2_init 15 = .ok (.aload_n 0, 1) := by decide +kernel
theorem dX2_init_16 : decode cX2_init 16 = .ok (.new 18, 3) := by decide +kernel
theorem dX2_init_19 : decode cX2_init 19 = .ok (.dup, 1) := by decide +kernel
theorem dX2_init_20 : decode cX2_init 20 = .ok (.invokespecial 20, 3) := by decide +kernel
theorem dX2_init_23 : decode cX2_init 23 = .ok (.putfield 21, 3) := by decide +kernel
theorem dX2_init_26 : decode cX2_init 26 = .ok (.aload_n 0, 1) := by decide +kernel
theorem dX2_init_27 : decode cX2_init 27 = .ok (.new 25, 3) := by decide +kernel
theorem dX2_init_30 : decode cX2_init 30 = .ok (.dup, 1) := by decide +kernel
theorem dX2_init_31 : decode cX2_init 31 = .ok (.invokespecial 27, 3) := by decide +kernel
theorem dX2_init_34 : decode cX2_init 34 = .ok (.putfield 28, 3) := by decide +kernel
theorem dX2_init_37 : decode cX2_init 37 = .ok (.aload_n 0, 1) := by decide +kernel
theorem dX2_init_38 : decode cX2_init 38 = .ok (.new 32, 3) := by decide +kernel
theorem dX2_init_41 : decode cX2_init 41 = .ok (.dup, 1) := by decide +kernel
theorem dX2_init_42 : decode cX2_init 42 = .ok (.invokespecial 34, 3) := by decide +kernel
theorem dX2_init_45 : decode cX2_init 45 = .ok (.putfield 35, 3) := by decide +kernel
theorem dX2_init_48 : decode cX2_init 48 = .ok (.return_, 1) := by decide +kernel
theorem dX2_restart_0 : decode cX2_restart 0 = .ok (.aload_n 0, 1) := by decide +kernel
theorem dX2_restart_1 : decode cX2_restart 1 = .ok (.getfield 12, 3) := by decide +kernel
theorem dX2_restart_4 : decode cX2_restart 4 = .ok (.invokevirtual 39, 3) := by decide +kernel
theorem dX2_restart_7 : decode cX2_restart 7 = .ok (.aload_n 0, 1) := by decide +kernel
theorem dX2_restart_8 : decode cX2_restart 8 = .ok (.getfield 21, 3) := by decide +kernel
theorem dX2_restart_11 : decode cX2_restart 11 = .ok (.iconst 0, 1) := by decide +kernel
theorem dX2_restart_12 : decode cX2_restart 12 = .ok (.putfield 42, 3) := by decide +kernel
theorem dX2_restart_15 : decode cX2_restart 15 = .ok (.aload_n 0, 1) := by decide +kernel
theorem dX2_restart_16 : decode cX2_restart 16 = .ok (.getfield 28, 3) := by decide +kernel
theorem dX2_restart_19 : decode cX2_restart 19 = .ok (.iconst 0, 1) := by decide +kernel
theorem dX2_restart_20 : decode cX2_restart 20 = .ok (.putfield 46, 3) := by decide +kernel
theorem dX2_restart_23 : decode cX2_restart 23 = .ok (.aload_n 0, 1) := by decide +kernel
theorem dX2_restart_24 : decode cX2_restart 24 = .ok (.getfield 35, 3) := by decide +kernel
theorem dX2_restart_27 : decode cX2_restart 27 = .ok (.iconst 0, 1) := by decide +kernel
theorem dX2_restart_28 : decode cX2_restart 28 = .ok (.putfield 47, 3) := by decide +kernel
theorem dX2_restart_31 : decode cX2_restart 31 = .ok (.return_, 1) := by decide +kernel
theorem dX2_copy_0 : decode cX2_copy 0 = .ok (.aload_n 0, 1) := by decide +kernel
theorem dX2_copy_1 : decode cX2_copy 1 = .ok (.getfield 12, 3) := by decide +kernel
theorem dX2_copy_4 : decode cX2_copy 4 = .ok (.aload_n 1, 1) := by decide +kernel
theorem dX2_copy_5 : decode cX2_copy 5 = .ok (.getfield 12, 3) := by decide +kernel
theorem dX2_copy_8 : decode cX2_copy 8 = .ok (.invokevirtual 48, 3) := by decide +kernel
theorem dX2_copy_11 : decode cX2_copy 11 = .ok (.aload_n 0, 1) := by decide +kernel
theorem dX2_copy_12 : decode cX2_copy 12 = .ok (.getfield 21, 3) := by decide +kernel
theorem dX2_copy_15 : decode cX2_copy 15 = .ok (.aload_n 1, 1) := by decide +kernel
theorem dX2_copy_16 : decode cX2_copy 16 = .ok (.getfield 21, 3) := by decide +kernel
theorem dX2_copy_19 : decode cX2_copy 19 = .ok (.invokevirtual 52, 3) := by decide +kernel
theorem dX2_copy_22 : decode cX2_copy 22 = .ok (.aload_n 0, 1) := by decide +kernel
theorem dX2_copy_23 : decode cX2_copy 23 = .ok (.getfield 28, 3) := by decide +kernel
theorem dX2_copy_26 : decode cX2_copy 26 = .ok (.aload_n 1, 1) := by decide +kernel
theorem dX2_copy_27 : decode cX2_copy 27 = .ok (.getfield 28, 3) := by decide +kernel
theorem dX2_copy_30 : decode cX2_copy 30 = .ok (.invokevirtual 55, 3) := by decide +kernel
theorem dX2_copy_33 : decode cX2_copy 33 = .ok (.aload_n 0, 1) := by decide +kernel
theorem dX2_copy_34 : decode cX2_copy 34 = .ok (.getfield 35, 3) := by decide +kernel
theorem dX2_copy_37 : decode cX2_copy 37 = .ok (.aload_n 1, 1) := by decide +kernel
theorem dX2_copy_38 : decode cX2_copy 38 = .ok (.getfield 35, 3) := by decide +kernel
theorem dX2_copy_41 : decode cX2_copy 41 = .ok (.invokevirtual 58, 3) := by decide +kernel
theorem dX2_copy_44 : decode cX2_copy 44 = .ok (.return_, 1) := by decide +kernel
theorem dX2_lay_0 : decode cX2_lay 0 = .ok (.aload_n 0, 1) := by decide +kernel
theorem dX2_lay_1 : decode cX2_lay 1 = .ok (.getfield 21, 3) := by decide +kernel
theorem dX2_lay_4 : decode cX2_lay 4 = .ok (.iload_n 1, 1) := by decide +kernel
theorem dX2_lay_5 : decode cX2_lay 5 = .ok (.invokevirtual 61, 3) := by decide +kernel
theorem dX2_lay_8 : decode cX2_lay 8 = .ok (.ifCond .eq 19, 3) := by decide +kernel
theorem dX2_lay_11 : decode cX2_lay 11 = .ok (.iload_n 2, 1) := by decide +kernel
theorem dX2_lay_12 : decode cX2_lay 12 = .ok (.iconst (-1), 1) := by decide +kernel
theorem dX2_lay_13 : decode cX2_lay 13 = .ok (.if_icmp .eq 17, 3) := by decide +kernel
theorem dX2_lay_16 : decode cX2_lay 16 = .ok (.aload_n 0, 1) := by decide +kernel
theorem dX2_lay_17 : decode cX2_lay 17 = .ok (.getfield 12, 3) := by decide +kernel
theorem dX2_lay_20 : decode cX2_lay 20 = .ok (.iload_n 2, 1) := by decide +kernel
theorem dX2_lay_21 : decode cX2_lay 21 = .ok (.invokevirtual 65, 3) := by decide +kernel
theorem dX2_lay_24 : decode cX2_lay 24 = .ok (.ifCond .ne 6, 3) := by decide +kernel
theorem dX2_lay_27 : decode cX2_lay 27 = .ok (.bipush (-2), 2) := by decide +kernel
theorem dX2_lay_29 : decode cX2_lay 29 = .ok (.ireturn, 1) := by decide +kernel
theorem dX2_lay_30 : decode cX2_lay 30 = .ok (.iload_n 2, 1) := by decide +kernel
theorem dX2_lay_31 : decode cX2_lay 31 = .ok (.iconst (-1), 1) := by decide +kernel
theorem dX2_lay_32 : decode cX2_lay 32 = .ok (.if_icmp .eq 18, 3) := by decide +kernel
theorem dX2_lay_35 : decode cX2_lay 35 = .ok (.aload_n 0, 1) := by decide +kernel
theorem dX2_lay_36 : decode cX2_lay 36 = .ok (.getfield 21, 3) := by decide +kernel
theorem dX2_lay_39 : decode cX2_lay 39 = .ok (.iload_n 1, 1) := by decide +kernel
theorem dX2_lay_40 : decode cX2_lay 40 = .ok (.iload_n 2, 1) := by decide +kernel
theorem dX2_lay_41 : decode cX2_lay 41 = .ok (.invokevirtual 68, 3) := by decide +kernel
theorem dX2_lay_44 : decode cX2_lay 44 = .ok (.ifCond .eq 6, 3) := by decide +kernel
theorem dX2_lay_47 : decode cX2_lay 47 = .ok (.bipush (-3), 2) := by decide +kernel
theorem dX2_lay_49 : decode cX2_lay 49 = .ok (.ireturn, 1) := by decide +kernel
theorem dX2_lay_50 : decode cX2_lay 50 = .ok (.aload_n 0, 1) := by decide +kernel
theorem dX2_lay_51 : decode cX2_lay 51 = .ok (.getfield 21, 3) := by decide +kernel
theorem dX2_lay_54 : decode cX2_lay 54 = .ok (.getfield 72, 3) := by decide +kernel
theorem dX2_lay_57 : decode cX2_lay 57 = .ok (.iload_n 1, 1) := by decide +kernel
theorem dX2_lay_58 : decode cX2_lay 58 = .ok (.iaload, 1) := by decide +kernel
theorem dX2_lay_59 : decode cX2_lay 59 = .ok (.istore_n 3, 1) := by decide +kernel
theorem dX2_lay_60 : decode cX2_lay 60 = .ok (.aload_n 0, 1) := by decide +kernel
theorem dX2_lay_61 : decode cX2_lay 61 = .ok (.getfield 21, 3) := by decide +kernel
theorem dX2_lay_64 : decode cX2_lay 64 = .ok (.getfield 72, 3) := by decide +kernel
theorem dX2_lay_67 : decode cX2_lay 67 = .ok (.iload_n 1, 1) := by decide +kernel
theorem dX2_lay_68 : decode cX2_lay 68 = .ok (.iload_n 2, 1) := by decide +kernel
theorem dX2_lay_69 : decode cX2_lay 69 = .ok (.iastore, 1) := by decide +kernel
theorem dX2_lay_70 : decode cX2_lay 70 = .ok (.iload_n 3, 1) := by decide +kernel
theorem dX2_lay_71 : decode cX2_lay 71 = .ok (.ireturn, 1) := by decide +kernel
theorem dX2_addSound_0 : decode cX2_addSound 0 = .ok (.aload_n 0, 1) := by decide +kernel
theorem dX2_addSound_1 : decode cX2_addSound 1 = .ok (.iload_n 1, 1) := by decide +kernel
theorem dX2_addSound_2 : decode cX2_addSound 2 = .ok (.iload_n 2, 1) := by decide +kernel
theorem dX2_addSound_3 : decode cX2_addSound 3 = .ok (.invokevirtual 76, 3) := by decide +kernel
theorem dX2_addSound_6 : decode cX2_addSound 6 = .ok (.ifCond .eq 20, 3) := by decide +kernel
theorem dX2_addSound_9 : decode cX2_addSound 9 = .ok (.aload_n 0, 1) := by decide +kernel
theorem dX2_addSound_10 : decode cX2_addSound 10 = .ok (.getfield 28, 3) := by decide +kernel
theorem dX2_addSound_13 : decode cX2_addSound 13 = .ok (.iload_n 1, 1) := by decide +kernel
theorem dX2_addSound_14 : decode cX2_addSound 14 = .ok (.iload_n 2, 1) := by decide +kernel
theorem dX2_addSound_15 : decode cX2_addSound 15 = .ok (.iload_n 3, 1) := by decide +kernel
theorem dX2_addSound_16 : decode cX2_addSound 16 = .ok (.iload 4, 2) := by decide +kernel
theorem dX2_addSound_18 : decode cX2_addSound 18 = .ok (.iload 5, 2) := by decide +kernel
theorem dX2_addSound_20 : decode cX2_addSound 20 = .ok (.invokevirtual 79, 3) := by decide +kernel
theorem dX2_addSound_23 : decode cX2_addSound 23 = .ok (.goto 5, 3) := by decide +kernel
theorem dX2_addSound_26 : decode cX2_addSound 26 = .ok (.bipush (-2), 2) := by decide +kernel
theorem dX2_addSound_28 : decode cX2_addSound 28 = .ok (.ireturn, 1) := by decide +kernel
theorem dX2_isOf_0 : decode cX2_isOf 0 = .ok (.iload_n 1, 1) := by decide +kernel
theorem dX2_isOf_1 : decode cX2_isOf 1 = .ok (.tableswitch 59 0 4 #[35, 50, 50, 50, 40], 35) := by decide +kernel
theorem dX2_isOf_36 : decode cX2_isOf 36 = .ok (.iload_n 2, 1) := by decide +kernel
theorem dX2_isOf_37 : decode cX2_isOf 37 = .ok (.invokestatic 83, 3) := by decide +kernel
theorem dX2_isOf_40 : decode cX2_isOf 40 = .ok (.ireturn, 1) := by decide +kernel
theorem dX2_isOf_41 : decode cX2_isOf 41 = .ok (.iload_n 2, 1) := by decide +kernel
theorem dX2_isOf_42 : decode cX2_isOf 42 = .ok (.ifCond .ne 7, 3) := by decide +kernel
theorem dX2_isOf_45 : decode cX2_isOf 45 = .ok (.iconst 1, 1) := by decide +kernel
theorem dX2_isOf_46 : decode cX2_isOf 46 = .ok (.goto 4, 3) := by decide +kernel
theorem dX2_isOf_49 : decode cX2_isOf 49 = .ok (.iconst 0, 1) := by decide +kernel
theorem dX2_isOf_50 : decode cX2_isOf 50 = .ok (.ireturn, 1) := by decide +kernel
theorem dX2_isOf_51 : decode cX2_isOf 51 = .ok (.aload_n 0, 1) := by decide +kernel
theorem dX2_isOf_52 : decode cX2_isOf 52 = .ok (.getfield 21, 3) := by decide +kernel
theorem dX2_isOf_55 : decode cX2_isOf 55 = .ok (.iload_n 2, 1) := by decide +kernel
theorem dX2_isOf_56 : decode cX2_isOf 56 = .ok (.invokevirtual 61, 3) := by decide +kernel
theorem dX2_isOf_59 : decode cX2_isOf 59 = .ok (.ireturn, 1) := by decide +kernel
theorem dX2_isOf_60 : decode cX2_isOf 60 = .ok (.iconst 0, 1) := by decide +kernel
theorem dX2_isOf_61 : decode cX2_isOf 61 = .ok (.ireturn, 1) := by decide +kernel
theorem dX2_take_0 : decode cX2_take 0 = .ok (.iload_n 1, 1) := by decide +kernel
theorem dX2_take_1 : decode cX2_take 1 = .ok (.tableswitch 136 0 6 #[43, 55, 69, 80, 91, 102, 125], 43) := by decide +kernel
theorem dX2_take_44 : decode cX2_take 44 = .ok (.aload_n 0, 1) := by decide +kernel
theorem dX2_take_45 : decode cX2_take 45 = .ok (.getfield 12, 3) := by decide +kernel
theorem dX2_take_48 : decode cX2_take 48 = .ok (.aload_n 2, 1) := by decide +kernel
theorem dX2_take_49 : decode cX2_take 49 = .ok (.iconst 0, 1) := by decide +kernel
theorem dX2_take_50 : decode cX2_take 50 = .ok (.iaload, 1) := by decide +kernel
theorem dX2_take_51 : decode cX2_take 51 = .ok (.iconst 1, 1) := by decide +kernel
theorem dX2_take_52 : decode cX2_take 52 = .ok (.invokevirtual 86, 3) := by decide +kernel
theorem dX2_take_55 : decode cX2_take 55 = .ok (.ireturn, 1) := by decide +kernel
theorem dX2_take_56 : decode cX2_take 56 = .ok (.aload_n 0, 1) := by decide +kernel
theorem dX2_take_57 : decode cX2_take 57 = .ok (.getfield 12, 3) := by decide +kernel
theorem dX2_take_60 : decode cX2_take 60 = .ok (.aload_n 2, 1) := by decide +kernel
theorem dX2_take_61 : decode cX2_take 61 = .ok (.iconst 0, 1) := by decide +kernel
theorem dX2_take_62 : decode cX2_take 62 = .ok (.iaload, 1) := by decide +kernel
theorem dX2_take_63 : decode cX2_take 63 = .ok (.aload_n 2, 1) := by decide +kernel
theorem dX2_take_64 : decode cX2_take 64 = .ok (.iconst 1, 1) := by decide +kernel
theorem dX2_take_65 : decode cX2_take 65 = .ok (.iaload, 1) := by decide +kernel
theorem dX2_take_66 : decode cX2_take 66 = .ok (.invokevirtual 90, 3) := by decide +kernel
theorem dX2_take_69 : decode cX2_take 69 = .ok (.ireturn, 1) := by decide +kernel
theorem dX2_take_70 : decode cX2_take 70 = .ok (.aload_n 0, 1) := by decide +kernel
theorem dX2_take_71 : decode cX2_take 71 = .ok (.getfield 12, 3) := by decide +kernel
theorem dX2_take_74 : decode cX2_take 74 = .ok (.aload_n 2, 1) := by decide +kernel
theorem dX2_take_75 : decode cX2_take 75 = .ok (.iconst 0, 1) := by decide +kernel
theorem dX2_take_76 : decode cX2_take 76 = .ok (.iaload, 1) := by decide +kernel
theorem dX2_take_77 : decode cX2_take 77 = .ok (.invokevirtual 94, 3) := by decide +kernel
theorem dX2_take_80 : decode cX2_take 80 = .ok (.ireturn, 1) := by decide +kernel
theorem dX2_take_81 : decode cX2_take 81 = .ok (.aload_n 0, 1) := by decide +kernel
theorem dX2_take_82 : decode cX2_take 82 = .ok (.getfield 12, 3) := by decide +kernel
theorem dX2_take_85 : decode cX2_take 85 = .ok (.aload_n 2, 1) := by decide +kernel
theorem dX2_take_86 : decode cX2_take 86 = .ok (.iconst 0, 1) := by decide +kernel
theorem dX2_take_87 : decode cX2_take 87 = .ok (.iaload, 1) := by decide +kernel
theorem dX2_take_88 : decode cX2_take 88 = .ok (.invokevirtual 98, 3) := by decide +kernel
theorem dX2_take_91 : decode cX2_take 91 = .ok (.ireturn, 1) := by decide +kernel
theorem dX2_take_92 : decode cX2_take 92 = .ok (.aload_n 0, 1) := by decide +kernel
theorem dX2_take_93 : decode cX2_take 93 = .ok (.getfield 12, 3) := by decide +kernel
theorem dX2_take_96 : decode cX2_take 96 = .ok (.aload_n 2, 1) := by decide +kernel
theorem dX2_take_97 : decode cX2_take 97 = .ok (.iconst 0, 1) := by decide +kernel
theorem dX2_take_98 : decode cX2_take 98 = .ok (.iaload, 1) := by decide +kernel
theorem dX2_take_99 : decode cX2_take 99 = .ok (.invokevirtual 101, 3) := by decide +kernel
theorem dX2_take_102 : decode cX2_take 102 = .ok (.ireturn, 1) := by decide +kernel
theorem dX2_take_103 : decode cX2_take 103 = .ok (.aload_n 0, 1) := by decide +kernel
theorem dX2_take_104 : decode cX2_take 104 = .ok (.getfield 21, 3) := by decide +kernel
theorem dX2_take_107 : decode cX2_take 107 = .ok (.aload_n 2, 1) := by decide +kernel
theorem dX2_take_108 : decode cX2_take 108 = .ok (.iconst 0, 1) := by decide +kernel
theorem dX2_take_109 : decode cX2_take 109 = .ok (.iaload, 1) := by decide +kernel
theorem dX2_take_110 : decode cX2_take 110 = .ok (.aload_n 2, 1) := by decide +kernel
theorem dX2_take_111 : decode cX2_take 111 = .ok (.iconst 1, 1) := by decide +kernel
theorem dX2_take_112 : decode cX2_take 112 = .ok (.iaload, 1) := by decide +kernel
theorem dX2_take_113 : decode cX2_take 113 = .ok (.aload_n 2, 1) := by decide +kernel
theorem dX2_take_114 : decode cX2_take 114 = .ok (.iconst 2, 1) := by decide +kernel
theorem dX2_take_115 : decode cX2_take 115 = .ok (.iaload, 1) := by decide +kernel
theorem dX2_take_116 : decode cX2_take 116 = .ok (.aload_n 2, 1) := by decide +kernel
theorem dX2_take_117 : decode cX2_take 117 = .ok (.iconst 3, 1) := by decide +kernel
theorem dX2_take_118 : decode cX2_take 118 = .ok (.iaload, 1) := by decide +kernel
theorem dX2_take_119 : decode cX2_take 119 = .ok (.aload_n 2, 1) := by decide +kernel
theorem dX2_take_120 : decode cX2_take 120 = .ok (.iconst 4, 1) := by decide +kernel
theorem dX2_take_121 : decode cX2_take 121 = .ok (.iaload, 1) := by decide +kernel
theorem dX2_take_122 : decode cX2_take 122 = .ok (.invokevirtual 104, 3) := by decide +kernel
theorem dX2_take_125 : decode cX2_take 125 = .ok (.ireturn, 1) := by decide +kernel
theorem dX2_take_126 : decode cX2_take 126 = .ok (.aload_n 0, 1) := by decide +kernel
theorem dX2_take_127 : decode cX2_take 127 = .ok (.aload_n 2, 1) := by decide +kernel
theorem dX2_take_128 : decode cX2_take 128 = .ok (.iconst 0, 1) := by decide +kernel
theorem dX2_take_129 : decode cX2_take 129 = .ok (.iaload, 1) := by decide +kernel
theorem dX2_take_130 : decode cX2_take 130 = .ok (.aload_n 2, 1) := by decide +kernel
theorem dX2_take_131 : decode cX2_take 131 = .ok (.iconst 1, 1) := by decide +kernel
theorem dX2_take_132 : decode cX2_take 132 = .ok (.iaload, 1) := by decide +kernel
theorem dX2_take_133 : decode cX2_take 133 = .ok (.invokevirtual 105, 3) := by decide +kernel
theorem dX2_take_136 : decode cX2_take 136 = .ok (.ireturn, 1) := by decide +kernel
theorem dX2_take_137 : decode cX2_take 137 = .ok (.aload_n 0, 1) := by decide +kernel
theorem dX2_take_138 : decode cX2_take 138 = .ok (.iload_n 1, 1) := by decide +kernel
theorem dX2_take_139 : decode cX2_take 139 = .ok (.bipush 7, 2) := by decide +kernel
theorem dX2_take_141 : decode cX2_take 141 = .ok (.isub, 1) := by decide +kernel
theorem dX2_take_142 : decode cX2_take 142 = .ok (.aload_n 2, 1) := by decide +kernel
theorem dX2_take_143 : decode cX2_take 143 = .ok (.iconst 0, 1) := by decide +kernel
theorem dX2_take_144 : decode cX2_take 144 = .ok (.iaload, 1) := by decide +kernel
theorem dX2_take_145 : decode cX2_take 145 = .ok (.aload_n 2, 1) := by decide +kernel
theorem dX2_take_146 : decode cX2_take 146 = .ok (.iconst 1, 1) := by decide +kernel
theorem dX2_take_147 : decode cX2_take 147 = .ok (.iaload, 1) := by decide +kernel
theorem dX2_take_148 : decode cX2_take 148 = .ok (.aload_n 2, 1) := by decide +kernel
theorem dX2_take_149 : decode cX2_take 149 = .ok (.iconst 2, 1) := by decide +kernel
theorem dX2_take_150 : decode cX2_take 150 = .ok (.iaload, 1) := by decide +kernel
theorem dX2_take_151 : decode cX2_take 151 = .ok (.aload_n 2, 1) := by decide +kernel
theorem dX2_take_152 : decode cX2_take 152 = .ok (.iconst 3, 1) := by decide +kernel
theorem dX2_take_153 : decode cX2_take 153 = .ok (.iaload, 1) := by decide +kernel
theorem dX2_take_154 : decode cX2_take 154 = .ok (.invokevirtual 110, 3) := by decide +kernel
theorem dX2_take_157 : decode cX2_take 157 = .ok (.ireturn, 1) := by decide +kernel
theorem dX3_init_0 : decode cX3_init 0 = .ok (.aload_n 0, 1) := by decide +kernel
theorem dX3_init_1 : decode cX3_init 1 = .ok (.invokespecial 3, 3) := by decide +kernel
theorem dX3_init_4 : decode cX3_init 4 = .ok (.aload_n 0, 1) := by decide +kernel
theorem dX3_init_5 : decode cX3_init 5 = .ok (.new 9, 3) := by decide +kernel
theorem dX3_init_8 : decode cX3_init 8 = .ok (.dup, 1) := by decide +kernel
theorem dX3_init_9 : decode cX3_init 9 = .ok (.invokespecial 11, 3) := by decide +kernel
theorem dX3_init_12 : decode cX3_init 12 = .ok (.putfield 12, 3) := by decide +kernel
theorem dX3_init_15 : decode cX3_init 15 = .ok (.aload_n 0, 1) := by decide +kernel
theorem dX3_init_16 : decode cX3_init 16 = .ok (.new 18, 3) := by decide +kernel
theorem dX3_init_19 : decode cX3_init 19 = .ok (.dup, 1) := by decide +kernel
theorem dX3_init_20 : decode cX3_init 20 = .ok (.invokespecial 20, 3) := by decide +kernel
theorem dX3_init_23 : decode cX3_init 23 = .ok (.putfield 21, 3) := by decide +kernel
theorem dX3_init_26 : decode cX3_init 26 = .ok (.aload_n 0, 1) := by decide +kernel
theorem dX3_init_27 : decode cX3_init 27 = .ok (.bipush 36, 2) := by decide +kernel
theorem dX3_init_29 : decode cX3_init 29 = .ok (.newarray .int, 2) := by decide +kernel
theorem dX3_init_31 : decode cX3_init 31 = .ok (.putfield 25, 3) := by decide +kernel
theorem dX3_init_34 : decode cX3_init 34 = .ok (.aload_n 0, 1) := by decide +kernel
theorem dX3_init_35 : decode cX3_init 35 = .ok (.bipush 36, 2) := by decide +kernel
theorem dX3_init_37 : decode cX3_init 37 = .ok (.newarray .boolean, 2) := by decide +kernel
theorem dX3_init_39 : decode cX3_init 39 = .ok (.putfield 29, 3) := by decide +kernel
theorem dX3_init_42 : decode cX3_init 42 = .ok (.aload_n 0, 1) := by decide +kernel
theorem dX3_init_43 : decode cX3_init 43 = .ok (.bipush 36, 2) := by decide +kernel
theorem dX3_init_45 : decode cX3_init 45 = .ok (.newarray .int, 2) := by decide +kernel
theorem dX3_init_47 : decode cX3_init 47 = .ok (.putfield 33, 3) := by decide +kernel
theorem dX3_init_50 : decode cX3_init 50 = .ok (.return_, 1) := by decide +kernel
theorem dX3_find_0 : decode cX3_find 0 = .ok (.aload_n 0, 1) := by decide +kernel
theorem dX3_find_1 : decode cX3_find 1 = .ok (.aload_n 1, 1) := by decide +kernel
theorem dX3_find_2 : decode cX3_find 2 = .ok (.invokevirtual 36, 3) := by decide +kernel
theorem dX3_find_5 : decode cX3_find 5 = .ok (.iconst 0, 1) := by decide +kernel
theorem dX3_find_6 : decode cX3_find 6 = .ok (.istore 4, 2) := by decide +kernel
theorem dX3_find_8 : decode cX3_find 8 = .ok (.iload 4, 2) := by decide +kernel
theorem dX3_find_10 : decode cX3_find 10 = .ok (.bipush 40, 2) := by decide +kernel
theorem dX3_find_12 : decode cX3_find 12 = .ok (.if_icmp .gt 124, 3) := by decide +kernel
theorem dX3_find_15 : decode cX3_find 15 = .ok (.iconst 0, 1) := by decide +kernel
theorem dX3_find_16 : decode cX3_find 16 = .ok (.istore 5, 2) := by decide +kernel
theorem dX3_find_18 : decode cX3_find 18 = .ok (.iload 5, 2) := by decide +kernel
theorem dX3_find_20 : decode cX3_find 20 = .ok (.bipush 36, 2) := by decide +kernel
theorem dX3_find_22 : decode cX3_find 22 = .ok (.if_icmp .ge 52, 3) := by decide +kernel
theorem dX3_find_25 : decode cX3_find 25 = .ok (.aload_n 0, 1) := by decide +kernel
theorem dX3_find_26 : decode cX3_find 26 = .ok (.getfield 29, 3) := by decide +kernel
theorem dX3_find_29 : decode cX3_find 29 = .ok (.iload 5, 2) := by decide +kernel
theorem dX3_find_31 : decode cX3_find 31 = .ok (.aload_n 1, 1) := by decide +kernel
theorem dX3_find_32 : decode cX3_find 32 = .ok (.getfield 40, 3) := by decide +kernel
theorem dX3_find_35 : decode cX3_find 35 = .ok (.getfield 46, 3) := by decide +kernel
theorem dX3_find_38 : decode cX3_find 38 = .ok (.iload 5, 2) := by decide +kernel
theorem dX3_find_40 : decode cX3_find 40 = .ok (.baload, 1) := by decide +kernel
theorem dX3_find_41 : decode cX3_find 41 = .ok (.ifCond .ne 21, 3) := by decide +kernel
theorem dX3_find_44 : decode cX3_find 44 = .ok (.iload 5, 2) := by decide +kernel
theorem dX3_find_46 : decode cX3_find 46 = .ok (.iload_n 2, 1) := by decide +kernel
theorem dX3_find_47 : decode cX3_find 47 = .ok (.if_icmp .eq 19, 3) := by decide +kernel
theorem dX3_find_50 : decode cX3_find 50 = .ok (.aload_n 0, 1) := by decide +kernel
theorem dX3_find_51 : decode cX3_find 51 = .ok (.getfield 25, 3) := by decide +kernel
theorem dX3_find_54 : decode cX3_find 54 = .ok (.iload 5, 2) := by decide +kernel
theorem dX3_find_56 : decode cX3_find 56 = .ok (.iaload, 1) := by decide +kernel
theorem dX3_find_57 : decode cX3_find 57 = .ok (.iload 4, 2) := by decide +kernel
theorem dX3_find_59 : decode cX3_find 59 = .ok (.if_icmp .le 7, 3) := by decide +kernel
theorem dX3_find_62 : decode cX3_find 62 = .ok (.iconst 1, 1) := by decide +kernel
theorem dX3_find_63 : decode cX3_find 63 = .ok (.goto 4, 3) := by decide +kernel
theorem dX3_find_66 : decode cX3_find 66 = .ok (.iconst 0, 1) := by decide +kernel
theorem dX3_find_67 : decode cX3_find 67 = .ok (.bastore, 1) := by decide +kernel
theorem dX3_find_68 : decode cX3_find 68 = .ok (.iinc 5 1, 3) := by decide +kernel
theorem dX3_find_71 : decode cX3_find 71 = .ok (.goto (-53), 3) := by decide +kernel
theorem dX3_find_74 : decode cX3_find 74 = .ok (.aload_n 0, 1) := by decide +kernel
theorem dX3_find_75 : decode cX3_find 75 = .ok (.getfield 21, 3) := by decide +kernel
theorem dX3_find_78 : decode cX3_find 78 = .ok (.aload_n 0, 1) := by decide +kernel
theorem dX3_find_79 : decode cX3_find 79 = .ok (.getfield 29, 3) := by decide +kernel
theorem dX3_find_82 : decode cX3_find 82 = .ok (.iload_n 3, 1) := by decide +kernel
theorem dX3_find_83 : decode cX3_find 83 = .ok (.aload_n 0, 1) := by decide +kernel
theorem dX3_find_84 : decode cX3_find 84 = .ok (.getfield 33, 3) := by decide +kernel
theorem dX3_find_87 : decode cX3_find 87 = .ok (.invokevirtual 51, 3) := by decide +kernel
theorem dX3_find_90 : decode cX3_find 90 = .ok (.aload_n 0, 1) := by decide +kernel
theorem dX3_find_91 : decode cX3_find 91 = .ok (.getfield 33, 3) := by decide +kernel
theorem dX3_find_94 : decode cX3_find 94 = .ok (.iload_n 2, 1) := by decide +kernel
theorem dX3_find_95 : decode cX3_find 95 = .ok (.iaload, 1) := by decide +kernel
theorem dX3_find_96 : decode cX3_find 96 = .ok (.iconst (-1), 1) := by decide +kernel
theorem dX3_find_97 : decode cX3_find 97 = .ok (.if_icmp .eq 33, 3) := by decide +kernel
theorem dX3_find_100 : decode cX3_find 100 = .ok (.aload_n 0, 1) := by decide +kernel
theorem dX3_find_101 : decode cX3_find 101 = .ok (.iload 4, 2) := by decide +kernel
theorem dX3_find_103 : decode cX3_find 103 = .ok (.putfield 55, 3) := by decide +kernel
theorem dX3_find_106 : decode cX3_find 106 = .ok (.aload_n 0, 1) := by decide +kernel
theorem dX3_find_107 : decode cX3_find 107 = .ok (.aload_n 0, 1) := by decide +kernel
theorem dX3_find_108 : decode cX3_find 108 = .ok (.getfield 33, 3) := by decide +kernel
theorem dX3_find_111 : decode cX3_find 111 = .ok (.iload_n 2, 1) := by decide +kernel
theorem dX3_find_112 : decode cX3_find 112 = .ok (.iaload, 1) := by decide +kernel
theorem dX3_find_113 : decode cX3_find 113 = .ok (.putfield 59, 3) := by decide +kernel
theorem dX3_find_116 : decode cX3_find 116 = .ok (.aload_n 0, 1) := by decide +kernel
theorem dX3_find_117 : decode cX3_find 117 = .ok (.iload_n 2, 1) := by decide +kernel
theorem dX3_find_118 : decode cX3_find 118 = .ok (.aload_n 0, 1) := by decide +kernel
theorem dX3_find_119 : decode cX3_find 119 = .ok (.getfield 33, 3) := by decide +kernel
theorem dX3_find_122 : decode cX3_find 122 = .ok (.invokestatic 62, 3) := by decide +kernel
theorem dX3_find_125 : decode cX3_find 125 = .ok (.putfield 66, 3) := by decide +kernel
theorem dX3_find_128 : decode cX3_find 128 = .ok (.iconst 1, 1) := by decide +kernel
theorem dX3_find_129 : decode cX3_find 129 = .ok (.ireturn, 1) := by decide +kernel
theorem dX3_find_130 : decode cX3_find 130 = .ok (.iinc 4 1, 3) := by decide +kernel
theorem dX3_find_133 : decode cX3_find 133 = .ok (.goto (-125), 3) := by decide +kernel
theorem dX3_find_136 : decode cX3_find 136 = .ok (.iconst 0, 1) := by decide +kernel
theorem dX3_find_137 : decode cX3_find 137 = .ok (.ireturn, 1) := by decide +kernel
theorem dX3_listenIn_0 : decode cX3_listenIn 0 = .ok (.aload_n 0, 1) := by decide +kernel
theorem dX3_listenIn_1 : decode cX3_listenIn 1 = .ok (.getfield 12, 3) := by decide +kernel
theorem dX3_listenIn_4 : decode cX3_listenIn 4 = .ok (.aload_n 1, 1) := by decide +kernel
theorem dX3_listenIn_5 : decode cX3_listenIn 5 = .ok (.getfield 40, 3) := by decide +kernel
theorem dX3_listenIn_8 : decode cX3_listenIn 8 = .ok (.invokevirtual 69, 3) := by decide +kernel
theorem dX3_listenIn_11 : decode cX3_listenIn 11 = .ok (.iconst 0, 1) := by decide +kernel
theorem dX3_listenIn_12 : decode cX3_listenIn 12 = .ok (.istore_n 2, 1) := by decide +kernel
theorem dX3_listenIn_13 : decode cX3_listenIn 13 = .ok (.iload_n 2, 1) := by decide +kernel
theorem dX3_listenIn_14 : decode cX3_listenIn 14 = .ok (.bipush 36, 2) := by decide +kernel
theorem dX3_listenIn_16 : decode cX3_listenIn 16 = .ok (.if_icmp .ge 86, 3) := by decide +kernel
theorem dX3_listenIn_19 : decode cX3_listenIn 19 = .ok (.aload_n 0, 1) := by decide +kernel
theorem dX3_listenIn_20 : decode cX3_listenIn 20 = .ok (.getfield 25, 3) := by decide +kernel
theorem dX3_listenIn_23 : decode cX3_listenIn 23 = .ok (.iload_n 2, 1) := by decide +kernel
theorem dX3_listenIn_24 : decode cX3_listenIn 24 = .ok (.iconst 0, 1) := by decide +kernel
theorem dX3_listenIn_25 : decode cX3_listenIn 25 = .ok (.iastore, 1) := by decide +kernel
theorem dX3_listenIn_26 : decode cX3_listenIn 26 = .ok (.iconst 0, 1) := by decide +kernel
theorem dX3_listenIn_27 : decode cX3_listenIn 27 = .ok (.istore_n 3, 1) := by decide +kernel
theorem dX3_listenIn_28 : decode cX3_listenIn 28 = .ok (.iload_n 3, 1) := by decide +kernel
theorem dX3_listenIn_29 : decode cX3_listenIn 29 = .ok (.aload_n 1, 1) := by decide +kernel
theorem dX3_listenIn_30 : decode cX3_listenIn 30 = .ok (.getfield 73, 3) := by decide +kernel
theorem dX3_listenIn_33 : decode cX3_listenIn 33 = .ok (.getfield 77, 3) := by decide +kernel
theorem dX3_listenIn_36 : decode cX3_listenIn 36 = .ok (.if_icmp .ge 60, 3) := by decide +kernel
theorem dX3_listenIn_39 : decode cX3_listenIn 39 = .ok (.aload_n 1, 1) := by decide +kernel
theorem dX3_listenIn_40 : decode cX3_listenIn 40 = .ok (.getfield 73, 3) := by decide +kernel
theorem dX3_listenIn_43 : decode cX3_listenIn 43 = .ok (.getfield 82, 3) := by decide +kernel
theorem dX3_listenIn_46 : decode cX3_listenIn 46 = .ok (.iload_n 3, 1) := by decide +kernel
theorem dX3_listenIn_47 : decode cX3_listenIn 47 = .ok (.iaload, 1) := by decide +kernel
theorem dX3_listenIn_48 : decode cX3_listenIn 48 = .ok (.istore 4, 2) := by decide +kernel
theorem dX3_listenIn_50 : decode cX3_listenIn 50 = .ok (.iload 4, 2) := by decide +kernel
theorem dX3_listenIn_52 : decode cX3_listenIn 52 = .ok (.iconst (-1), 1) := by decide +kernel
theorem dX3_listenIn_53 : decode cX3_listenIn 53 = .ok (.if_icmp .eq 37, 3) := by decide +kernel
theorem dX3_listenIn_56 : decode cX3_listenIn 56 = .ok (.aload_n 0, 1) := by decide +kernel
theorem dX3_listenIn_57 : decode cX3_listenIn 57 = .ok (.getfield 25, 3) := by decide +kernel
theorem dX3_listenIn_60 : decode cX3_listenIn 60 = .ok (.iload_n 2, 1) := by decide +kernel
theorem dX3_listenIn_61 : decode cX3_listenIn 61 = .ok (.aload_n 0, 1) := by decide +kernel
theorem dX3_listenIn_62 : decode cX3_listenIn 62 = .ok (.getfield 25, 3) := by decide +kernel
theorem dX3_listenIn_65 : decode cX3_listenIn 65 = .ok (.iload_n 2, 1) := by decide +kernel
theorem dX3_listenIn_66 : decode cX3_listenIn 66 = .ok (.iaload, 1) := by decide +kernel
theorem dX3_listenIn_67 : decode cX3_listenIn 67 = .ok (.aload_n 0, 1) := by decide +kernel
theorem dX3_listenIn_68 : decode cX3_listenIn 68 = .ok (.getfield 12, 3) := by decide +kernel
theorem dX3_listenIn_71 : decode cX3_listenIn 71 = .ok (.iload 4, 2) := by decide +kernel
theorem dX3_listenIn_73 : decode cX3_listenIn 73 = .ok (.iload_n 2, 1) := by decide +kernel
theorem dX3_listenIn_74 : decode cX3_listenIn 74 = .ok (.aload_n 1, 1) := by decide +kernel
theorem dX3_listenIn_75 : decode cX3_listenIn 75 = .ok (.getfield 40, 3) := by decide +kernel
theorem dX3_listenIn_78 : decode cX3_listenIn 78 = .ok (.getfield 85, 3) := by decide +kernel
theorem dX3_listenIn_81 : decode cX3_listenIn 81 = .ok (.iload_n 2, 1) := by decide +kernel
theorem dX3_listenIn_82 : decode cX3_listenIn 82 = .ok (.iaload, 1) := by decide +kernel
theorem dX3_listenIn_83 : decode cX3_listenIn 83 = .ok (.invokevirtual 88, 3) := by decide +kernel
theorem dX3_listenIn_86 : decode cX3_listenIn 86 = .ok (.invokestatic 92, 3) := by decide +kernel
theorem dX3_listenIn_89 : decode cX3_listenIn 89 = .ok (.iastore, 1) := by decide +kernel
theorem dX3_listenIn_90 : decode cX3_listenIn 90 = .ok (.iinc 3 1, 3) := by decide +kernel
theorem dX3_listenIn_93 : decode cX3_listenIn 93 = .ok (.goto (-65), 3) := by decide +kernel
theorem dX3_listenIn_96 : decode cX3_listenIn 96 = .ok (.iinc 2 1, 3) := by decide +kernel
theorem dX3_listenIn_99 : decode cX3_listenIn 99 = .ok (.goto (-86), 3) := by decide +kernel
theorem dX3_listenIn_102 : decode cX3_listenIn 102 = .ok (.return_, 1) := by decide +kernel
theorem dX4_init_0 : decode cX4_init 0 = .ok (.aload_n 0, 1) := by decide +kernel
theorem dX4_init_1 : decode cX4_init 1 = .ok (.invokespecial 3, 3) := by decide +kernel
theorem dX4_init_4 : decode cX4_init 4 = .ok (.aload_n 0, 1) := by decide +kernel
theorem dX4_init_5 : decode cX4_init 5 = .ok (.iconst 5, 1) := by decide +kernel
theorem dX4_init_6 : decode cX4_init 6 = .ok (.newarray .int, 2) := by decide +kernel
theorem dX4_init_8 : decode cX4_init 8 = .ok (.putfield 9, 3) := by decide +kernel
theorem dX4_init_11 : decode cX4_init 11 = .ok (.aload_n 0, 1) := by decide +kernel
theorem dX4_init_12 : decode cX4_init 12 = .ok (.iconst 5, 1) := by decide +kernel
theorem dX4_init_13 : decode cX4_init 13 = .ok (.newarray .int, 2) := by decide +kernel
theorem dX4_init_15 : decode cX4_init 15 = .ok (.putfield 15, 3) := by decide +kernel
theorem dX4_init_18 : decode cX4_init 18 = .ok (.aload_n 0, 1) := by decide +kernel
theorem dX4_init_19 : decode cX4_init 19 = .ok (.iconst 5, 1) := by decide +kernel
theorem dX4_init_20 : decode cX4_init 20 = .ok (.bipush 40, 2) := by decide +kernel
theorem dX4_init_22 : decode cX4_init 22 = .ok (.multianewarray 18 2, 4) := by decide +kernel
theorem dX4_init_26 : decode cX4_init 26 = .ok (.putfield 20, 3) := by decide +kernel
theorem dX4_init_29 : decode cX4_init 29 = .ok (.aload_n 0, 1) := by decide +kernel
theorem dX4_init_30 : decode cX4_init 30 = .ok (.iconst 5, 1) := by decide +kernel
theorem dX4_init_31 : decode cX4_init 31 = .ok (.bipush 40, 2) := by decide +kernel
theorem dX4_init_33 : decode cX4_init 33 = .ok (.multianewarray 18 2, 4) := by decide +kernel
theorem dX4_init_37 : decode cX4_init 37 = .ok (.putfield 23, 3) := by decide +kernel
theorem dX4_init_40 : decode cX4_init 40 = .ok (.aload_n 0, 1) := by decide +kernel
theorem dX4_init_41 : decode cX4_init 41 = .ok (.new 26, 3) := by decide +kernel
theorem dX4_init_44 : decode cX4_init 44 = .ok (.dup, 1) := by decide +kernel
theorem dX4_init_45 : decode cX4_init 45 = .ok (.invokespecial 28, 3) := by decide +kernel
theorem dX4_init_48 : decode cX4_init 48 = .ok (.putfield 29, 3) := by decide +kernel
theorem dX4_init_51 : decode cX4_init 51 = .ok (.aload_n 0, 1) := by decide +kernel
theorem dX4_init_52 : decode cX4_init 52 = .ok (.iconst 5, 1) := by decide +kernel
theorem dX4_init_53 : decode cX4_init 53 = .ok (.newarray .int, 2) := by decide +kernel
theorem dX4_init_55 : decode cX4_init 55 = .ok (.putfield 33, 3) := by decide +kernel
theorem dX4_init_58 : decode cX4_init 58 = .ok (.aload_n 0, 1) := by decide +kernel
theorem dX4_init_59 : decode cX4_init 59 = .ok (.iconst 5, 1) := by decide +kernel
theorem dX4_init_60 : decode cX4_init 60 = .ok (.newarray .int, 2) := by decide +kernel
theorem dX4_init_62 : decode cX4_init 62 = .ok (.putfield 36, 3) := by decide +kernel
theorem dX4_init_65 : decode cX4_init 65 = .ok (.aload_n 0, 1) := by decide +kernel
theorem dX4_init_66 : decode cX4_init 66 = .ok (.iconst 5, 1) := by decide +kernel
theorem dX4_init_67 : decode cX4_init 67 = .ok (.newarray .int, 2) := by decide +kernel
theorem dX4_init_69 : decode cX4_init 69 = .ok (.putfield 39, 3) := by decide +kernel
theorem dX4_init_72 : decode cX4_init 72 = .ok (.aload_n 0, 1) := by decide +kernel
theorem dX4_init_73 : decode cX4_init 73 = .ok (.new 42, 3) := by decide +kernel
theorem dX4_init_76 : decode cX4_init 76 = .ok (.dup, 1) := by decide +kernel
theorem dX4_init_77 : decode cX4_init 77 = .ok (.invokespecial 44, 3) := by decide +kernel
theorem dX4_init_80 : decode cX4_init 80 = .ok (.putfield 45, 3) := by decide +kernel
theorem dX4_init_83 : decode cX4_init 83 = .ok (.aload_n 0, 1) := by decide +kernel
theorem dX4_init_84 : decode cX4_init 84 = .ok (.new 49, 3) := by decide +kernel
theorem dX4_init_87 : decode cX4_init 87 = .ok (.dup, 1) := by decide +kernel
theorem dX4_init_88 : decode cX4_init 88 = .ok (.invokespecial 51, 3) := by decide +kernel
theorem dX4_init_91 : decode cX4_init 91 = .ok (.putfield 52, 3) := by decide +kernel
theorem dX4_init_94 : decode cX4_init 94 = .ok (.return_, 1) := by decide +kernel
theorem dX4_pass_0 : decode cX4_pass 0 = .ok (.aload_n 0, 1) := by decide +kernel
theorem dX4_pass_1 : decode cX4_pass 1 = .ok (.aload_n 1, 1) := by decide +kernel
theorem dX4_pass_2 : decode cX4_pass 2 = .ok (.getfield 56, 3) := by decide +kernel
theorem dX4_pass_5 : decode cX4_pass 5 = .ok (.putfield 45, 3) := by decide +kernel
theorem dX4_pass_8 : decode cX4_pass 8 = .ok (.aload_n 0, 1) := by decide +kernel
theorem dX4_pass_9 : decode cX4_pass 9 = .ok (.aload_n 1, 1) := by decide +kernel
theorem dX4_pass_10 : decode cX4_pass 10 = .ok (.getfield 59, 3) := by decide +kernel
theorem dX4_pass_13 : decode cX4_pass 13 = .ok (.putfield 52, 3) := by decide +kernel
theorem dX4_pass_16 : decode cX4_pass 16 = .ok (.iconst 0, 1) := by decide +kernel
theorem dX4_pass_17 : decode cX4_pass 17 = .ok (.istore_n 2, 1) := by decide +kernel
theorem dX4_pass_18 : decode cX4_pass 18 = .ok (.iload_n 2, 1) := by decide +kernel
theorem dX4_pass_19 : decode cX4_pass 19 = .ok (.aload_n 0, 1) := by decide +kernel
theorem dX4_pass_20 : decode cX4_pass 20 = .ok (.getfield 45, 3) := by decide +kernel
theorem dX4_pass_23 : decode cX4_pass 23 = .ok (.getfield 60, 3) := by decide +kernel
theorem dX4_pass_26 : decode cX4_pass 26 = .ok (.if_icmp .ge 30, 3) := by decide +kernel
theorem dX4_pass_29 : decode cX4_pass 29 = .ok (.aload_n 0, 1) := by decide +kernel
theorem dX4_pass_30 : decode cX4_pass 30 = .ok (.getfield 33, 3) := by decide +kernel
theorem dX4_pass_33 : decode cX4_pass 33 = .ok (.iload_n 2, 1) := by decide +kernel
theorem dX4_pass_34 : decode cX4_pass 34 = .ok (.iconst 0, 1) := by decide +kernel
theorem dX4_pass_35 : decode cX4_pass 35 = .ok (.iastore, 1) := by decide +kernel
theorem dX4_pass_36 : decode cX4_pass 36 = .ok (.aload_n 0, 1) := by decide +kernel
theorem dX4_pass_37 : decode cX4_pass 37 = .ok (.getfield 9, 3) := by decide +kernel
theorem dX4_pass_40 : decode cX4_pass 40 = .ok (.iload_n 2, 1) := by decide +kernel
theorem dX4_pass_41 : decode cX4_pass 41 = .ok (.iconst 0, 1) := by decide +kernel
theorem dX4_pass_42 : decode cX4_pass 42 = .ok (.iastore, 1) := by decide +kernel
theorem dX4_pass_43 : decode cX4_pass 43 = .ok (.aload_n 0, 1) := by decide +kernel
theorem dX4_pass_44 : decode cX4_pass 44 = .ok (.getfield 15, 3) := by decide +kernel
theorem dX4_pass_47 : decode cX4_pass 47 = .ok (.iload_n 2, 1) := by decide +kernel
theorem dX4_pass_48 : decode cX4_pass 48 = .ok (.iconst 0, 1) := by decide +kernel
theorem dX4_pass_49 : decode cX4_pass 49 = .ok (.iastore, 1) := by decide +kernel
theorem dX4_pass_50 : decode cX4_pass 50 = .ok (.iinc 2 1, 3) := by decide +kernel
theorem dX4_pass_53 : decode cX4_pass 53 = .ok (.goto (-35), 3) := by decide +kernel
theorem dX4_pass_56 : decode cX4_pass 56 = .ok (.iconst 0, 1) := by decide +kernel
theorem dX4_pass_57 : decode cX4_pass 57 = .ok (.istore_n 2, 1) := by decide +kernel
theorem dX4_pass_58 : decode cX4_pass 58 = .ok (.iload_n 2, 1) := by decide +kernel
theorem dX4_pass_59 : decode cX4_pass 59 = .ok (.bipush 40, 2) := by decide +kernel
theorem dX4_pass_61 : decode cX4_pass 61 = .ok (.if_icmp .ge 65, 3) := by decide +kernel
theorem dX4_pass_64 : decode cX4_pass 64 = .ok (.aload_n 0, 1) := by decide +kernel
theorem dX4_pass_65 : decode cX4_pass 65 = .ok (.iload_n 2, 1) := by decide +kernel
theorem dX4_pass_66 : decode cX4_pass 66 = .ok (.invokevirtual 64, 3) := by decide +kernel
theorem dX4_pass_69 : decode cX4_pass 69 = .ok (.aload_n 0, 1) := by decide +kernel
theorem dX4_pass_70 : decode cX4_pass 70 = .ok (.iload_n 2, 1) := by decide +kernel
theorem dX4_pass_71 : decode cX4_pass 71 = .ok (.invokevirtual 68, 3) := by decide +kernel
theorem dX4_pass_74 : decode cX4_pass 74 = .ok (.iconst 0, 1) := by decide +kernel
theorem dX4_pass_75 : decode cX4_pass 75 = .ok (.istore_n 3, 1) := by decide +kernel
theorem dX4_pass_76 : decode cX4_pass 76 = .ok (.iload_n 3, 1) := by decide +kernel
theorem dX4_pass_77 : decode cX4_pass 77 = .ok (.aload_n 0, 1) := by decide +kernel
theorem dX4_pass_78 : decode cX4_pass 78 = .ok (.getfield 45, 3) := by decide +kernel
theorem dX4_pass_81 : decode cX4_pass 81 = .ok (.getfield 60, 3) := by decide +kernel
theorem dX4_pass_84 : decode cX4_pass 84 = .ok (.if_icmp .ge 36, 3) := by decide +kernel
theorem dX4_pass_87 : decode cX4_pass 87 = .ok (.aload_n 0, 1) := by decide +kernel
theorem dX4_pass_88 : decode cX4_pass 88 = .ok (.getfield 33, 3) := by decide +kernel
theorem dX4_pass_91 : decode cX4_pass 91 = .ok (.iload_n 3, 1) := by decide +kernel
theorem dX4_pass_92 : decode cX4_pass 92 = .ok (.iaload, 1) := by decide +kernel
theorem dX4_pass_93 : decode cX4_pass 93 = .ok (.ifCond .eq 15, 3) := by decide +kernel
theorem dX4_pass_96 : decode cX4_pass 96 = .ok (.aload_n 0, 1) := by decide +kernel
theorem dX4_pass_97 : decode cX4_pass 97 = .ok (.iload_n 3, 1) := by decide +kernel
theorem dX4_pass_98 : decode cX4_pass 98 = .ok (.iload_n 2, 1) := by decide +kernel
theorem dX4_pass_99 : decode cX4_pass 99 = .ok (.invokevirtual 71, 3) := by decide +kernel
theorem dX4_pass_102 : decode cX4_pass 102 = .ok (.aload_n 0, 1) := by decide +kernel
theorem dX4_pass_103 : decode cX4_pass 103 = .ok (.iload_n 3, 1) := by decide +kernel
theorem dX4_pass_104 : decode cX4_pass 104 = .ok (.iload_n 2, 1) := by decide +kernel
theorem dX4_pass_105 : decode cX4_pass 105 = .ok (.invokevirtual 75, 3) := by decide +kernel
theorem dX4_pass_108 : decode cX4_pass 108 = .ok (.aload_n 0, 1) := by decide +kernel
theorem dX4_pass_109 : decode cX4_pass 109 = .ok (.iload_n 3, 1) := by decide +kernel
theorem dX4_pass_110 : decode cX4_pass 110 = .ok (.iload_n 2, 1) := by decide +kernel
theorem dX4_pass_111 : decode cX4_pass 111 = .ok (.invokevirtual 78, 3) := by decide +kernel
theorem dX4_pass_114 : decode cX4_pass 114 = .ok (.iinc 3 1, 3) := by decide +kernel
theorem dX4_pass_117 : decode cX4_pass 117 = .ok (.goto (-41), 3) := by decide +kernel
theorem dX4_pass_120 : decode cX4_pass 120 = .ok (.iinc 2 1, 3) := by decide +kernel
theorem dX4_pass_123 : decode cX4_pass 123 = .ok (.goto (-65), 3) := by decide +kernel
theorem dX4_pass_126 : decode cX4_pass 126 = .ok (.return_, 1) := by decide +kernel
theorem dX4_comeAndGo_0 : decode cX4_comeAndGo 0 = .ok (.aload_n 0, 1) := by decide +kernel
theorem dX4_comeAndGo_1 : decode cX4_comeAndGo 1 = .ok (.iconst 0, 1) := by decide +kernel
theorem dX4_comeAndGo_2 : decode cX4_comeAndGo 2 = .ok (.putfield 81, 3) := by decide +kernel
theorem dX4_comeAndGo_5 : decode cX4_comeAndGo 5 = .ok (.iconst 0, 1) := by decide +kernel
theorem dX4_comeAndGo_6 : decode cX4_comeAndGo 6 = .ok (.istore_n 2, 1) := by decide +kernel
theorem dX4_comeAndGo_7 : decode cX4_comeAndGo 7 = .ok (.iload_n 2, 1) := by decide +kernel
theorem dX4_comeAndGo_8 : decode cX4_comeAndGo 8 = .ok (.aload_n 0, 1) := by decide +kernel
theorem dX4_comeAndGo_9 : decode cX4_comeAndGo 9 = .ok (.getfield 45, 3) := by decide +kernel
theorem dX4_comeAndGo_12 : decode cX4_comeAndGo 12 = .ok (.getfield 60, 3) := by decide +kernel
theorem dX4_comeAndGo_15 : decode cX4_comeAndGo 15 = .ok (.if_icmp .ge 99, 3) := by decide +kernel
theorem dX4_comeAndGo_18 : decode cX4_comeAndGo 18 = .ok (.aload_n 0, 1) := by decide +kernel
theorem dX4_comeAndGo_19 : decode cX4_comeAndGo 19 = .ok (.getfield 45, 3) := by decide +kernel
theorem dX4_comeAndGo_22 : decode cX4_comeAndGo 22 = .ok (.getfield 84, 3) := by decide +kernel
theorem dX4_comeAndGo_25 : decode cX4_comeAndGo 25 = .ok (.iload_n 2, 1) := by decide +kernel
theorem dX4_comeAndGo_26 : decode cX4_comeAndGo 26 = .ok (.iaload, 1) := by decide +kernel
theorem dX4_comeAndGo_27 : decode cX4_comeAndGo 27 = .ok (.iconst (-1), 1) := by decide +kernel
theorem dX4_comeAndGo_28 : decode cX4_comeAndGo 28 = .ok (.if_icmp .ne 6, 3) := by decide +kernel
theorem dX4_comeAndGo_31 : decode cX4_comeAndGo 31 = .ok (.goto 77, 3) := by decide +kernel
theorem dX4_comeAndGo_34 : decode cX4_comeAndGo 34 = .ok (.aload_n 0, 1) := by decide +kernel
theorem dX4_comeAndGo_35 : decode cX4_comeAndGo 35 = .ok (.getfield 45, 3) := by decide +kernel
theorem dX4_comeAndGo_38 : decode cX4_comeAndGo 38 = .ok (.getfield 87, 3) := by decide +kernel
theorem dX4_comeAndGo_41 : decode cX4_comeAndGo 41 = .ok (.iload_n 2, 1) := by decide +kernel
theorem dX4_comeAndGo_42 : decode cX4_comeAndGo 42 = .ok (.iaload, 1) := by decide +kernel
theorem dX4_comeAndGo_43 : decode cX4_comeAndGo 43 = .ok (.iload_n 1, 1) := by decide +kernel
theorem dX4_comeAndGo_44 : decode cX4_comeAndGo 44 = .ok (.if_icmp .ne 32, 3) := by decide +kernel
theorem dX4_comeAndGo_47 : decode cX4_comeAndGo 47 = .ok (.aload_n 0, 1) := by decide +kernel
theorem dX4_comeAndGo_48 : decode cX4_comeAndGo 48 = .ok (.dup, 1) := by decide +kernel
theorem dX4_comeAndGo_49 : decode cX4_comeAndGo 49 = .ok (.getfield 81, 3) := by decide +kernel
theorem dX4_comeAndGo_52 : decode cX4_comeAndGo 52 = .ok (.iconst 1, 1) := by decide +kernel
theorem dX4_comeAndGo_53 : decode cX4_comeAndGo 53 = .ok (.iload_n 2, 1) := by decide +kernel
theorem dX4_comeAndGo_54 : decode cX4_comeAndGo 54 = .ok (.ishl, 1) := by decide +kernel
theorem dX4_comeAndGo_55 : decode cX4_comeAndGo 55 = .ok (.ior, 1) := by decide +kernel
theorem dX4_comeAndGo_56 : decode cX4_comeAndGo 56 = .ok (.putfield 81, 3) := by decide +kernel
theorem dX4_comeAndGo_59 : decode cX4_comeAndGo 59 = .ok (.aload_n 0, 1) := by decide +kernel
theorem dX4_comeAndGo_60 : decode cX4_comeAndGo 60 = .ok (.getfield 33, 3) := by decide +kernel
theorem dX4_comeAndGo_63 : decode cX4_comeAndGo 63 = .ok (.iload_n 2, 1) := by decide +kernel
theorem dX4_comeAndGo_64 : decode cX4_comeAndGo 64 = .ok (.iconst 1, 1) := by decide +kernel
theorem dX4_comeAndGo_65 : decode cX4_comeAndGo 65 = .ok (.iastore, 1) := by decide +kernel
theorem dX4_comeAndGo_66 : decode cX4_comeAndGo 66 = .ok (.aload_n 0, 1) := by decide +kernel
theorem dX4_comeAndGo_67 : decode cX4_comeAndGo 67 = .ok (.getfield 39, 3) := by decide +kernel
theorem dX4_comeAndGo_70 : decode cX4_comeAndGo 70 = .ok (.iload_n 2, 1) := by decide +kernel
theorem dX4_comeAndGo_71 : decode cX4_comeAndGo 71 = .ok (.iconst 0, 1) := by decide +kernel
theorem dX4_comeAndGo_72 : decode cX4_comeAndGo 72 = .ok (.iastore, 1) := by decide +kernel
theorem dX4_comeAndGo_73 : decode cX4_comeAndGo 73 = .ok (.goto 35, 3) := by decide +kernel
theorem dX4_comeAndGo_76 : decode cX4_comeAndGo 76 = .ok (.aload_n 0, 1) := by decide +kernel
theorem dX4_comeAndGo_77 : decode cX4_comeAndGo 77 = .ok (.getfield 45, 3) := by decide +kernel
theorem dX4_comeAndGo_80 : decode cX4_comeAndGo 80 = .ok (.getfield 90, 3) := by decide +kernel
theorem dX4_comeAndGo_83 : decode cX4_comeAndGo 83 = .ok (.iload_n 2, 1) := by decide +kernel
theorem dX4_comeAndGo_84 : decode cX4_comeAndGo 84 = .ok (.iaload, 1) := by decide +kernel
theorem dX4_comeAndGo_85 : decode cX4_comeAndGo 85 = .ok (.iload_n 1, 1) := by decide +kernel
theorem dX4_comeAndGo_86 : decode cX4_comeAndGo 86 = .ok (.if_icmp .ne 22, 3) := by decide +kernel
theorem dX4_comeAndGo_89 : decode cX4_comeAndGo 89 = .ok (.aload_n 0, 1) := by decide +kernel
theorem dX4_comeAndGo_90 : decode cX4_comeAndGo 90 = .ok (.dup, 1) := by decide +kernel
theorem dX4_comeAndGo_91 : decode cX4_comeAndGo 91 = .ok (.getfield 81, 3) := by decide +kernel
theorem dX4_comeAndGo_94 : decode cX4_comeAndGo 94 = .ok (.iconst 1, 1) := by decide +kernel
theorem dX4_comeAndGo_95 : decode cX4_comeAndGo 95 = .ok (.iload_n 2, 1) := by decide +kernel
theorem dX4_comeAndGo_96 : decode cX4_comeAndGo 96 = .ok (.ishl, 1) := by decide +kernel
theorem dX4_comeAndGo_97 : decode cX4_comeAndGo 97 = .ok (.ior, 1) := by decide +kernel
theorem dX4_comeAndGo_98 : decode cX4_comeAndGo 98 = .ok (.putfield 81, 3) := by decide +kernel
theorem dX4_comeAndGo_101 : decode cX4_comeAndGo 101 = .ok (.aload_n 0, 1) := by decide +kernel
theorem dX4_comeAndGo_102 : decode cX4_comeAndGo 102 = .ok (.getfield 33, 3) := by decide +kernel
theorem dX4_comeAndGo_105 : decode cX4_comeAndGo 105 = .ok (.iload_n 2, 1) := by decide +kernel
theorem dX4_comeAndGo_106 : decode cX4_comeAndGo 106 = .ok (.iconst 0, 1) := by decide +kernel
theorem dX4_comeAndGo_107 : decode cX4_comeAndGo 107 = .ok (.iastore, 1) := by decide +kernel
theorem dX4_comeAndGo_108 : decode cX4_comeAndGo 108 = .ok (.iinc 2 1, 3) := by decide +kernel
theorem dX4_comeAndGo_111 : decode cX4_comeAndGo 111 = .ok (.goto (-104), 3) := by decide +kernel
theorem dX4_comeAndGo_114 : decode cX4_comeAndGo 114 = .ok (.return_, 1) := by decide +kernel
theorem dX4_lookRound_0 : decode cX4_lookRound 0 = .ok (.aload_n 0, 1) := by decide +kernel
theorem dX4_lookRound_1 : decode cX4_lookRound 1 = .ok (.iconst 0, 1) := by decide +kernel
theorem dX4_lookRound_2 : decode cX4_lookRound 2 = .ok (.putfield 93, 3) := by decide +kernel
theorem dX4_lookRound_5 : decode cX4_lookRound 5 = .ok (.aload_n 0, 1) := by decide +kernel
theorem dX4_lookRound_6 : decode cX4_lookRound 6 = .ok (.iconst 0, 1) := by decide +kernel
theorem dX4_lookRound_7 : decode cX4_lookRound 7 = .ok (.putfield 96, 3) := by decide +kernel
theorem dX4_lookRound_10 : decode cX4_lookRound 10 = .ok (.iconst 0, 1) := by decide +kernel
theorem dX4_lookRound_11 : decode cX4_lookRound 11 = .ok (.istore_n 2, 1) := by decide +kernel
theorem dX4_lookRound_12 : decode cX4_lookRound 12 = .ok (.iload_n 2, 1) := by decide +kernel
theorem dX4_lookRound_13 : decode cX4_lookRound 13 = .ok (.aload_n 0, 1) := by decide +kernel
theorem dX4_lookRound_14 : decode cX4_lookRound 14 = .ok (.getfield 45, 3) := by decide +kernel
theorem dX4_lookRound_17 : decode cX4_lookRound 17 = .ok (.getfield 60, 3) := by decide +kernel
theorem dX4_lookRound_20 : decode cX4_lookRound 20 = .ok (.if_icmp .ge 70, 3) := by decide +kernel
theorem dX4_lookRound_23 : decode cX4_lookRound 23 = .ok (.aload_n 0, 1) := by decide +kernel
theorem dX4_lookRound_24 : decode cX4_lookRound 24 = .ok (.getfield 33, 3) := by decide +kernel
theorem dX4_lookRound_27 : decode cX4_lookRound 27 = .ok (.iload_n 2, 1) := by decide +kernel
theorem dX4_lookRound_28 : decode cX4_lookRound 28 = .ok (.iaload, 1) := by decide +kernel
theorem dX4_lookRound_29 : decode cX4_lookRound 29 = .ok (.iconst 1, 1) := by decide +kernel
theorem dX4_lookRound_30 : decode cX4_lookRound 30 = .ok (.if_icmp .ne 18, 3) := by decide +kernel
theorem dX4_lookRound_33 : decode cX4_lookRound 33 = .ok (.aload_n 0, 1) := by decide +kernel
theorem dX4_lookRound_34 : decode cX4_lookRound 34 = .ok (.dup, 1) := by decide +kernel
theorem dX4_lookRound_35 : decode cX4_lookRound 35 = .ok (.getfield 93, 3) := by decide +kernel
theorem dX4_lookRound_38 : decode cX4_lookRound 38 = .ok (.iconst 1, 1) := by decide +kernel
theorem dX4_lookRound_39 : decode cX4_lookRound 39 = .ok (.iload_n 2, 1) := by decide +kernel
theorem dX4_lookRound_40 : decode cX4_lookRound 40 = .ok (.ishl, 1) := by decide +kernel
theorem dX4_lookRound_41 : decode cX4_lookRound 41 = .ok (.ior, 1) := by decide +kernel
theorem dX4_lookRound_42 : decode cX4_lookRound 42 = .ok (.putfield 93, 3) := by decide +kernel
theorem dX4_lookRound_45 : decode cX4_lookRound 45 = .ok (.goto 39, 3) := by decide +kernel
theorem dX4_lookRound_48 : decode cX4_lookRound 48 = .ok (.aload_n 0, 1) := by decide +kernel
theorem dX4_lookRound_49 : decode cX4_lookRound 49 = .ok (.getfield 33, 3) := by decide +kernel
theorem dX4_lookRound_52 : decode cX4_lookRound 52 = .ok (.iload_n 2, 1) := by decide +kernel
theorem dX4_lookRound_53 : decode cX4_lookRound 53 = .ok (.iaload, 1) := by decide +kernel
theorem dX4_lookRound_54 : decode cX4_lookRound 54 = .ok (.iconst 2, 1) := by decide +kernel
theorem dX4_lookRound_55 : decode cX4_lookRound 55 = .ok (.if_icmp .ne 29, 3) := by decide +kernel
theorem dX4_lookRound_58 : decode cX4_lookRound 58 = .ok (.aload_n 0, 1) := by decide +kernel
theorem dX4_lookRound_59 : decode cX4_lookRound 59 = .ok (.getfield 36, 3) := by decide +kernel
theorem dX4_lookRound_62 : decode cX4_lookRound 62 = .ok (.iload_n 2, 1) := by decide +kernel
theorem dX4_lookRound_63 : decode cX4_lookRound 63 = .ok (.iaload, 1) := by decide +kernel
theorem dX4_lookRound_64 : decode cX4_lookRound 64 = .ok (.iload_n 1, 1) := by decide +kernel
theorem dX4_lookRound_65 : decode cX4_lookRound 65 = .ok (.invokestatic 99, 3) := by decide +kernel
theorem dX4_lookRound_68 : decode cX4_lookRound 68 = .ok (.iconst 2, 1) := by decide +kernel
theorem dX4_lookRound_69 : decode cX4_lookRound 69 = .ok (.if_icmp .lt 15, 3) := by decide +kernel
theorem dX4_lookRound_72 : decode cX4_lookRound 72 = .ok (.aload_n 0, 1) := by decide +kernel
theorem dX4_lookRound_73 : decode cX4_lookRound 73 = .ok (.dup, 1) := by decide +kernel
theorem dX4_lookRound_74 : decode cX4_lookRound 74 = .ok (.getfield 96, 3) := by decide +kernel
theorem dX4_lookRound_77 : decode cX4_lookRound 77 = .ok (.iconst 1, 1) := by decide +kernel
theorem dX4_lookRound_78 : decode cX4_lookRound 78 = .ok (.iload_n 2, 1) := by decide +kernel
theorem dX4_lookRound_79 : decode cX4_lookRound 79 = .ok (.ishl, 1) := by decide +kernel
theorem dX4_lookRound_80 : decode cX4_lookRound 80 = .ok (.ior, 1) := by decide +kernel
theorem dX4_lookRound_81 : decode cX4_lookRound 81 = .ok (.putfield 96, 3) := by decide +kernel
theorem dX4_lookRound_84 : decode cX4_lookRound 84 = .ok (.iinc 2 1, 3) := by decide +kernel
theorem dX4_lookRound_87 : decode cX4_lookRound 87 = .ok (.goto (-75), 3) := by decide +kernel
theorem dX4_lookRound_90 : decode cX4_lookRound 90 = .ok (.return_, 1) := by decide +kernel
theorem dX4_stir_0 : decode cX4_stir 0 = .ok (.iconst 0, 1) := by decide +kernel
theorem dX4_stir_1 : decode cX4_stir 1 = .ok (.aload_n 0, 1) := by decide +kernel
theorem dX4_stir_2 : decode cX4_stir 2 = .ok (.getfield 103, 3) := by decide +kernel
theorem dX4_stir_5 : decode cX4_stir 5 = .ok (.aload_n 0, 1) := by decide +kernel
theorem dX4_stir_6 : decode cX4_stir 6 = .ok (.getfield 29, 3) := by decide +kernel
theorem dX4_stir_9 : decode cX4_stir 9 = .ok (.getfield 106, 3) := by decide +kernel
theorem dX4_stir_12 : decode cX4_stir 12 = .ok (.iload_n 2, 1) := by decide +kernel
theorem dX4_stir_13 : decode cX4_stir 13 = .ok (.iaload, 1) := by decide +kernel
theorem dX4_stir_14 : decode cX4_stir 14 = .ok (.isub, 1) := by decide +kernel
theorem dX4_stir_15 : decode cX4_stir 15 = .ok (.invokestatic 109, 3) := by decide +kernel
theorem dX4_stir_18 : decode cX4_stir 18 = .ok (.istore_n 3, 1) := by decide +kernel
theorem dX4_stir_19 : decode cX4_stir 19 = .ok (.aload_n 0, 1) := by decide +kernel
theorem dX4_stir_20 : decode cX4_stir 20 = .ok (.getfield 33, 3) := by decide +kernel
theorem dX4_stir_23 : decode cX4_stir 23 = .ok (.iload_n 1, 1) := by decide +kernel
theorem dX4_stir_24 : decode cX4_stir 24 = .ok (.iaload, 1) := by decide +kernel
theorem dX4_stir_25 : decode cX4_stir 25 = .ok (.iconst 2, 1) := by decide +kernel
theorem dX4_stir_26 : decode cX4_stir 26 = .ok (.if_icmp .ne 76, 3) := by decide +kernel
theorem dX4_stir_29 : decode cX4_stir 29 = .ok (.iload_n 3, 1) := by decide +kernel
theorem dX4_stir_30 : decode cX4_stir 30 = .ok (.aload_n 0, 1) := by decide +kernel
theorem dX4_stir_31 : decode cX4_stir 31 = .ok (.getfield 45, 3) := by decide +kernel
theorem dX4_stir_34 : decode cX4_stir 34 = .ok (.getfield 114, 3) := by decide +kernel
theorem dX4_stir_37 : decode cX4_stir 37 = .ok (.iload_n 1, 1) := by decide +kernel
theorem dX4_stir_38 : decode cX4_stir 38 = .ok (.iaload, 1) := by decide +kernel
theorem dX4_stir_39 : decode cX4_stir 39 = .ok (.iconst 4, 1) := by decide +kernel
theorem dX4_stir_40 : decode cX4_stir 40 = .ok (.aload_n 0, 1) := by decide +kernel
theorem dX4_stir_41 : decode cX4_stir 41 = .ok (.getfield 36, 3) := by decide +kernel
theorem dX4_stir_44 : decode cX4_stir 44 = .ok (.iload_n 1, 1) := by decide +kernel
theorem dX4_stir_45 : decode cX4_stir 45 = .ok (.iaload, 1) := by decide +kernel
theorem dX4_stir_46 : decode cX4_stir 46 = .ok (.iload_n 2, 1) := by decide +kernel
theorem dX4_stir_47 : decode cX4_stir 47 = .ok (.invokestatic 99, 3) := by decide +kernel
theorem dX4_stir_50 : decode cX4_stir 50 = .ok (.imul, 1) := by decide +kernel
theorem dX4_stir_51 : decode cX4_stir 51 = .ok (.iadd, 1) := by decide +kernel
theorem dX4_stir_52 : decode cX4_stir 52 = .ok (.if_icmp .lt 49, 3) := by decide +kernel
theorem dX4_stir_55 : decode cX4_stir 55 = .ok (.aload_n 0, 1) := by decide +kernel
theorem dX4_stir_56 : decode cX4_stir 56 = .ok (.getfield 33, 3) := by decide +kernel
theorem dX4_stir_59 : decode cX4_stir 59 = .ok (.iload_n 1, 1) := by decide +kernel
theorem dX4_stir_60 : decode cX4_stir 60 = .ok (.iconst 1, 1) := by decide +kernel
theorem dX4_stir_61 : decode cX4_stir 61 = .ok (.iastore, 1) := by decide +kernel
theorem dX4_stir_62 : decode cX4_stir 62 = .ok (.aload_n 0, 1) := by decide +kernel
theorem dX4_stir_63 : decode cX4_stir 63 = .ok (.getfield 39, 3) := by decide +kernel
theorem dX4_stir_66 : decode cX4_stir 66 = .ok (.iload_n 1, 1) := by decide +kernel
theorem dX4_stir_67 : decode cX4_stir 67 = .ok (.iconst 0, 1) := by decide +kernel
theorem dX4_stir_68 : decode cX4_stir 68 = .ok (.iastore, 1) := by decide +kernel
theorem dX4_stir_69 : decode cX4_stir 69 = .ok (.aload_n 0, 1) := by decide +kernel
theorem dX4_stir_70 : decode cX4_stir 70 = .ok (.getfield 20, 3) := by decide +kernel
theorem dX4_stir_73 : decode cX4_stir 73 = .ok (.iload_n 1, 1) := by decide +kernel
theorem dX4_stir_74 : decode cX4_stir 74 = .ok (.aaload, 1) := by decide +kernel
theorem dX4_stir_75 : decode cX4_stir 75 = .ok (.aload_n 0, 1) := by decide +kernel
theorem dX4_stir_76 : decode cX4_stir 76 = .ok (.getfield 15, 3) := by decide +kernel
theorem dX4_stir_79 : decode cX4_stir 79 = .ok (.iload_n 1, 1) := by decide +kernel
theorem dX4_stir_80 : decode cX4_stir 80 = .ok (.iaload, 1) := by decide +kernel
theorem dX4_stir_81 : decode cX4_stir 81 = .ok (.bipush 100, 2) := by decide +kernel
theorem dX4_stir_83 : decode cX4_stir 83 = .ok (.iload_n 2, 1) := by decide +kernel
theorem dX4_stir_84 : decode cX4_stir 84 = .ok (.imul, 1) := by decide +kernel
theorem dX4_stir_85 : decode cX4_stir 85 = .ok (.aload_n 0, 1) := by decide +kernel
theorem dX4_stir_86 : decode cX4_stir 86 = .ok (.getfield 117, 3) := by decide +kernel
theorem dX4_stir_89 : decode cX4_stir 89 = .ok (.iadd, 1) := by decide +kernel
theorem dX4_stir_90 : decode cX4_stir 90 = .ok (.iastore, 1) := by decide +kernel
theorem dX4_stir_91 : decode cX4_stir 91 = .ok (.aload_n 0, 1) := by decide +kernel
theorem dX4_stir_92 : decode cX4_stir 92 = .ok (.getfield 15, 3) := by decide +kernel
theorem dX4_stir_95 : decode cX4_stir 95 = .ok (.iload_n 1, 1) := by decide +kernel
theorem dX4_stir_96 : decode cX4_stir 96 = .ok (.dup2, 1) := by decide +kernel
theorem dX4_stir_97 : decode cX4_stir 97 = .ok (.iaload, 1) := by decide +kernel
theorem dX4_stir_98 : decode cX4_stir 98 = .ok (.iconst 1, 1) := by decide +kernel
theorem dX4_stir_99 : decode cX4_stir 99 = .ok (.iadd, 1) := by decide +kernel
theorem dX4_stir_100 : decode cX4_stir 100 = .ok (.iastore, 1) := by decide +kernel
theorem dX4_stir_101 : decode cX4_stir 101 = .ok (.return_, 1) := by decide +kernel
theorem dX4_stir_102 : decode cX4_stir 102 = .ok (.aload_n 0, 1) := by decide +kernel
theorem dX4_stir_103 : decode cX4_stir 103 = .ok (.getfield 39, 3) := by decide +kernel
theorem dX4_stir_106 : decode cX4_stir 106 = .ok (.iload_n 1, 1) := by decide +kernel
theorem dX4_stir_107 : decode cX4_stir 107 = .ok (.iload_n 3, 1) := by decide +kernel
theorem dX4_stir_108 : decode cX4_stir 108 = .ok (.aload_n 0, 1) := by decide +kernel
theorem dX4_stir_109 : decode cX4_stir 109 = .ok (.getfield 45, 3) := by decide +kernel
theorem dX4_stir_112 : decode cX4_stir 112 = .ok (.getfield 114, 3) := by decide +kernel
theorem dX4_stir_115 : decode cX4_stir 115 = .ok (.iload_n 1, 1) := by decide +kernel
theorem dX4_stir_116 : decode cX4_stir 116 = .ok (.iaload, 1) := by decide +kernel
theorem dX4_stir_117 : decode cX4_stir 117 = .ok (.if_icmp .ge 14, 3) := by decide +kernel
theorem dX4_stir_120 : decode cX4_stir 120 = .ok (.aload_n 0, 1) := by decide +kernel
theorem dX4_stir_121 : decode cX4_stir 121 = .ok (.getfield 39, 3) := by decide +kernel
theorem dX4_stir_124 : decode cX4_stir 124 = .ok (.iload_n 1, 1) := by decide +kernel
theorem dX4_stir_125 : decode cX4_stir 125 = .ok (.iaload, 1) := by decide +kernel
theorem dX4_stir_126 : decode cX4_stir 126 = .ok (.iconst 1, 1) := by decide +kernel
theorem dX4_stir_127 : decode cX4_stir 127 = .ok (.iadd, 1) := by decide +kernel
theorem dX4_stir_128 : decode cX4_stir 128 = .ok (.goto 4, 3) := by decide +kernel
theorem dX4_stir_131 : decode cX4_stir 131 = .ok (.iconst 0, 1) := by decide +kernel
theorem dX4_stir_132 : decode cX4_stir 132 = .ok (.iastore, 1) := by decide +kernel
theorem dX4_stir_133 : decode cX4_stir 133 = .ok (.aload_n 0, 1) := by decide +kernel
theorem dX4_stir_134 : decode cX4_stir 134 = .ok (.getfield 39, 3) := by decide +kernel
theorem dX4_stir_137 : decode cX4_stir 137 = .ok (.iload_n 1, 1) := by decide +kernel
theorem dX4_stir_138 : decode cX4_stir 138 = .ok (.iaload, 1) := by decide +kernel
theorem dX4_stir_139 : decode cX4_stir 139 = .ok (.aload_n 0, 1) := by decide +kernel
theorem dX4_stir_140 : decode cX4_stir 140 = .ok (.getfield 45, 3) := by decide +kernel
theorem dX4_stir_143 : decode cX4_stir 143 = .ok (.getfield 120, 3) := by decide +kernel
theorem dX4_stir_146 : decode cX4_stir 146 = .ok (.iload_n 1, 1) := by decide +kernel
theorem dX4_stir_147 : decode cX4_stir 147 = .ok (.iaload, 1) := by decide +kernel
theorem dX4_stir_148 : decode cX4_stir 148 = .ok (.if_icmp .lt 17, 3) := by decide +kernel
theorem dX4_stir_151 : decode cX4_stir 151 = .ok (.aload_n 0, 1) := by decide +kernel
theorem dX4_stir_152 : decode cX4_stir 152 = .ok (.getfield 33, 3) := by decide +kernel
theorem dX4_stir_155 : decode cX4_stir 155 = .ok (.iload_n 1, 1) := by decide +kernel
theorem dX4_stir_156 : decode cX4_stir 156 = .ok (.iconst 2, 1) := by decide +kernel
theorem dX4_stir_157 : decode cX4_stir 157 = .ok (.iastore, 1) := by decide +kernel
theorem dX4_stir_158 : decode cX4_stir 158 = .ok (.aload_n 0, 1) := by decide +kernel
theorem dX4_stir_159 : decode cX4_stir 159 = .ok (.getfield 36, 3) := by decide +kernel
theorem dX4_stir_162 : decode cX4_stir 162 = .ok (.iload_n 1, 1) := by decide +kernel
theorem dX4_stir_163 : decode cX4_stir 163 = .ok (.iload_n 2, 1) := by decide +kernel
theorem dX4_stir_164 : decode cX4_stir 164 = .ok (.iastore, 1) := by decide +kernel
theorem dX4_stir_165 : decode cX4_stir 165 = .ok (.return_, 1) := by decide +kernel
theorem dX4_note_0 : decode cX4_note 0 = .ok (.aload_n 0, 1) := by decide +kernel
theorem dX4_note_1 : decode cX4_note 1 = .ok (.getfield 33, 3) := by decide +kernel
theorem dX4_note_4 : decode cX4_note 4 = .ok (.iload_n 1, 1) := by decide +kernel
theorem dX4_note_5 : decode cX4_note 5 = .ok (.iaload, 1) := by decide +kernel
theorem dX4_note_6 : decode cX4_note 6 = .ok (.iconst 2, 1) := by decide +kernel
theorem dX4_note_7 : decode cX4_note 7 = .ok (.if_icmp .ne 36, 3) := by decide +kernel
theorem dX4_note_10 : decode cX4_note 10 = .ok (.aload_n 0, 1) := by decide +kernel
theorem dX4_note_11 : decode cX4_note 11 = .ok (.getfield 9, 3) := by decide +kernel
theorem dX4_note_14 : decode cX4_note 14 = .ok (.iload_n 1, 1) := by decide +kernel
theorem dX4_note_15 : decode cX4_note 15 = .ok (.dup2, 1) := by decide +kernel
theorem dX4_note_16 : decode cX4_note 16 = .ok (.iaload, 1) := by decide +kernel
theorem dX4_note_17 : decode cX4_note 17 = .ok (.iconst 1, 1) := by decide +kernel
theorem dX4_note_18 : decode cX4_note 18 = .ok (.iadd, 1) := by decide +kernel
theorem dX4_note_19 : decode cX4_note 19 = .ok (.iastore, 1) := by decide +kernel
theorem dX4_note_20 : decode cX4_note 20 = .ok (.aload_n 0, 1) := by decide +kernel
theorem dX4_note_21 : decode cX4_note 21 = .ok (.getfield 23, 3) := by decide +kernel
theorem dX4_note_24 : decode cX4_note 24 = .ok (.iload_n 1, 1) := by decide +kernel
theorem dX4_note_25 : decode cX4_note 25 = .ok (.aaload, 1) := by decide +kernel
theorem dX4_note_26 : decode cX4_note 26 = .ok (.iload_n 2, 1) := by decide +kernel
theorem dX4_note_27 : decode cX4_note 27 = .ok (.iconst 2, 1) := by decide +kernel
theorem dX4_note_28 : decode cX4_note 28 = .ok (.aload_n 0, 1) := by decide +kernel
theorem dX4_note_29 : decode cX4_note 29 = .ok (.getfield 36, 3) := by decide +kernel
theorem dX4_note_32 : decode cX4_note 32 = .ok (.iload_n 1, 1) := by decide +kernel
theorem dX4_note_33 : decode cX4_note 33 = .ok (.iaload, 1) := by decide +kernel
theorem dX4_note_34 : decode cX4_note 34 = .ok (.iload_n 2, 1) := by decide +kernel
theorem dX4_note_35 : decode cX4_note 35 = .ok (.invokestatic 99, 3) := by decide +kernel
theorem dX4_note_38 : decode cX4_note 38 = .ok (.iadd, 1) := by decide +kernel
theorem dX4_note_39 : decode cX4_note 39 = .ok (.iastore, 1) := by decide +kernel
theorem dX4_note_40 : decode cX4_note 40 = .ok (.goto 17, 3) := by decide +kernel
theorem dX4_note_43 : decode cX4_note 43 = .ok (.aload_n 0, 1) := by decide +kernel
theorem dX4_note_44 : decode cX4_note 44 = .ok (.getfield 23, 3) := by decide +kernel
theorem dX4_note_47 : decode cX4_note 47 = .ok (.iload_n 1, 1) := by decide +kernel
theorem dX4_note_48 : decode cX4_note 48 = .ok (.aaload, 1) := by decide +kernel
theorem dX4_note_49 : decode cX4_note 49 = .ok (.iload_n 2, 1) := by decide +kernel
theorem dX4_note_50 : decode cX4_note 50 = .ok (.aload_n 0, 1) := by decide +kernel
theorem dX4_note_51 : decode cX4_note 51 = .ok (.getfield 33, 3) := by decide +kernel
theorem dX4_note_54 : decode cX4_note 54 = .ok (.iload_n 1, 1) := by decide +kernel
theorem dX4_note_55 : decode cX4_note 55 = .ok (.iaload, 1) := by decide +kernel
theorem dX4_note_56 : decode cX4_note 56 = .ok (.iastore, 1) := by decide +kernel
theorem dX4_note_57 : decode cX4_note 57 = .ok (.return_, 1) := by decide +kernel
theorem dX4_listen_0 : decode cX4_listen 0 = .ok (.aload_n 0, 1) := by decide +kernel
theorem dX4_listen_1 : decode cX4_listen 1 = .ok (.iconst 0, 1) := by decide +kernel
theorem dX4_listen_2 : decode cX4_listen 2 = .ok (.putfield 103, 3) := by decide +kernel
theorem dX4_listen_5 : decode cX4_listen 5 = .ok (.aload_n 0, 1) := by decide +kernel
theorem dX4_listen_6 : decode cX4_listen 6 = .ok (.iconst (-1), 1) := by decide +kernel
theorem dX4_listen_7 : decode cX4_listen 7 = .ok (.putfield 117, 3) := by decide +kernel
theorem dX4_listen_10 : decode cX4_listen 10 = .ok (.aload_n 0, 1) := by decide +kernel
theorem dX4_listen_11 : decode cX4_listen 11 = .ok (.getfield 45, 3) := by decide +kernel
theorem dX4_listen_14 : decode cX4_listen 14 = .ok (.getfield 84, 3) := by decide +kernel
theorem dX4_listen_17 : decode cX4_listen 17 = .ok (.iload_n 1, 1) := by decide +kernel
theorem dX4_listen_18 : decode cX4_listen 18 = .ok (.iaload, 1) := by decide +kernel
theorem dX4_listen_19 : decode cX4_listen 19 = .ok (.istore_n 3, 1) := by decide +kernel
theorem dX4_listen_20 : decode cX4_listen 20 = .ok (.iconst 1, 1) := by decide +kernel
theorem dX4_listen_21 : decode cX4_listen 21 = .ok (.iload_n 1, 1) := by decide +kernel
theorem dX4_listen_22 : decode cX4_listen 22 = .ok (.ishl, 1) := by decide +kernel
theorem dX4_listen_23 : decode cX4_listen 23 = .ok (.iconst (-1), 1) := by decide +kernel
theorem dX4_listen_24 : decode cX4_listen 24 = .ok (.ixor, 1) := by decide +kernel
theorem dX4_listen_25 : decode cX4_listen 25 = .ok (.istore 4, 2) := by decide +kernel
theorem dX4_listen_27 : decode cX4_listen 27 = .ok (.aload_n 0, 1) := by decide +kernel
theorem dX4_listen_28 : decode cX4_listen 28 = .ok (.getfield 81, 3) := by decide +kernel
theorem dX4_listen_31 : decode cX4_listen 31 = .ok (.iload 4, 2) := by decide +kernel
theorem dX4_listen_33 : decode cX4_listen 33 = .ok (.iand, 1) := by decide +kernel
theorem dX4_listen_34 : decode cX4_listen 34 = .ok (.ifCond .eq 16, 3) := by decide +kernel
theorem dX4_listen_37 : decode cX4_listen 37 = .ok (.aload_n 0, 1) := by decide +kernel
theorem dX4_listen_38 : decode cX4_listen 38 = .ok (.iload_n 3, 1) := by decide +kernel
theorem dX4_listen_39 : decode cX4_listen 39 = .ok (.aload_n 0, 1) := by decide +kernel
theorem dX4_listen_40 : decode cX4_listen 40 = .ok (.getfield 81, 3) := by decide +kernel
theorem dX4_listen_43 : decode cX4_listen 43 = .ok (.iload 4, 2) := by decide +kernel
theorem dX4_listen_45 : decode cX4_listen 45 = .ok (.iand, 1) := by decide +kernel
theorem dX4_listen_46 : decode cX4_listen 46 = .ok (.iload_n 2, 1) := by decide +kernel
theorem dX4_listen_47 : decode cX4_listen 47 = .ok (.invokevirtual 123, 3) := by decide +kernel
theorem dX4_listen_50 : decode cX4_listen 50 = .ok (.aload_n 0, 1) := by decide +kernel
theorem dX4_listen_51 : decode cX4_listen 51 = .ok (.getfield 29, 3) := by decide +kernel
theorem dX4_listen_54 : decode cX4_listen 54 = .ok (.getfield 127, 3) := by decide +kernel
theorem dX4_listen_57 : decode cX4_listen 57 = .ok (.iload_n 2, 1) := by decide +kernel
theorem dX4_listen_58 : decode cX4_listen 58 = .ok (.iaload, 1) := by decide +kernel
theorem dX4_listen_59 : decode cX4_listen 59 = .ok (.ifCond .eq 18, 3) := by decide +kernel
theorem dX4_listen_62 : decode cX4_listen 62 = .ok (.aload_n 0, 1) := by decide +kernel
theorem dX4_listen_63 : decode cX4_listen 63 = .ok (.iload_n 1, 1) := by decide +kernel
theorem dX4_listen_64 : decode cX4_listen 64 = .ok (.iload_n 3, 1) := by decide +kernel
theorem dX4_listen_65 : decode cX4_listen 65 = .ok (.aload_n 0, 1) := by decide +kernel
theorem dX4_listen_66 : decode cX4_listen 66 = .ok (.getfield 29, 3) := by decide +kernel
theorem dX4_listen_69 : decode cX4_listen 69 = .ok (.getfield 127, 3) := by decide +kernel
theorem dX4_listen_72 : decode cX4_listen 72 = .ok (.iload_n 2, 1) := by decide +kernel
theorem dX4_listen_73 : decode cX4_listen 73 = .ok (.iaload, 1) := by decide +kernel
theorem dX4_listen_74 : decode cX4_listen 74 = .ok (.invokevirtual 130, 3) := by decide +kernel
theorem dX4_listen_77 : decode cX4_listen 77 = .ok (.aload_n 0, 1) := by decide +kernel
theorem dX4_listen_78 : decode cX4_listen 78 = .ok (.getfield 96, 3) := by decide +kernel
theorem dX4_listen_81 : decode cX4_listen 81 = .ok (.iload 4, 2) := by decide +kernel
theorem dX4_listen_83 : decode cX4_listen 83 = .ok (.iand, 1) := by decide +kernel
theorem dX4_listen_84 : decode cX4_listen 84 = .ok (.ifCond .eq 15, 3) := by decide +kernel
theorem dX4_listen_87 : decode cX4_listen 87 = .ok (.aload_n 0, 1) := by decide +kernel
theorem dX4_listen_88 : decode cX4_listen 88 = .ok (.iload_n 3, 1) := by decide +kernel
theorem dX4_listen_89 : decode cX4_listen 89 = .ok (.aload_n 0, 1) := by decide +kernel
theorem dX4_listen_90 : decode cX4_listen 90 = .ok (.getfield 96, 3) := by decide +kernel
theorem dX4_listen_93 : decode cX4_listen 93 = .ok (.iload 4, 2) := by decide +kernel
theorem dX4_listen_95 : decode cX4_listen 95 = .ok (.iand, 1) := by decide +kernel
theorem dX4_listen_96 : decode cX4_listen 96 = .ok (.invokevirtual 133, 3) := by decide +kernel
theorem dX4_listen_99 : decode cX4_listen 99 = .ok (.return_, 1) := by decide +kernel
theorem dX4_listenToSteps_0 : decode cX4_listenToSteps 0 = .ok (.iconst 0, 1) := by decide +kernel
theorem dX4_listenToSteps_1 : decode cX4_listenToSteps 1 = .ok (.istore 4, 2) := by decide +kernel
theorem dX4_listenToSteps_3 : decode cX4_listenToSteps 3 = .ok (.iload 4, 2) := by decide +kernel
theorem dX4_listenToSteps_5 : decode cX4_listenToSteps 5 = .ok (.aload_n 0, 1) := by decide +kernel
theorem dX4_listenToSteps_6 : decode cX4_listenToSteps 6 = .ok (.getfield 45, 3) := by decide +kernel
theorem dX4_listenToSteps_9 : decode cX4_listenToSteps 9 = .ok (.getfield 60, 3) := by decide +kernel
theorem dX4_listenToSteps_12 : decode cX4_listenToSteps 12 = .ok (.if_icmp .ge 95, 3) := by decide +kernel
theorem dX4_listenToSteps_15 : decode cX4_listenToSteps 15 = .ok (.iload_n 2, 1) := by decide +kernel
theorem dX4_listenToSteps_16 : decode cX4_listenToSteps 16 = .ok (.iload 4, 2) := by decide +kernel
theorem dX4_listenToSteps_18 : decode cX4_listenToSteps 18 = .ok (.ishr, 1) := by decide +kernel
theorem dX4_listenToSteps_19 : decode cX4_listenToSteps 19 = .ok (.iconst 1, 1) := by decide +kernel
theorem dX4_listenToSteps_20 : decode cX4_listenToSteps 20 = .ok (.iand, 1) := by decide +kernel
theorem dX4_listenToSteps_21 : decode cX4_listenToSteps 21 = .ok (.ifCond .eq 80, 3) := by decide +kernel
theorem dX4_listenToSteps_24 : decode cX4_listenToSteps 24 = .ok (.aload_n 0, 1) := by decide +kernel
theorem dX4_listenToSteps_25 : decode cX4_listenToSteps 25 = .ok (.getfield 45, 3) := by decide +kernel
theorem dX4_listenToSteps_28 : decode cX4_listenToSteps 28 = .ok (.getfield 87, 3) := by decide +kernel
theorem dX4_listenToSteps_31 : decode cX4_listenToSteps 31 = .ok (.iload 4, 2) := by decide +kernel
theorem dX4_listenToSteps_33 : decode cX4_listenToSteps 33 = .ok (.iaload, 1) := by decide +kernel
theorem dX4_listenToSteps_34 : decode cX4_listenToSteps 34 = .ok (.iload_n 3, 1) := by decide +kernel
theorem dX4_listenToSteps_35 : decode cX4_listenToSteps 35 = .ok (.if_icmp .ne 7, 3) := by decide +kernel
theorem dX4_listenToSteps_38 : decode cX4_listenToSteps 38 = .ok (.iconst 1, 1) := by decide +kernel
theorem dX4_listenToSteps_39 : decode cX4_listenToSteps 39 = .ok (.goto 4, 3) := by decide +kernel
theorem dX4_listenToSteps_42 : decode cX4_listenToSteps 42 = .ok (.iconst 0, 1) := by decide +kernel
theorem dX4_listenToSteps_43 : decode cX4_listenToSteps 43 = .ok (.istore 5, 2) := by decide +kernel
theorem dX4_listenToSteps_45 : decode cX4_listenToSteps 45 = .ok (.iload 5, 2) := by decide +kernel
theorem dX4_listenToSteps_47 : decode cX4_listenToSteps 47 = .ok (.ifCond .eq 24, 3) := by decide +kernel
theorem dX4_listenToSteps_50 : decode cX4_listenToSteps 50 = .ok (.aload_n 0, 1) := by decide +kernel
theorem dX4_listenToSteps_51 : decode cX4_listenToSteps 51 = .ok (.getfield 29, 3) := by decide +kernel
theorem dX4_listenToSteps_54 : decode cX4_listenToSteps 54 = .ok (.getfield 136, 3) := by decide +kernel
theorem dX4_listenToSteps_57 : decode cX4_listenToSteps 57 = .ok (.aload_n 0, 1) := by decide +kernel
theorem dX4_listenToSteps_58 : decode cX4_listenToSteps 58 = .ok (.getfield 45, 3) := by decide +kernel
theorem dX4_listenToSteps_61 : decode cX4_listenToSteps 61 = .ok (.getfield 84, 3) := by decide +kernel
theorem dX4_listenToSteps_64 : decode cX4_listenToSteps 64 = .ok (.iload 4, 2) := by decide +kernel
theorem dX4_listenToSteps_66 : decode cX4_listenToSteps 66 = .ok (.iaload, 1) := by decide +kernel
theorem dX4_listenToSteps_67 : decode cX4_listenToSteps 67 = .ok (.aaload, 1) := by decide +kernel
theorem dX4_listenToSteps_68 : decode cX4_listenToSteps 68 = .ok (.goto 21, 3) := by decide +kernel
theorem dX4_listenToSteps_71 : decode cX4_listenToSteps 71 = .ok (.aload_n 0, 1) := by decide +kernel
theorem dX4_listenToSteps_72 : decode cX4_listenToSteps 72 = .ok (.getfield 29, 3) := by decide +kernel
theorem dX4_listenToSteps_75 : decode cX4_listenToSteps 75 = .ok (.getfield 139, 3) := by decide +kernel
theorem dX4_listenToSteps_78 : decode cX4_listenToSteps 78 = .ok (.aload_n 0, 1) := by decide +kernel
theorem dX4_listenToSteps_79 : decode cX4_listenToSteps 79 = .ok (.getfield 45, 3) := by decide +kernel
theorem dX4_listenToSteps_82 : decode cX4_listenToSteps 82 = .ok (.getfield 84, 3) := by decide +kernel
theorem dX4_listenToSteps_85 : decode cX4_listenToSteps 85 = .ok (.iload 4, 2) := by decide +kernel
theorem dX4_listenToSteps_87 : decode cX4_listenToSteps 87 = .ok (.iaload, 1) := by decide +kernel
theorem dX4_listenToSteps_88 : decode cX4_listenToSteps 88 = .ok (.aaload, 1) := by decide +kernel
theorem dX4_listenToSteps_89 : decode cX4_listenToSteps 89 = .ok (.astore 6, 2) := by decide +kernel
theorem dX4_listenToSteps_91 : decode cX4_listenToSteps 91 = .ok (.aload_n 0, 1) := by decide +kernel
theorem dX4_listenToSteps_92 : decode cX4_listenToSteps 92 = .ok (.aload 6, 2) := by decide +kernel
theorem dX4_listenToSteps_94 : decode cX4_listenToSteps 94 = .ok (.iload_n 1, 1) := by decide +kernel
theorem dX4_listenToSteps_95 : decode cX4_listenToSteps 95 = .ok (.iaload, 1) := by decide +kernel
theorem dX4_listenToSteps_96 : decode cX4_listenToSteps 96 = .ok (.iload 4, 2) := by decide +kernel
theorem dX4_listenToSteps_98 : decode cX4_listenToSteps 98 = .ok (.invokevirtual 142, 3) := by decide +kernel
theorem dX4_listenToSteps_101 : decode cX4_listenToSteps 101 = .ok (.iinc 4 1, 3) := by decide +kernel
theorem dX4_listenToSteps_104 : decode cX4_listenToSteps 104 = .ok (.goto (-101), 3) := by decide +kernel
theorem dX4_listenToSteps_107 : decode cX4_listenToSteps 107 = .ok (.return_, 1) := by decide +kernel
theorem dX4_listenToSounds_0 : decode cX4_listenToSounds 0 = .ok (.iconst 0, 1) := by decide +kernel
theorem dX4_listenToSounds_1 : decode cX4_listenToSounds 1 = .ok (.istore 4, 2) := by decide +kernel
theorem dX4_listenToSounds_3 : decode cX4_listenToSounds 3 = .ok (.iload 4, 2) := by decide +kernel
theorem dX4_listenToSounds_5 : decode cX4_listenToSounds 5 = .ok (.aload_n 0, 1) := by decide +kernel
theorem dX4_listenToSounds_6 : decode cX4_listenToSounds 6 = .ok (.getfield 52, 3) := by decide +kernel
theorem dX4_listenToSounds_9 : decode cX4_listenToSounds 9 = .ok (.getfield 145, 3) := by decide +kernel
theorem dX4_listenToSounds_12 : decode cX4_listenToSounds 12 = .ok (.if_icmp .ge 153, 3) := by decide +kernel
theorem dX4_listenToSounds_15 : decode cX4_listenToSounds 15 = .ok (.iload_n 3, 1) := by decide +kernel
theorem dX4_listenToSounds_16 : decode cX4_listenToSounds 16 = .ok (.iload 4, 2) := by decide +kernel
theorem dX4_listenToSounds_18 : decode cX4_listenToSounds 18 = .ok (.ishr, 1) := by decide +kernel
theorem dX4_listenToSounds_19 : decode cX4_listenToSounds 19 = .ok (.iconst 1, 1) := by decide +kernel
theorem dX4_listenToSounds_20 : decode cX4_listenToSounds 20 = .ok (.iand, 1) := by decide +kernel
theorem dX4_listenToSounds_21 : decode cX4_listenToSounds 21 = .ok (.ifCond .ne 6, 3) := by decide +kernel
theorem dX4_listenToSounds_24 : decode cX4_listenToSounds 24 = .ok (.goto 135, 3) := by decide +kernel
theorem dX4_listenToSounds_27 : decode cX4_listenToSounds 27 = .ok (.aload_n 0, 1) := by decide +kernel
theorem dX4_listenToSounds_28 : decode cX4_listenToSounds 28 = .ok (.getfield 52, 3) := by decide +kernel
theorem dX4_listenToSounds_31 : decode cX4_listenToSounds 31 = .ok (.getfield 146, 3) := by decide +kernel
theorem dX4_listenToSounds_34 : decode cX4_listenToSounds 34 = .ok (.iload 4, 2) := by decide +kernel
theorem dX4_listenToSounds_36 : decode cX4_listenToSounds 36 = .ok (.iaload, 1) := by decide +kernel
theorem dX4_listenToSounds_37 : decode cX4_listenToSounds 37 = .ok (.istore 5, 2) := by decide +kernel
theorem dX4_listenToSounds_39 : decode cX4_listenToSounds 39 = .ok (.aload_n 0, 1) := by decide +kernel
theorem dX4_listenToSounds_40 : decode cX4_listenToSounds 40 = .ok (.getfield 52, 3) := by decide +kernel
theorem dX4_listenToSounds_43 : decode cX4_listenToSounds 43 = .ok (.getfield 149, 3) := by decide +kernel
theorem dX4_listenToSounds_46 : decode cX4_listenToSounds 46 = .ok (.iload 4, 2) := by decide +kernel
theorem dX4_listenToSounds_48 : decode cX4_listenToSounds 48 = .ok (.iaload, 1) := by decide +kernel
theorem dX4_listenToSounds_49 : decode cX4_listenToSounds 49 = .ok (.ifCond .ne 27, 3) := by decide +kernel
theorem dX4_listenToSounds_52 : decode cX4_listenToSounds 52 = .ok (.aload_n 0, 1) := by decide +kernel
theorem dX4_listenToSounds_53 : decode cX4_listenToSounds 53 = .ok (.aload_n 0, 1) := by decide +kernel
theorem dX4_listenToSounds_54 : decode cX4_listenToSounds 54 = .ok (.getfield 29, 3) := by decide +kernel
theorem dX4_listenToSounds_57 : decode cX4_listenToSounds 57 = .ok (.getfield 152, 3) := by decide +kernel
theorem dX4_listenToSounds_60 : decode cX4_listenToSounds 60 = .ok (.iload 4, 2) := by decide +kernel
theorem dX4_listenToSounds_62 : decode cX4_listenToSounds 62 = .ok (.aaload, 1) := by decide +kernel
theorem dX4_listenToSounds_63 : decode cX4_listenToSounds 63 = .ok (.iload_n 2, 1) := by decide +kernel
theorem dX4_listenToSounds_64 : decode cX4_listenToSounds 64 = .ok (.iaload, 1) := by decide +kernel
theorem dX4_listenToSounds_65 : decode cX4_listenToSounds 65 = .ok (.bipush 10, 2) := by decide +kernel
theorem dX4_listenToSounds_67 : decode cX4_listenToSounds 67 = .ok (.iload 4, 2) := by decide +kernel
theorem dX4_listenToSounds_69 : decode cX4_listenToSounds 69 = .ok (.iadd, 1) := by decide +kernel
theorem dX4_listenToSounds_70 : decode cX4_listenToSounds 70 = .ok (.invokevirtual 142, 3) := by decide +kernel
theorem dX4_listenToSounds_73 : decode cX4_listenToSounds 73 = .ok (.goto 86, 3) := by decide +kernel
theorem dX4_listenToSounds_76 : decode cX4_listenToSounds 76 = .ok (.iload 5, 2) := by decide +kernel
theorem dX4_listenToSounds_78 : decode cX4_listenToSounds 78 = .ok (.iload_n 1, 1) := by decide +kernel
theorem dX4_listenToSounds_79 : decode cX4_listenToSounds 79 = .ok (.if_icmp .eq 80, 3) := by decide +kernel
theorem dX4_listenToSounds_82 : decode cX4_listenToSounds 82 = .ok (.aload_n 0, 1) := by decide +kernel
theorem dX4_listenToSounds_83 : decode cX4_listenToSounds 83 = .ok (.getfield 45, 3) := by decide +kernel
theorem dX4_listenToSounds_86 : decode cX4_listenToSounds 86 = .ok (.getfield 84, 3) := by decide +kernel
theorem dX4_listenToSounds_89 : decode cX4_listenToSounds 89 = .ok (.iload 5, 2) := by decide +kernel
theorem dX4_listenToSounds_91 : decode cX4_listenToSounds 91 = .ok (.iaload, 1) := by decide +kernel
theorem dX4_listenToSounds_92 : decode cX4_listenToSounds 92 = .ok (.iconst (-1), 1) := by decide +kernel
theorem dX4_listenToSounds_93 : decode cX4_listenToSounds 93 = .ok (.if_icmp .eq 66, 3) := by decide +kernel
theorem dX4_listenToSounds_96 : decode cX4_listenToSounds 96 = .ok (.aload_n 0, 1) := by decide +kernel
theorem dX4_listenToSounds_97 : decode cX4_listenToSounds 97 = .ok (.getfield 52, 3) := by decide +kernel
theorem dX4_listenToSounds_100 : decode cX4_listenToSounds 100 = .ok (.getfield 149, 3) := by decide +kernel
theorem dX4_listenToSounds_103 : decode cX4_listenToSounds 103 = .ok (.iload 4, 2) := by decide +kernel
theorem dX4_listenToSounds_105 : decode cX4_listenToSounds 105 = .ok (.iaload, 1) := by decide +kernel
theorem dX4_listenToSounds_106 : decode cX4_listenToSounds 106 = .ok (.iconst 2, 1) := by decide +kernel
theorem dX4_listenToSounds_107 : decode cX4_listenToSounds 107 = .ok (.if_icmp .ne 15, 3) := by decide +kernel
theorem dX4_listenToSounds_110 : decode cX4_listenToSounds 110 = .ok (.aload_n 0, 1) := by decide +kernel
theorem dX4_listenToSounds_111 : decode cX4_listenToSounds 111 = .ok (.getfield 93, 3) := by decide +kernel
theorem dX4_listenToSounds_114 : decode cX4_listenToSounds 114 = .ok (.iload 5, 2) := by decide +kernel
theorem dX4_listenToSounds_116 : decode cX4_listenToSounds 116 = .ok (.ishr, 1) := by decide +kernel
theorem dX4_listenToSounds_117 : decode cX4_listenToSounds 117 = .ok (.iconst 1, 1) := by decide +kernel
theorem dX4_listenToSounds_118 : decode cX4_listenToSounds 118 = .ok (.iand, 1) := by decide +kernel
theorem dX4_listenToSounds_119 : decode cX4_listenToSounds 119 = .ok (.ifCond .eq 40, 3) := by decide +kernel
theorem dX4_listenToSounds_122 : decode cX4_listenToSounds 122 = .ok (.aload_n 0, 1) := by decide +kernel
theorem dX4_listenToSounds_123 : decode cX4_listenToSounds 123 = .ok (.aload_n 0, 1) := by decide +kernel
theorem dX4_listenToSounds_124 : decode cX4_listenToSounds 124 = .ok (.getfield 52, 3) := by decide +kernel
theorem dX4_listenToSounds_127 : decode cX4_listenToSounds 127 = .ok (.getfield 155, 3) := by decide +kernel
theorem dX4_listenToSounds_130 : decode cX4_listenToSounds 130 = .ok (.iload 4, 2) := by decide +kernel
theorem dX4_listenToSounds_132 : decode cX4_listenToSounds 132 = .ok (.iaload, 1) := by decide +kernel
theorem dX4_listenToSounds_133 : decode cX4_listenToSounds 133 = .ok (.aload_n 0, 1) := by decide +kernel
theorem dX4_listenToSounds_134 : decode cX4_listenToSounds 134 = .ok (.getfield 29, 3) := by decide +kernel
theorem dX4_listenToSounds_137 : decode cX4_listenToSounds 137 = .ok (.getfield 158, 3) := by decide +kernel
theorem dX4_listenToSounds_140 : decode cX4_listenToSounds 140 = .ok (.aload_n 0, 1) := by decide +kernel
theorem dX4_listenToSounds_141 : decode cX4_listenToSounds 141 = .ok (.getfield 45, 3) := by decide +kernel
theorem dX4_listenToSounds_144 : decode cX4_listenToSounds 144 = .ok (.getfield 84, 3) := by decide +kernel
theorem dX4_listenToSounds_147 : decode cX4_listenToSounds 147 = .ok (.iload 5, 2) := by decide +kernel
theorem dX4_listenToSounds_149 : decode cX4_listenToSounds 149 = .ok (.iaload, 1) := by decide +kernel
theorem dX4_listenToSounds_150 : decode cX4_listenToSounds 150 = .ok (.aaload, 1) := by decide +kernel
theorem dX4_listenToSounds_151 : decode cX4_listenToSounds 151 = .ok (.iload_n 2, 1) := by decide +kernel
theorem dX4_listenToSounds_152 : decode cX4_listenToSounds 152 = .ok (.iaload, 1) := by decide +kernel
theorem dX4_listenToSounds_153 : decode cX4_listenToSounds 153 = .ok (.isub, 1) := by decide +kernel
theorem dX4_listenToSounds_154 : decode cX4_listenToSounds 154 = .ok (.iload 5, 2) := by decide +kernel
theorem dX4_listenToSounds_156 : decode cX4_listenToSounds 156 = .ok (.invokevirtual 142, 3) := by decide +kernel
theorem dX4_listenToSounds_159 : decode cX4_listenToSounds 159 = .ok (.iinc 4 1, 3) := by decide +kernel
theorem dX4_listenToSounds_162 : decode cX4_listenToSounds 162 = .ok (.goto (-159), 3) := by decide +kernel
theorem dX4_listenToSounds_165 : decode cX4_listenToSounds 165 = .ok (.return_, 1) := by decide +kernel
theorem dX4_listenToSnores_0 : decode cX4_listenToSnores 0 = .ok (.iconst 0, 1) := by decide +kernel
theorem dX4_listenToSnores_1 : decode cX4_listenToSnores 1 = .ok (.istore_n 3, 1) := by decide +kernel
theorem dX4_listenToSnores_2 : decode cX4_listenToSnores 2 = .ok (.iload_n 3, 1) := by decide +kernel
theorem dX4_listenToSnores_3 : decode cX4_listenToSnores 3 = .ok (.aload_n 0, 1) := by decide +kernel
theorem dX4_listenToSnores_4 : decode cX4_listenToSnores 4 = .ok (.getfield 45, 3) := by decide +kernel
theorem dX4_listenToSnores_7 : decode cX4_listenToSnores 7 = .ok (.getfield 60, 3) := by decide +kernel
theorem dX4_listenToSnores_10 : decode cX4_listenToSnores 10 = .ok (.if_icmp .ge 51, 3) := by decide +kernel
theorem dX4_listenToSnores_13 : decode cX4_listenToSnores 13 = .ok (.iload_n 2, 1) := by decide +kernel
theorem dX4_listenToSnores_14 : decode cX4_listenToSnores 14 = .ok (.iload_n 3, 1) := by decide +kernel
theorem dX4_listenToSnores_15 : decode cX4_listenToSnores 15 = .ok (.ishr, 1) := by decide +kernel
theorem dX4_listenToSnores_16 : decode cX4_listenToSnores 16 = .ok (.iconst 1, 1) := by decide +kernel
theorem dX4_listenToSnores_17 : decode cX4_listenToSnores 17 = .ok (.iand, 1) := by decide +kernel
theorem dX4_listenToSnores_18 : decode cX4_listenToSnores 18 = .ok (.ifCond .eq 37, 3) := by decide +kernel
theorem dX4_listenToSnores_21 : decode cX4_listenToSnores 21 = .ok (.aload_n 0, 1) := by decide +kernel
theorem dX4_listenToSnores_22 : decode cX4_listenToSnores 22 = .ok (.aload_n 0, 1) := by decide +kernel
theorem dX4_listenToSnores_23 : decode cX4_listenToSnores 23 = .ok (.getfield 45, 3) := by decide +kernel
theorem dX4_listenToSnores_26 : decode cX4_listenToSnores 26 = .ok (.getfield 161, 3) := by decide +kernel
theorem dX4_listenToSnores_29 : decode cX4_listenToSnores 29 = .ok (.iload_n 3, 1) := by decide +kernel
theorem dX4_listenToSnores_30 : decode cX4_listenToSnores 30 = .ok (.iaload, 1) := by decide +kernel
theorem dX4_listenToSnores_31 : decode cX4_listenToSnores 31 = .ok (.aload_n 0, 1) := by decide +kernel
theorem dX4_listenToSnores_32 : decode cX4_listenToSnores 32 = .ok (.getfield 29, 3) := by decide +kernel
theorem dX4_listenToSnores_35 : decode cX4_listenToSnores 35 = .ok (.getfield 158, 3) := by decide +kernel
theorem dX4_listenToSnores_38 : decode cX4_listenToSnores 38 = .ok (.aload_n 0, 1) := by decide +kernel
theorem dX4_listenToSnores_39 : decode cX4_listenToSnores 39 = .ok (.getfield 45, 3) := by decide +kernel
theorem dX4_listenToSnores_42 : decode cX4_listenToSnores 42 = .ok (.getfield 84, 3) := by decide +kernel
theorem dX4_listenToSnores_45 : decode cX4_listenToSnores 45 = .ok (.iload_n 3, 1) := by decide +kernel
theorem dX4_listenToSnores_46 : decode cX4_listenToSnores 46 = .ok (.iaload, 1) := by decide +kernel
theorem dX4_listenToSnores_47 : decode cX4_listenToSnores 47 = .ok (.aaload, 1) := by decide +kernel
theorem dX4_listenToSnores_48 : decode cX4_listenToSnores 48 = .ok (.iload_n 1, 1) := by decide +kernel
theorem dX4_listenToSnores_49 : decode cX4_listenToSnores 49 = .ok (.iaload, 1) := by decide +kernel
theorem dX4_listenToSnores_50 : decode cX4_listenToSnores 50 = .ok (.isub, 1) := by decide +kernel
theorem dX4_listenToSnores_51 : decode cX4_listenToSnores 51 = .ok (.iload_n 3, 1) := by decide +kernel
theorem dX4_listenToSnores_52 : decode cX4_listenToSnores 52 = .ok (.invokevirtual 142, 3) := by decide +kernel
theorem dX4_listenToSnores_55 : decode cX4_listenToSnores 55 = .ok (.iinc 3 1, 3) := by decide +kernel
theorem dX4_listenToSnores_58 : decode cX4_listenToSnores 58 = .ok (.goto (-56), 3) := by decide +kernel
theorem dX4_listenToSnores_61 : decode cX4_listenToSnores 61 = .ok (.return_, 1) := by decide +kernel
theorem dX4_hear_0 : decode cX4_hear 0 = .ok (.iload_n 1, 1) := by decide +kernel
theorem dX4_hear_1 : decode cX4_hear 1 = .ok (.aload_n 0, 1) := by decide +kernel
theorem dX4_hear_2 : decode cX4_hear 2 = .ok (.getfield 103, 3) := by decide +kernel
theorem dX4_hear_5 : decode cX4_hear 5 = .ok (.if_icmp .le 13, 3) := by decide +kernel
theorem dX4_hear_8 : decode cX4_hear 8 = .ok (.aload_n 0, 1) := by decide +kernel
theorem dX4_hear_9 : decode cX4_hear 9 = .ok (.iload_n 1, 1) := by decide +kernel
theorem dX4_hear_10 : decode cX4_hear 10 = .ok (.putfield 103, 3) := by decide +kernel
theorem dX4_hear_13 : decode cX4_hear 13 = .ok (.aload_n 0, 1) := by decide +kernel
theorem dX4_hear_14 : decode cX4_hear 14 = .ok (.iload_n 2, 1) := by decide +kernel
theorem dX4_hear_15 : decode cX4_hear 15 = .ok (.putfield 117, 3) := by decide +kernel
theorem dX4_hear_18 : decode cX4_hear 18 = .ok (.return_, 1) := by decide +kernel
theorem dX4_worst_0 : decode cX4_worst 0 = .ok (.aload_n 0, 1) := by decide +kernel
theorem dX4_worst_1 : decode cX4_worst 1 = .ok (.getfield 45, 3) := by decide +kernel
theorem dX4_worst_4 : decode cX4_worst 4 = .ok (.getfield 60, 3) := by decide +kernel
theorem dX4_worst_7 : decode cX4_worst 7 = .ok (.ifCond .ne 7, 3) := by decide +kernel
theorem dX4_worst_10 : decode cX4_worst 10 = .ok (.iconst 0, 1) := by decide +kernel
theorem dX4_worst_11 : decode cX4_worst 11 = .ok (.goto 5, 3) := by decide +kernel
theorem dX4_worst_14 : decode cX4_worst 14 = .ok (.bipush 40, 2) := by decide +kernel
theorem dX4_worst_16 : decode cX4_worst 16 = .ok (.istore_n 1, 1) := by decide +kernel
theorem dX4_worst_17 : decode cX4_worst 17 = .ok (.iconst 0, 1) := by decide +kernel
theorem dX4_worst_18 : decode cX4_worst 18 = .ok (.istore_n 2, 1) := by decide +kernel
theorem dX4_worst_19 : decode cX4_worst 19 = .ok (.iload_n 2, 1) := by decide +kernel
theorem dX4_worst_20 : decode cX4_worst 20 = .ok (.aload_n 0, 1) := by decide +kernel
theorem dX4_worst_21 : decode cX4_worst 21 = .ok (.getfield 45, 3) := by decide +kernel
theorem dX4_worst_24 : decode cX4_worst 24 = .ok (.getfield 60, 3) := by decide +kernel
theorem dX4_worst_27 : decode cX4_worst 27 = .ok (.if_icmp .ge 20, 3) := by decide +kernel
theorem dX4_worst_30 : decode cX4_worst 30 = .ok (.iload_n 1, 1) := by decide +kernel
theorem dX4_worst_31 : decode cX4_worst 31 = .ok (.aload_n 0, 1) := by decide +kernel
theorem dX4_worst_32 : decode cX4_worst 32 = .ok (.getfield 9, 3) := by decide +kernel
theorem dX4_worst_35 : decode cX4_worst 35 = .ok (.iload_n 2, 1) := by decide +kernel
theorem dX4_worst_36 : decode cX4_worst 36 = .ok (.iaload, 1) := by decide +kernel
theorem dX4_worst_37 : decode cX4_worst 37 = .ok (.invokestatic 164, 3) := by decide +kernel
theorem dX4_worst_40 : decode cX4_worst 40 = .ok (.istore_n 1, 1) := by decide +kernel
theorem dX4_worst_41 : decode cX4_worst 41 = .ok (.iinc 2 1, 3) := by decide +kernel
theorem dX4_worst_44 : decode cX4_worst 44 = .ok (.goto (-25), 3) := by decide +kernel
theorem dX4_worst_47 : decode cX4_worst 47 = .ok (.iload_n 1, 1) := by decide +kernel
theorem dX4_worst_48 : decode cX4_worst 48 = .ok (.ireturn, 1) := by decide +kernel
theorem dX4_good_0 : decode cX4_good 0 = .ok (.iconst 0, 1) := by decide +kernel
theorem dX4_good_1 : decode cX4_good 1 = .ok (.istore_n 1, 1) := by decide +kernel
theorem dX4_good_2 : decode cX4_good 2 = .ok (.iconst 0, 1) := by decide +kernel
theorem dX4_good_3 : decode cX4_good 3 = .ok (.istore_n 2, 1) := by decide +kernel
theorem dX4_good_4 : decode cX4_good 4 = .ok (.iload_n 2, 1) := by decide +kernel
theorem dX4_good_5 : decode cX4_good 5 = .ok (.aload_n 0, 1) := by decide +kernel
theorem dX4_good_6 : decode cX4_good 6 = .ok (.getfield 45, 3) := by decide +kernel
theorem dX4_good_9 : decode cX4_good 9 = .ok (.getfield 60, 3) := by decide +kernel
theorem dX4_good_12 : decode cX4_good 12 = .ok (.if_icmp .ge 18, 3) := by decide +kernel
theorem dX4_good_15 : decode cX4_good 15 = .ok (.iload_n 1, 1) := by decide +kernel
theorem dX4_good_16 : decode cX4_good 16 = .ok (.aload_n 0, 1) := by decide +kernel
theorem dX4_good_17 : decode cX4_good 17 = .ok (.getfield 9, 3) := by decide +kernel
theorem dX4_good_20 : decode cX4_good 20 = .ok (.iload_n 2, 1) := by decide +kernel
theorem dX4_good_21 : decode cX4_good 21 = .ok (.iaload, 1) := by decide +kernel
theorem dX4_good_22 : decode cX4_good 22 = .ok (.iadd, 1) := by decide +kernel
theorem dX4_good_23 : decode cX4_good 23 = .ok (.istore_n 1, 1) := by decide +kernel
theorem dX4_good_24 : decode cX4_good 24 = .ok (.iinc 2 1, 3) := by decide +kernel
theorem dX4_good_27 : decode cX4_good 27 = .ok (.goto (-23), 3) := by decide +kernel
theorem dX4_good_30 : decode cX4_good 30 = .ok (.iload_n 1, 1) := by decide +kernel
theorem dX4_good_31 : decode cX4_good 31 = .ok (.ireturn, 1) := by decide +kernel
theorem dX4_isBetter_0 : decode cX4_isBetter 0 = .ok (.aload_n 0, 1) := by decide +kernel
theorem dX4_isBetter_1 : decode cX4_isBetter 1 = .ok (.invokevirtual 167, 3) := by decide +kernel
theorem dX4_isBetter_4 : decode cX4_isBetter 4 = .ok (.istore_n 3, 1) := by decide +kernel
theorem dX4_isBetter_5 : decode cX4_isBetter 5 = .ok (.iload_n 3, 1) := by decide +kernel
theorem dX4_isBetter_6 : decode cX4_isBetter 6 = .ok (.iload_n 1, 1) := by decide +kernel
theorem dX4_isBetter_7 : decode cX4_isBetter 7 = .ok (.if_icmp .gt 16, 3) := by decide +kernel
theorem dX4_isBetter_10 : decode cX4_isBetter 10 = .ok (.iload_n 3, 1) := by decide +kernel
theorem dX4_isBetter_11 : decode cX4_isBetter 11 = .ok (.iload_n 1, 1) := by decide +kernel
theorem dX4_isBetter_12 : decode cX4_isBetter 12 = .ok (.if_icmp .ne 15, 3) := by decide +kernel
theorem dX4_isBetter_15 : decode cX4_isBetter 15 = .ok (.aload_n 0, 1) := by decide +kernel
theorem dX4_isBetter_16 : decode cX4_isBetter 16 = .ok (.invokevirtual 171, 3) := by decide +kernel
theorem dX4_isBetter_19 : decode cX4_isBetter 19 = .ok (.iload_n 2, 1) := by decide +kernel
theorem dX4_isBetter_20 : decode cX4_isBetter 20 = .ok (.if_icmp .le 7, 3) := by decide +kernel
theorem dX4_isBetter_23 : decode cX4_isBetter 23 = .ok (.iconst 1, 1) := by decide +kernel
theorem dX4_isBetter_24 : decode cX4_isBetter 24 = .ok (.goto 4, 3) := by decide +kernel
theorem dX4_isBetter_27 : decode cX4_isBetter 27 = .ok (.iconst 0, 1) := by decide +kernel
theorem dX4_isBetter_28 : decode cX4_isBetter 28 = .ok (.ireturn, 1) := by decide +kernel
theorem dX4_lack_0 : decode cX4_lack 0 = .ok (.iconst 0, 1) := by decide +kernel
theorem dX4_lack_1 : decode cX4_lack 1 = .ok (.bipush 24, 2) := by decide +kernel
theorem dX4_lack_3 : decode cX4_lack 3 = .ok (.aload_n 0, 1) := by decide +kernel
theorem dX4_lack_4 : decode cX4_lack 4 = .ok (.getfield 9, 3) := by decide +kernel
theorem dX4_lack_7 : decode cX4_lack 7 = .ok (.iload_n 1, 1) := by decide +kernel
theorem dX4_lack_8 : decode cX4_lack 8 = .ok (.iaload, 1) := by decide +kernel
theorem dX4_lack_9 : decode cX4_lack 9 = .ok (.isub, 1) := by decide +kernel
theorem dX4_lack_10 : decode cX4_lack 10 = .ok (.invokestatic 109, 3) := by decide +kernel
theorem dX4_lack_13 : decode cX4_lack 13 = .ok (.ireturn, 1) := by decide +kernel
theorem dX4_greatestLackOfTwo_0 : decode cX4_greatestLackOfTwo 0 = .ok (.iconst 0, 1) := by decide +kernel
theorem dX4_greatestLackOfTwo_1 : decode cX4_greatestLackOfTwo 1 = .ok (.istore_n 1, 1) := by decide +kernel
theorem dX4_greatestLackOfTwo_2 : decode cX4_greatestLackOfTwo 2 = .ok (.iconst 0, 1) := by decide +kernel
theorem dX4_greatestLackOfTwo_3 : decode cX4_greatestLackOfTwo 3 = .ok (.istore_n 2, 1) := by decide +kernel
theorem dX4_greatestLackOfTwo_4 : decode cX4_greatestLackOfTwo 4 = .ok (.iload_n 2, 1) := by decide +kernel
theorem dX4_greatestLackOfTwo_5 : decode cX4_greatestLackOfTwo 5 = .ok (.aload_n 0, 1) := by decide +kernel
theorem dX4_greatestLackOfTwo_6 : decode cX4_greatestLackOfTwo 6 = .ok (.getfield 45, 3) := by decide +kernel
theorem dX4_greatestLackOfTwo_9 : decode cX4_greatestLackOfTwo 9 = .ok (.getfield 60, 3) := by decide +kernel
theorem dX4_greatestLackOfTwo_12 : decode cX4_greatestLackOfTwo 12 = .ok (.if_icmp .ge 46, 3) := by decide +kernel
theorem dX4_greatestLackOfTwo_15 : decode cX4_greatestLackOfTwo 15 = .ok (.iload_n 2, 1) := by decide +kernel
theorem dX4_greatestLackOfTwo_16 : decode cX4_greatestLackOfTwo 16 = .ok (.iconst 1, 1) := by decide +kernel
theorem dX4_greatestLackOfTwo_17 : decode cX4_greatestLackOfTwo 17 = .ok (.iadd, 1) := by decide +kernel
theorem dX4_greatestLackOfTwo_18 : decode cX4_greatestLackOfTwo 18 = .ok (.istore_n 3, 1) := by decide +kernel
theorem dX4_greatestLackOfTwo_19 : decode cX4_greatestLackOfTwo 19 = .ok (.iload_n 3, 1) := by decide +kernel
theorem dX4_greatestLackOfTwo_20 : decode cX4_greatestLackOfTwo 20 = .ok (.aload_n 0, 1) := by decide +kernel
theorem dX4_greatestLackOfTwo_21 : decode cX4_greatestLackOfTwo 21 = .ok (.getfield 45, 3) := by decide +kernel
theorem dX4_greatestLackOfTwo_24 : decode cX4_greatestLackOfTwo 24 = .ok (.getfield 60, 3) := by decide +kernel
theorem dX4_greatestLackOfTwo_27 : decode cX4_greatestLackOfTwo 27 = .ok (.if_icmp .ge 25, 3) := by decide +kernel
theorem dX4_greatestLackOfTwo_30 : decode cX4_greatestLackOfTwo 30 = .ok (.iload_n 1, 1) := by decide +kernel
theorem dX4_greatestLackOfTwo_31 : decode cX4_greatestLackOfTwo 31 = .ok (.aload_n 0, 1) := by decide +kernel
theorem dX4_greatestLackOfTwo_32 : decode cX4_greatestLackOfTwo 32 = .ok (.iload_n 2, 1) := by decide +kernel
theorem dX4_greatestLackOfTwo_33 : decode cX4_greatestLackOfTwo 33 = .ok (.invokevirtual 174, 3) := by decide +kernel
theorem dX4_greatestLackOfTwo_36 : decode cX4_greatestLackOfTwo 36 = .ok (.aload_n 0, 1) := by decide +kernel
theorem dX4_greatestLackOfTwo_37 : decode cX4_greatestLackOfTwo 37 = .ok (.iload_n 3, 1) := by decide +kernel
theorem dX4_greatestLackOfTwo_38 : decode cX4_greatestLackOfTwo 38 = .ok (.invokevirtual 174, 3) := by decide +kernel
theorem dX4_greatestLackOfTwo_41 : decode cX4_greatestLackOfTwo 41 = .ok (.iadd, 1) := by decide +kernel
theorem dX4_greatestLackOfTwo_42 : decode cX4_greatestLackOfTwo 42 = .ok (.invokestatic 109, 3) := by decide +kernel
theorem dX4_greatestLackOfTwo_45 : decode cX4_greatestLackOfTwo 45 = .ok (.istore_n 1, 1) := by decide +kernel
theorem dX4_greatestLackOfTwo_46 : decode cX4_greatestLackOfTwo 46 = .ok (.iinc 3 1, 3) := by decide +kernel
theorem dX4_greatestLackOfTwo_49 : decode cX4_greatestLackOfTwo 49 = .ok (.goto (-30), 3) := by decide +kernel
theorem dX4_greatestLackOfTwo_52 : decode cX4_greatestLackOfTwo 52 = .ok (.iinc 2 1, 3) := by decide +kernel
theorem dX4_greatestLackOfTwo_55 : decode cX4_greatestLackOfTwo 55 = .ok (.goto (-51), 3) := by decide +kernel
theorem dX4_greatestLackOfTwo_58 : decode cX4_greatestLackOfTwo 58 = .ok (.iload_n 1, 1) := by decide +kernel
theorem dX4_greatestLackOfTwo_59 : decode cX4_greatestLackOfTwo 59 = .ok (.ireturn, 1) := by decide +kernel
theorem dX4_wakingsBy_0 : decode cX4_wakingsBy 0 = .ok (.iconst 0, 1) := by decide +kernel
theorem dX4_wakingsBy_1 : decode cX4_wakingsBy 1 = .ok (.istore_n 3, 1) := by decide +kernel
theorem dX4_wakingsBy_2 : decode cX4_wakingsBy 2 = .ok (.iconst 0, 1) := by decide +kernel
theorem dX4_wakingsBy_3 : decode cX4_wakingsBy 3 = .ok (.istore 4, 2) := by decide +kernel
theorem dX4_wakingsBy_5 : decode cX4_wakingsBy 5 = .ok (.iload 4, 2) := by decide +kernel
theorem dX4_wakingsBy_7 : decode cX4_wakingsBy 7 = .ok (.aload_n 0, 1) := by decide +kernel
theorem dX4_wakingsBy_8 : decode cX4_wakingsBy 8 = .ok (.getfield 15, 3) := by decide +kernel
theorem dX4_wakingsBy_11 : decode cX4_wakingsBy 11 = .ok (.iload_n 2, 1) := by decide +kernel
theorem dX4_wakingsBy_12 : decode cX4_wakingsBy 12 = .ok (.iaload, 1) := by decide +kernel
theorem dX4_wakingsBy_13 : decode cX4_wakingsBy 13 = .ok (.if_icmp .ge 28, 3) := by decide +kernel
theorem dX4_wakingsBy_16 : decode cX4_wakingsBy 16 = .ok (.aload_n 0, 1) := by decide +kernel
theorem dX4_wakingsBy_17 : decode cX4_wakingsBy 17 = .ok (.getfield 20, 3) := by decide +kernel
theorem dX4_wakingsBy_20 : decode cX4_wakingsBy 20 = .ok (.iload_n 2, 1) := by decide +kernel
theorem dX4_wakingsBy_21 : decode cX4_wakingsBy 21 = .ok (.aaload, 1) := by decide +kernel
theorem dX4_wakingsBy_22 : decode cX4_wakingsBy 22 = .ok (.iload 4, 2) := by decide +kernel
theorem dX4_wakingsBy_24 : decode cX4_wakingsBy 24 = .ok (.iaload, 1) := by decide +kernel
theorem dX4_wakingsBy_25 : decode cX4_wakingsBy 25 = .ok (.bipush 100, 2) := by decide +kernel
theorem dX4_wakingsBy_27 : decode cX4_wakingsBy 27 = .ok (.irem, 1) := by decide +kernel
theorem dX4_wakingsBy_28 : decode cX4_wakingsBy 28 = .ok (.iload_n 1, 1) := by decide +kernel
theorem dX4_wakingsBy_29 : decode cX4_wakingsBy 29 = .ok (.if_icmp .ne 6, 3) := by decide +kernel
theorem dX4_wakingsBy_32 : decode cX4_wakingsBy 32 = .ok (.iinc 3 1, 3) := by decide +kernel
theorem dX4_wakingsBy_35 : decode cX4_wakingsBy 35 = .ok (.iinc 4 1, 3) := by decide +kernel
theorem dX4_wakingsBy_38 : decode cX4_wakingsBy 38 = .ok (.goto (-33), 3) := by decide +kernel
theorem dX4_wakingsBy_41 : decode cX4_wakingsBy 41 = .ok (.iload_n 3, 1) := by decide +kernel
theorem dX4_wakingsBy_42 : decode cX4_wakingsBy 42 = .ok (.ireturn, 1) := by decide +kernel
theorem dX4_wakingsTogether_0 : decode cX4_wakingsTogether 0 = .ok (.iconst 0, 1) := by decide +kernel
theorem dX4_wakingsTogether_1 : decode cX4_wakingsTogether 1 = .ok (.istore_n 2, 1) := by decide +kernel
theorem dX4_wakingsTogether_2 : decode cX4_wakingsTogether 2 = .ok (.iconst 0, 1) := by decide +kernel
theorem dX4_wakingsTogether_3 : decode cX4_wakingsTogether 3 = .ok (.istore_n 3, 1) := by decide +kernel
theorem dX4_wakingsTogether_4 : decode cX4_wakingsTogether 4 = .ok (.iload_n 3, 1) := by decide +kernel
theorem dX4_wakingsTogether_5 : decode cX4_wakingsTogether 5 = .ok (.aload_n 0, 1) := by decide +kernel
theorem dX4_wakingsTogether_6 : decode cX4_wakingsTogether 6 = .ok (.getfield 45, 3) := by decide +kernel
theorem dX4_wakingsTogether_9 : decode cX4_wakingsTogether 9 = .ok (.getfield 60, 3) := by decide +kernel
theorem dX4_wakingsTogether_12 : decode cX4_wakingsTogether 12 = .ok (.if_icmp .ge 60, 3) := by decide +kernel
theorem dX4_wakingsTogether_15 : decode cX4_wakingsTogether 15 = .ok (.iconst 0, 1) := by decide +kernel
theorem dX4_wakingsTogether_16 : decode cX4_wakingsTogether 16 = .ok (.istore 4, 2) := by decide +kernel
theorem dX4_wakingsTogether_18 : decode cX4_wakingsTogether 18 = .ok (.iload 4, 2) := by decide +kernel
theorem dX4_wakingsTogether_20 : decode cX4_wakingsTogether 20 = .ok (.aload_n 0, 1) := by decide +kernel
theorem dX4_wakingsTogether_21 : decode cX4_wakingsTogether 21 = .ok (.getfield 45, 3) := by decide +kernel
theorem dX4_wakingsTogether_24 : decode cX4_wakingsTogether 24 = .ok (.getfield 60, 3) := by decide +kernel
theorem dX4_wakingsTogether_27 : decode cX4_wakingsTogether 27 = .ok (.if_icmp .ge 39, 3) := by decide +kernel
theorem dX4_wakingsTogether_30 : decode cX4_wakingsTogether 30 = .ok (.iload_n 3, 1) := by decide +kernel
theorem dX4_wakingsTogether_31 : decode cX4_wakingsTogether 31 = .ok (.iload 4, 2) := by decide +kernel
theorem dX4_wakingsTogether_33 : decode cX4_wakingsTogether 33 = .ok (.if_icmp .eq 27, 3) := by decide +kernel
theorem dX4_wakingsTogether_36 : decode cX4_wakingsTogether 36 = .ok (.iload_n 1, 1) := by decide +kernel
theorem dX4_wakingsTogether_37 : decode cX4_wakingsTogether 37 = .ok (.iload_n 3, 1) := by decide +kernel
theorem dX4_wakingsTogether_38 : decode cX4_wakingsTogether 38 = .ok (.ishr, 1) := by decide +kernel
theorem dX4_wakingsTogether_39 : decode cX4_wakingsTogether 39 = .ok (.iconst 1, 1) := by decide +kernel
theorem dX4_wakingsTogether_40 : decode cX4_wakingsTogether 40 = .ok (.iand, 1) := by decide +kernel
theorem dX4_wakingsTogether_41 : decode cX4_wakingsTogether 41 = .ok (.iload_n 1, 1) := by decide +kernel
theorem dX4_wakingsTogether_42 : decode cX4_wakingsTogether 42 = .ok (.iload 4, 2) := by decide +kernel
theorem dX4_wakingsTogether_44 : decode cX4_wakingsTogether 44 = .ok (.ishr, 1) := by decide +kernel
theorem dX4_wakingsTogether_45 : decode cX4_wakingsTogether 45 = .ok (.iconst 1, 1) := by decide +kernel
theorem dX4_wakingsTogether_46 : decode cX4_wakingsTogether 46 = .ok (.iand, 1) := by decide +kernel
theorem dX4_wakingsTogether_47 : decode cX4_wakingsTogether 47 = .ok (.if_icmp .ne 13, 3) := by decide +kernel
theorem dX4_wakingsTogether_50 : decode cX4_wakingsTogether 50 = .ok (.iload_n 2, 1) := by decide +kernel
theorem dX4_wakingsTogether_51 : decode cX4_wakingsTogether 51 = .ok (.aload_n 0, 1) := by decide +kernel
theorem dX4_wakingsTogether_52 : decode cX4_wakingsTogether 52 = .ok (.iload_n 3, 1) := by decide +kernel
theorem dX4_wakingsTogether_53 : decode cX4_wakingsTogether 53 = .ok (.iload 4, 2) := by decide +kernel
theorem dX4_wakingsTogether_55 : decode cX4_wakingsTogether 55 = .ok (.invokevirtual 178, 3) := by decide +kernel
theorem dX4_wakingsTogether_58 : decode cX4_wakingsTogether 58 = .ok (.iadd, 1) := by decide +kernel
theorem dX4_wakingsTogether_59 : decode cX4_wakingsTogether 59 = .ok (.istore_n 2, 1) := by decide +kernel
theorem dX4_wakingsTogether_60 : decode cX4_wakingsTogether 60 = .ok (.iinc 4 1, 3) := by decide +kernel
theorem dX4_wakingsTogether_63 : decode cX4_wakingsTogether 63 = .ok (.goto (-45), 3) := by decide +kernel
theorem dX4_wakingsTogether_66 : decode cX4_wakingsTogether 66 = .ok (.iinc 3 1, 3) := by decide +kernel
theorem dX4_wakingsTogether_69 : decode cX4_wakingsTogether 69 = .ok (.goto (-65), 3) := by decide +kernel
theorem dX4_wakingsTogether_72 : decode cX4_wakingsTogether 72 = .ok (.iload_n 2, 1) := by decide +kernel
theorem dX4_wakingsTogether_73 : decode cX4_wakingsTogether 73 = .ok (.ireturn, 1) := by decide +kernel
theorem dX5_init_0 : decode cX5_init 0 = .ok (.aload_n 0, 1) := by decide +kernel
theorem dX5_init_1 : decode cX5_init 1 = .ok (.invokespecial 3, 3) := by decide +kernel
theorem dX5_init_4 : decode cX5_init 4 = .ok (.aload_n 0, 1) := by decide +kernel
theorem dX5_init_5 : decode cX5_init 5 = .ok (.iconst 5, 1) := by decide +kernel
theorem dX5_init_6 : decode cX5_init 6 = .ok (.newarray .int, 2) := by decide +kernel
theorem dX5_init_8 : decode cX5_init 8 = .ok (.putfield 9, 3) := by decide +kernel
theorem dX5_init_11 : decode cX5_init 11 = .ok (.aload_n 0, 1) := by decide +kernel
theorem dX5_init_12 : decode cX5_init 12 = .ok (.iconst 5, 1) := by decide +kernel
theorem dX5_init_13 : decode cX5_init 13 = .ok (.newarray .int, 2) := by decide +kernel
theorem dX5_init_15 : decode cX5_init 15 = .ok (.putfield 15, 3) := by decide +kernel
theorem dX5_init_18 : decode cX5_init 18 = .ok (.aload_n 0, 1) := by decide +kernel
theorem dX5_init_19 : decode cX5_init 19 = .ok (.iconst 5, 1) := by decide +kernel
theorem dX5_init_20 : decode cX5_init 20 = .ok (.newarray .int, 2) := by decide +kernel
theorem dX5_init_22 : decode cX5_init 22 = .ok (.putfield 18, 3) := by decide +kernel
theorem dX5_init_25 : decode cX5_init 25 = .ok (.aload_n 0, 1) := by decide +kernel
theorem dX5_init_26 : decode cX5_init 26 = .ok (.iconst 5, 1) := by decide +kernel
theorem dX5_init_27 : decode cX5_init 27 = .ok (.newarray .int, 2) := by decide +kernel
theorem dX5_init_29 : decode cX5_init 29 = .ok (.putfield 21, 3) := by decide +kernel
theorem dX5_init_32 : decode cX5_init 32 = .ok (.aload_n 0, 1) := by decide +kernel
theorem dX5_init_33 : decode cX5_init 33 = .ok (.iconst 5, 1) := by decide +kernel
theorem dX5_init_34 : decode cX5_init 34 = .ok (.newarray .int, 2) := by decide +kernel
theorem dX5_init_36 : decode cX5_init 36 = .ok (.putfield 24, 3) := by decide +kernel
theorem dX5_init_39 : decode cX5_init 39 = .ok (.aload_n 0, 1) := by decide +kernel
theorem dX5_init_40 : decode cX5_init 40 = .ok (.iconst 5, 1) := by decide +kernel
theorem dX5_init_41 : decode cX5_init 41 = .ok (.newarray .int, 2) := by decide +kernel
theorem dX5_init_43 : decode cX5_init 43 = .ok (.putfield 27, 3) := by decide +kernel
theorem dX5_init_46 : decode cX5_init 46 = .ok (.aload_n 0, 1) := by decide +kernel
theorem dX5_init_47 : decode cX5_init 47 = .ok (.iconst 0, 1) := by decide +kernel
theorem dX5_init_48 : decode cX5_init 48 = .ok (.putfield 30, 3) := by decide +kernel
theorem dX5_init_51 : decode cX5_init 51 = .ok (.return_, 1) := by decide +kernel
theorem dX5_copy_0 : decode cX5_copy 0 = .ok (.aload_n 1, 1) := by decide +kernel
theorem dX5_copy_1 : decode cX5_copy 1 = .ok (.getfield 9, 3) := by decide +kernel
theorem dX5_copy_4 : decode cX5_copy 4 = .ok (.iconst 0, 1) := by decide +kernel
theorem dX5_copy_5 : decode cX5_copy 5 = .ok (.aload_n 0, 1) := by decide +kernel
theorem dX5_copy_6 : decode cX5_copy 6 = .ok (.getfield 9, 3) := by decide +kernel
theorem dX5_copy_9 : decode cX5_copy 9 = .ok (.iconst 0, 1) := by decide +kernel
theorem dX5_copy_10 : decode cX5_copy 10 = .ok (.iconst 5, 1) := by decide +kernel
theorem dX5_copy_11 : decode cX5_copy 11 = .ok (.invokestatic 34, 3) := by decide +kernel
theorem dX5_copy_14 : decode cX5_copy 14 = .ok (.aload_n 1, 1) := by decide +kernel
theorem dX5_copy_15 : decode cX5_copy 15 = .ok (.getfield 15, 3) := by decide +kernel
theorem dX5_copy_18 : decode cX5_copy 18 = .ok (.iconst 0, 1) := by decide +kernel
theorem dX5_copy_19 : decode cX5_copy 19 = .ok (.aload_n 0, 1) := by decide +kernel
theorem dX5_copy_20 : decode cX5_copy 20 = .ok (.getfield 15, 3) := by decide +kernel
theorem dX5_copy_23 : decode cX5_copy 23 = .ok (.iconst 0, 1) := by decide +kernel
theorem dX5_copy_24 : decode cX5_copy 24 = .ok (.iconst 5, 1) := by decide +kernel
theorem dX5_copy_25 : decode cX5_copy 25 = .ok (.invokestatic 34, 3) := by decide +kernel
theorem dX5_copy_28 : decode cX5_copy 28 = .ok (.aload_n 1, 1) := by decide +kernel
theorem dX5_copy_29 : decode cX5_copy 29 = .ok (.getfield 18, 3) := by decide +kernel
theorem dX5_copy_32 : decode cX5_copy 32 = .ok (.iconst 0, 1) := by decide +kernel
theorem dX5_copy_33 : decode cX5_copy 33 = .ok (.aload_n 0, 1) := by decide +kernel
theorem dX5_copy_34 : decode cX5_copy 34 = .ok (.getfield 18, 3) := by decide +kernel
theorem dX5_copy_37 : decode cX5_copy 37 = .ok (.iconst 0, 1) := by decide +kernel
theorem dX5_copy_38 : decode cX5_copy 38 = .ok (.iconst 5, 1) := by decide +kernel
theorem dX5_copy_39 : decode cX5_copy 39 = .ok (.invokestatic 34, 3) := by decide +kernel
theorem dX5_copy_42 : decode cX5_copy 42 = .ok (.aload_n 1, 1) := by decide +kernel
theorem dX5_copy_43 : decode cX5_copy 43 = .ok (.getfield 21, 3) := by decide +kernel
theorem dX5_copy_46 : decode cX5_copy 46 = .ok (.iconst 0, 1) := by decide +kernel
theorem dX5_copy_47 : decode cX5_copy 47 = .ok (.aload_n 0, 1) := by decide +kernel
theorem dX5_copy_48 : decode cX5_copy 48 = .ok (.getfield 21, 3) := by decide +kernel
theorem dX5_copy_51 : decode cX5_copy 51 = .ok (.iconst 0, 1) := by decide +kernel
theorem dX5_copy_52 : decode cX5_copy 52 = .ok (.iconst 5, 1) := by decide +kernel
theorem dX5_copy_53 : decode cX5_copy 53 = .ok (.invokestatic 34, 3) := by decide +kernel
theorem dX5_copy_56 : decode cX5_copy 56 = .ok (.aload_n 1, 1) := by decide +kernel
theorem dX5_copy_57 : decode cX5_copy 57 = .ok (.getfield 24, 3) := by decide +kernel
theorem dX5_copy_60 : decode cX5_copy 60 = .ok (.iconst 0, 1) := by decide +kernel
theorem dX5_copy_61 : decode cX5_copy 61 = .ok (.aload_n 0, 1) := by decide +kernel
theorem dX5_copy_62 : decode cX5_copy 62 = .ok (.getfield 24, 3) := by decide +kernel
theorem dX5_copy_65 : decode cX5_copy 65 = .ok (.iconst 0, 1) := by decide +kernel
theorem dX5_copy_66 : decode cX5_copy 66 = .ok (.iconst 5, 1) := by decide +kernel
theorem dX5_copy_67 : decode cX5_copy 67 = .ok (.invokestatic 34, 3) := by decide +kernel
theorem dX5_copy_70 : decode cX5_copy 70 = .ok (.aload_n 1, 1) := by decide +kernel
theorem dX5_copy_71 : decode cX5_copy 71 = .ok (.getfield 27, 3) := by decide +kernel
theorem dX5_copy_74 : decode cX5_copy 74 = .ok (.iconst 0, 1) := by decide +kernel
theorem dX5_copy_75 : decode cX5_copy 75 = .ok (.aload_n 0, 1) := by decide +kernel
theorem dX5_copy_76 : decode cX5_copy 76 = .ok (.getfield 27, 3) := by decide +kernel
theorem dX5_copy_79 : decode cX5_copy 79 = .ok (.iconst 0, 1) := by decide +kernel
theorem dX5_copy_80 : decode cX5_copy 80 = .ok (.iconst 5, 1) := by decide +kernel
theorem dX5_copy_81 : decode cX5_copy 81 = .ok (.invokestatic 34, 3) := by decide +kernel
theorem dX5_copy_84 : decode cX5_copy 84 = .ok (.aload_n 0, 1) := by decide +kernel
theorem dX5_copy_85 : decode cX5_copy 85 = .ok (.aload_n 1, 1) := by decide +kernel
theorem dX5_copy_86 : decode cX5_copy 86 = .ok (.getfield 30, 3) := by decide +kernel
theorem dX5_copy_89 : decode cX5_copy 89 = .ok (.putfield 30, 3) := by decide +kernel
theorem dX5_copy_92 : decode cX5_copy 92 = .ok (.return_, 1) := by decide +kernel
theorem dX5_has_0 : decode cX5_has 0 = .ok (.iload_n 1, 1) := by decide +kernel
theorem dX5_has_1 : decode cX5_has 1 = .ok (.ifCond .lt 15, 3) := by decide +kernel
theorem dX5_has_4 : decode cX5_has 4 = .ok (.iload_n 1, 1) := by decide +kernel
theorem dX5_has_5 : decode cX5_has 5 = .ok (.aload_n 0, 1) := by decide +kernel
theorem dX5_has_6 : decode cX5_has 6 = .ok (.getfield 30, 3) := by decide +kernel
theorem dX5_has_9 : decode cX5_has 9 = .ok (.if_icmp .ge 7, 3) := by decide +kernel
theorem dX5_has_12 : decode cX5_has 12 = .ok (.iconst 1, 1) := by decide +kernel
theorem dX5_has_13 : decode cX5_has 13 = .ok (.goto 4, 3) := by decide +kernel
theorem dX5_has_16 : decode cX5_has 16 = .ok (.iconst 0, 1) := by decide +kernel
theorem dX5_has_17 : decode cX5_has 17 = .ok (.ireturn, 1) := by decide +kernel
theorem dX5_add_0 : decode cX5_add 0 = .ok (.iload_n 1, 1) := by decide +kernel
theorem dX5_add_1 : decode cX5_add 1 = .ok (.iconst 1, 1) := by decide +kernel
theorem dX5_add_2 : decode cX5_add 2 = .ok (.bipush 60, 2) := by decide +kernel
theorem dX5_add_4 : decode cX5_add 4 = .ok (.invokestatic 40, 3) := by decide +kernel
theorem dX5_add_7 : decode cX5_add 7 = .ok (.ifCond .eq 47, 3) := by decide +kernel
theorem dX5_add_10 : decode cX5_add 10 = .ok (.iload_n 2, 1) := by decide +kernel
theorem dX5_add_11 : decode cX5_add 11 = .ok (.iconst 1, 1) := by decide +kernel
theorem dX5_add_12 : decode cX5_add 12 = .ok (.bipush 9, 2) := by decide +kernel
theorem dX5_add_14 : decode cX5_add 14 = .ok (.invokestatic 40, 3) := by decide +kernel
theorem dX5_add_17 : decode cX5_add 17 = .ok (.ifCond .eq 37, 3) := by decide +kernel
theorem dX5_add_20 : decode cX5_add 20 = .ok (.iload_n 3, 1) := by decide +kernel
theorem dX5_add_21 : decode cX5_add 21 = .ok (.iconst 0, 1) := by decide +kernel
theorem dX5_add_22 : decode cX5_add 22 = .ok (.bipush 39, 2) := by decide +kernel
theorem dX5_add_24 : decode cX5_add 24 = .ok (.invokestatic 40, 3) := by decide +kernel
theorem dX5_add_27 : decode cX5_add 27 = .ok (.ifCond .eq 27, 3) := by decide +kernel
theorem dX5_add_30 : decode cX5_add 30 = .ok (.iload 4, 2) := by decide +kernel
theorem dX5_add_32 : decode cX5_add 32 = .ok (.iload_n 3, 1) := by decide +kernel
theorem dX5_add_33 : decode cX5_add 33 = .ok (.iconst 1, 1) := by decide +kernel
theorem dX5_add_34 : decode cX5_add 34 = .ok (.iadd, 1) := by decide +kernel
theorem dX5_add_35 : decode cX5_add 35 = .ok (.bipush 40, 2) := by decide +kernel
theorem dX5_add_37 : decode cX5_add 37 = .ok (.invokestatic 40, 3) := by decide +kernel
theorem dX5_add_40 : decode cX5_add 40 = .ok (.ifCond .eq 14, 3) := by decide +kernel
theorem dX5_add_43 : decode cX5_add 43 = .ok (.iload 5, 2) := by decide +kernel
theorem dX5_add_45 : decode cX5_add 45 = .ok (.iconst 0, 1) := by decide +kernel
theorem dX5_add_46 : decode cX5_add 46 = .ok (.bipush 60, 2) := by decide +kernel
theorem dX5_add_48 : decode cX5_add 48 = .ok (.invokestatic 40, 3) := by decide +kernel
theorem dX5_add_51 : decode cX5_add 51 = .ok (.ifCond .ne 6, 3) := by decide +kernel
theorem dX5_add_54 : decode cX5_add 54 = .ok (.bipush (-2), 2) := by decide +kernel
theorem dX5_add_56 : decode cX5_add 56 = .ok (.ireturn, 1) := by decide +kernel
theorem dX5_add_57 : decode cX5_add 57 = .ok (.aload_n 0, 1) := by decide +kernel
theorem dX5_add_58 : decode cX5_add 58 = .ok (.getfield 30, 3) := by decide +kernel
theorem dX5_add_61 : decode cX5_add 61 = .ok (.iconst 5, 1) := by decide +kernel
theorem dX5_add_62 : decode cX5_add 62 = .ok (.if_icmp .lt 6, 3) := by decide +kernel
theorem dX5_add_65 : decode cX5_add 65 = .ok (.bipush (-4), 2) := by decide +kernel
theorem dX5_add_67 : decode cX5_add 67 = .ok (.ireturn, 1) := by decide +kernel
theorem dX5_add_68 : decode cX5_add 68 = .ok (.aload_n 0, 1) := by decide +kernel
theorem dX5_add_69 : decode cX5_add 69 = .ok (.getfield 9, 3) := by decide +kernel
theorem dX5_add_72 : decode cX5_add 72 = .ok (.aload_n 0, 1) := by decide +kernel
theorem dX5_add_73 : decode cX5_add 73 = .ok (.getfield 30, 3) := by decide +kernel
theorem dX5_add_76 : decode cX5_add 76 = .ok (.iload_n 1, 1) := by decide +kernel
theorem dX5_add_77 : decode cX5_add 77 = .ok (.iastore, 1) := by decide +kernel
theorem dX5_add_78 : decode cX5_add 78 = .ok (.aload_n 0, 1) := by decide +kernel
theorem dX5_add_79 : decode cX5_add 79 = .ok (.getfield 15, 3) := by decide +kernel
theorem dX5_add_82 : decode cX5_add 82 = .ok (.aload_n 0, 1) := by decide +kernel
theorem dX5_add_83 : decode cX5_add 83 = .ok (.getfield 30, 3) := by decide +kernel
theorem dX5_add_86 : decode cX5_add 86 = .ok (.iload_n 2, 1) := by decide +kernel
theorem dX5_add_87 : decode cX5_add 87 = .ok (.iastore, 1) := by decide +kernel
theorem dX5_add_88 : decode cX5_add 88 = .ok (.aload_n 0, 1) := by decide +kernel
theorem dX5_add_89 : decode cX5_add 89 = .ok (.getfield 18, 3) := by decide +kernel
theorem dX5_add_92 : decode cX5_add 92 = .ok (.aload_n 0, 1) := by decide +kernel
theorem dX5_add_93 : decode cX5_add 93 = .ok (.getfield 30, 3) := by decide +kernel
theorem dX5_add_96 : decode cX5_add 96 = .ok (.iload_n 3, 1) := by decide +kernel
theorem dX5_add_97 : decode cX5_add 97 = .ok (.iastore, 1) := by decide +kernel
theorem dX5_add_98 : decode cX5_add 98 = .ok (.aload_n 0, 1) := by decide +kernel
theorem dX5_add_99 : decode cX5_add 99 = .ok (.getfield 21, 3) := by decide +kernel
theorem dX5_add_102 : decode cX5_add 102 = .ok (.aload_n 0, 1) := by decide +kernel
theorem dX5_add_103 : decode cX5_add 103 = .ok (.getfield 30, 3) := by decide +kernel
theorem dX5_add_106 : decode cX5_add 106 = .ok (.iload 4, 2) := by decide +kernel
theorem dX5_add_108 : decode cX5_add 108 = .ok (.iastore, 1) := by decide +kernel
theorem dX5_add_109 : decode cX5_add 109 = .ok (.aload_n 0, 1) := by decide +kernel
theorem dX5_add_110 : decode cX5_add 110 = .ok (.getfield 24, 3) := by decide +kernel
theorem dX5_add_113 : decode cX5_add 113 = .ok (.aload_n 0, 1) := by decide +kernel
theorem dX5_add_114 : decode cX5_add 114 = .ok (.getfield 30, 3) := by decide +kernel
theorem dX5_add_117 : decode cX5_add 117 = .ok (.iload 5, 2) := by decide +kernel
theorem dX5_add_119 : decode cX5_add 119 = .ok (.iastore, 1) := by decide +kernel
theorem dX5_add_120 : decode cX5_add 120 = .ok (.aload_n 0, 1) := by decide +kernel
theorem dX5_add_121 : decode cX5_add 121 = .ok (.getfield 27, 3) := by decide +kernel
theorem dX5_add_124 : decode cX5_add 124 = .ok (.aload_n 0, 1) := by decide +kernel
theorem dX5_add_125 : decode cX5_add 125 = .ok (.getfield 30, 3) := by decide +kernel
theorem dX5_add_128 : decode cX5_add 128 = .ok (.iconst (-1), 1) := by decide +kernel
theorem dX5_add_129 : decode cX5_add 129 = .ok (.iastore, 1) := by decide +kernel
theorem dX5_add_130 : decode cX5_add 130 = .ok (.aload_n 0, 1) := by decide +kernel
theorem dX5_add_131 : decode cX5_add 131 = .ok (.dup, 1) := by decide +kernel
theorem dX5_add_132 : decode cX5_add 132 = .ok (.getfield 30, 3) := by decide +kernel
theorem dX5_add_135 : decode cX5_add 135 = .ok (.dup_x1, 1) := by decide +kernel
theorem dX5_add_136 : decode cX5_add 136 = .ok (.iconst 1, 1) := by decide +kernel
theorem dX5_add_137 : decode cX5_add 137 = .ok (.iadd, 1) := by decide +kernel
theorem dX5_add_138 : decode cX5_add 138 = .ok (.putfield 30, 3) := by decide +kernel
theorem dX5_add_141 : decode cX5_add 141 = .ok (.ireturn, 1) := by decide +kernel
theorem dX5_isTakenFor_0 : decode cX5_isTakenFor 0 = .ok (.iconst 0, 1) := by decide +kernel
theorem dX5_isTakenFor_1 : decode cX5_isTakenFor 1 = .ok (.istore_n 3, 1) := by decide +kernel
theorem dX5_isTakenFor_2 : decode cX5_isTakenFor 2 = .ok (.iload_n 3, 1) := by decide +kernel
theorem dX5_isTakenFor_3 : decode cX5_isTakenFor 3 = .ok (.aload_n 0, 1) := by decide +kernel
theorem dX5_isTakenFor_4 : decode cX5_isTakenFor 4 = .ok (.getfield 30, 3) := by decide +kernel
theorem dX5_isTakenFor_7 : decode cX5_isTakenFor 7 = .ok (.if_icmp .ge 26, 3) := by decide +kernel
theorem dX5_isTakenFor_10 : decode cX5_isTakenFor 10 = .ok (.iload_n 3, 1) := by decide +kernel
theorem dX5_isTakenFor_11 : decode cX5_isTakenFor 11 = .ok (.iload_n 1, 1) := by decide +kernel
theorem dX5_isTakenFor_12 : decode cX5_isTakenFor 12 = .ok (.if_icmp .eq 15, 3) := by decide +kernel
theorem dX5_isTakenFor_15 : decode cX5_isTakenFor 15 = .ok (.aload_n 0, 1) := by decide +kernel
theorem dX5_isTakenFor_16 : decode cX5_isTakenFor 16 = .ok (.getfield 27, 3) := by decide +kernel
theorem dX5_isTakenFor_19 : decode cX5_isTakenFor 19 = .ok (.iload_n 3, 1) := by decide +kernel
theorem dX5_isTakenFor_20 : decode cX5_isTakenFor 20 = .ok (.iaload, 1) := by decide +kernel
theorem dX5_isTakenFor_21 : decode cX5_isTakenFor 21 = .ok (.iload_n 2, 1) := by decide +kernel
theorem dX5_isTakenFor_22 : decode cX5_isTakenFor 22 = .ok (.if_icmp .ne 5, 3) := by decide +kernel
theorem dX5_isTakenFor_25 : decode cX5_isTakenFor 25 = .ok (.iconst 1, 1) := by decide +kernel
theorem dX5_isTakenFor_26 : decode cX5_isTakenFor 26 = .ok (.ireturn, 1) := by decide +kernel
theorem dX5_isTakenFor_27 : decode cX5_isTakenFor 27 = .ok (.iinc 3 1, 3) := by decide +kernel
theorem dX5_isTakenFor_30 : decode cX5_isTakenFor 30 = .ok (.goto (-28), 3) := by decide +kernel
theorem dX5_isTakenFor_33 : decode cX5_isTakenFor 33 = .ok (.iconst 0, 1) := by decide +kernel
theorem dX5_isTakenFor_34 : decode cX5_isTakenFor 34 = .ok (.ireturn, 1) := by decide +kernel
theorem dX5_sleepsInTent_0 : decode cX5_sleepsInTent 0 = .ok (.iconst 0, 1) := by decide +kernel
theorem dX5_sleepsInTent_1 : decode cX5_sleepsInTent 1 = .ok (.aload_n 0, 1) := by decide +kernel
theorem dX5_sleepsInTent_2 : decode cX5_sleepsInTent 2 = .ok (.getfield 21, 3) := by decide +kernel
theorem dX5_sleepsInTent_5 : decode cX5_sleepsInTent 5 = .ok (.iload_n 1, 1) := by decide +kernel
theorem dX5_sleepsInTent_6 : decode cX5_sleepsInTent 6 = .ok (.iaload, 1) := by decide +kernel
theorem dX5_sleepsInTent_7 : decode cX5_sleepsInTent 7 = .ok (.aload_n 0, 1) := by decide +kernel
theorem dX5_sleepsInTent_8 : decode cX5_sleepsInTent 8 = .ok (.getfield 18, 3) := by decide +kernel
theorem dX5_sleepsInTent_11 : decode cX5_sleepsInTent 11 = .ok (.iload_n 1, 1) := by decide +kernel
theorem dX5_sleepsInTent_12 : decode cX5_sleepsInTent 12 = .ok (.iaload, 1) := by decide +kernel
theorem dX5_sleepsInTent_13 : decode cX5_sleepsInTent 13 = .ok (.isub, 1) := by decide +kernel
theorem dX5_sleepsInTent_14 : decode cX5_sleepsInTent 14 = .ok (.aload_n 0, 1) := by decide +kernel
theorem dX5_sleepsInTent_15 : decode cX5_sleepsInTent 15 = .ok (.getfield 15, 3) := by decide +kernel
theorem dX5_sleepsInTent_18 : decode cX5_sleepsInTent 18 = .ok (.iload_n 1, 1) := by decide +kernel
theorem dX5_sleepsInTent_19 : decode cX5_sleepsInTent 19 = .ok (.iaload, 1) := by decide +kernel
theorem dX5_sleepsInTent_20 : decode cX5_sleepsInTent 20 = .ok (.isub, 1) := by decide +kernel
theorem dX5_sleepsInTent_21 : decode cX5_sleepsInTent 21 = .ok (.invokestatic 44, 3) := by decide +kernel
theorem dX5_sleepsInTent_24 : decode cX5_sleepsInTent 24 = .ok (.ireturn, 1) := by decide +kernel
theorem dX5_digestOn_0 : decode cX5_digestOn 0 = .ok (.lload_n 1, 1) := by decide +kernel
theorem dX5_digestOn_1 : decode cX5_digestOn 1 = .ok (.lstore_n 3, 1) := by decide +kernel
theorem dX5_digestOn_2 : decode cX5_digestOn 2 = .ok (.iconst 0, 1) := by decide +kernel
theorem dX5_digestOn_3 : decode cX5_digestOn 3 = .ok (.istore 5, 2) := by decide +kernel
theorem dX5_digestOn_5 : decode cX5_digestOn 5 = .ok (.iload 5, 2) := by decide +kernel
theorem dX5_digestOn_7 : decode cX5_digestOn 7 = .ok (.aload_n 0, 1) := by decide +kernel
theorem dX5_digestOn_8 : decode cX5_digestOn 8 = .ok (.getfield 30, 3) := by decide +kernel
theorem dX5_digestOn_11 : decode cX5_digestOn 11 = .ok (.if_icmp .ge 99, 3) := by decide +kernel
theorem dX5_digestOn_14 : decode cX5_digestOn 14 = .ok (.ldc2_w 50, 3) := by decide +kernel
theorem dX5_digestOn_17 : decode cX5_digestOn 17 = .ok (.lload_n 3, 1) := by decide +kernel
theorem dX5_digestOn_18 : decode cX5_digestOn 18 = .ok (.lmul, 1) := by decide +kernel
theorem dX5_digestOn_19 : decode cX5_digestOn 19 = .ok (.aload_n 0, 1) := by decide +kernel
theorem dX5_digestOn_20 : decode cX5_digestOn 20 = .ok (.getfield 9, 3) := by decide +kernel
theorem dX5_digestOn_23 : decode cX5_digestOn 23 = .ok (.iload 5, 2) := by decide +kernel
theorem dX5_digestOn_25 : decode cX5_digestOn 25 = .ok (.iaload, 1) := by decide +kernel
theorem dX5_digestOn_26 : decode cX5_digestOn 26 = .ok (.i2l, 1) := by decide +kernel
theorem dX5_digestOn_27 : decode cX5_digestOn 27 = .ok (.ladd, 1) := by decide +kernel
theorem dX5_digestOn_28 : decode cX5_digestOn 28 = .ok (.lstore_n 3, 1) := by decide +kernel
theorem dX5_digestOn_29 : decode cX5_digestOn 29 = .ok (.ldc2_w 50, 3) := by decide +kernel
theorem dX5_digestOn_32 : decode cX5_digestOn 32 = .ok (.lload_n 3, 1) := by decide +kernel
theorem dX5_digestOn_33 : decode cX5_digestOn 33 = .ok (.lmul, 1) := by decide +kernel
theorem dX5_digestOn_34 : decode cX5_digestOn 34 = .ok (.aload_n 0, 1) := by decide +kernel
theorem dX5_digestOn_35 : decode cX5_digestOn 35 = .ok (.getfield 15, 3) := by decide +kernel
theorem dX5_digestOn_38 : decode cX5_digestOn 38 = .ok (.iload 5, 2) := by decide +kernel
theorem dX5_digestOn_40 : decode cX5_digestOn 40 = .ok (.iaload, 1) := by decide +kernel
theorem dX5_digestOn_41 : decode cX5_digestOn 41 = .ok (.i2l, 1) := by decide +kernel
theorem dX5_digestOn_42 : decode cX5_digestOn 42 = .ok (.ladd, 1) := by decide +kernel
theorem dX5_digestOn_43 : decode cX5_digestOn 43 = .ok (.lstore_n 3, 1) := by decide +kernel
theorem dX5_digestOn_44 : decode cX5_digestOn 44 = .ok (.ldc2_w 50, 3) := by decide +kernel
theorem dX5_digestOn_47 : decode cX5_digestOn 47 = .ok (.lload_n 3, 1) := by decide +kernel
theorem dX5_digestOn_48 : decode cX5_digestOn 48 = .ok (.lmul, 1) := by decide +kernel
theorem dX5_digestOn_49 : decode cX5_digestOn 49 = .ok (.aload_n 0, 1) := by decide +kernel
theorem dX5_digestOn_50 : decode cX5_digestOn 50 = .ok (.getfield 18, 3) := by decide +kernel
theorem dX5_digestOn_53 : decode cX5_digestOn 53 = .ok (.iload 5, 2) := by decide +kernel
theorem dX5_digestOn_55 : decode cX5_digestOn 55 = .ok (.iaload, 1) := by decide +kernel
theorem dX5_digestOn_56 : decode cX5_digestOn 56 = .ok (.i2l, 1) := by decide +kernel
theorem dX5_digestOn_57 : decode cX5_digestOn 57 = .ok (.ladd, 1) := by decide +kernel
theorem dX5_digestOn_58 : decode cX5_digestOn 58 = .ok (.lstore_n 3, 1) := by decide +kernel
theorem dX5_digestOn_59 : decode cX5_digestOn 59 = .ok (.ldc2_w 50, 3) := by decide +kernel
theorem dX5_digestOn_62 : decode cX5_digestOn 62 = .ok (.lload_n 3, 1) := by decide +kernel
theorem dX5_digestOn_63 : decode cX5_digestOn 63 = .ok (.lmul, 1) := by decide +kernel
theorem dX5_digestOn_64 : decode cX5_digestOn 64 = .ok (.aload_n 0, 1) := by decide +kernel
theorem dX5_digestOn_65 : decode cX5_digestOn 65 = .ok (.getfield 21, 3) := by decide +kernel
theorem dX5_digestOn_68 : decode cX5_digestOn 68 = .ok (.iload 5, 2) := by decide +kernel
theorem dX5_digestOn_70 : decode cX5_digestOn 70 = .ok (.iaload, 1) := by decide +kernel
theorem dX5_digestOn_71 : decode cX5_digestOn 71 = .ok (.i2l, 1) := by decide +kernel
theorem dX5_digestOn_72 : decode cX5_digestOn 72 = .ok (.ladd, 1) := by decide +kernel
theorem dX5_digestOn_73 : decode cX5_digestOn 73 = .ok (.lstore_n 3, 1) := by decide +kernel
theorem dX5_digestOn_74 : decode cX5_digestOn 74 = .ok (.ldc2_w 50, 3) := by decide +kernel
theorem dX5_digestOn_77 : decode cX5_digestOn 77 = .ok (.lload_n 3, 1) := by decide +kernel
theorem dX5_digestOn_78 : decode cX5_digestOn 78 = .ok (.lmul, 1) := by decide +kernel
theorem dX5_digestOn_79 : decode cX5_digestOn 79 = .ok (.aload_n 0, 1) := by decide +kernel
theorem dX5_digestOn_80 : decode cX5_digestOn 80 = .ok (.getfield 24, 3) := by decide +kernel
theorem dX5_digestOn_83 : decode cX5_digestOn 83 = .ok (.iload 5, 2) := by decide +kernel
theorem dX5_digestOn_85 : decode cX5_digestOn 85 = .ok (.iaload, 1) := by decide +kernel
theorem dX5_digestOn_86 : decode cX5_digestOn 86 = .ok (.i2l, 1) := by decide +kernel
theorem dX5_digestOn_87 : decode cX5_digestOn 87 = .ok (.ladd, 1) := by decide +kernel
theorem dX5_digestOn_88 : decode cX5_digestOn 88 = .ok (.lstore_n 3, 1) := by decide +kernel
theorem dX5_digestOn_89 : decode cX5_digestOn 89 = .ok (.ldc2_w 50, 3) := by decide +kernel
theorem dX5_digestOn_92 : decode cX5_digestOn 92 = .ok (.lload_n 3, 1) := by decide +kernel
theorem dX5_digestOn_93 : decode cX5_digestOn 93 = .ok (.lmul, 1) := by decide +kernel
theorem dX5_digestOn_94 : decode cX5_digestOn 94 = .ok (.aload_n 0, 1) := by decide +kernel
theorem dX5_digestOn_95 : decode cX5_digestOn 95 = .ok (.getfield 27, 3) := by decide +kernel
theorem dX5_digestOn_98 : decode cX5_digestOn 98 = .ok (.iload 5, 2) := by decide +kernel
theorem dX5_digestOn_100 : decode cX5_digestOn 100 = .ok (.iaload, 1) := by decide +kernel
theorem dX5_digestOn_101 : decode cX5_digestOn 101 = .ok (.i2l, 1) := by decide +kernel
theorem dX5_digestOn_102 : decode cX5_digestOn 102 = .ok (.ladd, 1) := by decide +kernel
theorem dX5_digestOn_103 : decode cX5_digestOn 103 = .ok (.lstore_n 3, 1) := by decide +kernel
theorem dX5_digestOn_104 : decode cX5_digestOn 104 = .ok (.iinc 5 1, 3) := by decide +kernel
theorem dX5_digestOn_107 : decode cX5_digestOn 107 = .ok (.goto (-102), 3) := by decide +kernel
theorem dX5_digestOn_110 : decode cX5_digestOn 110 = .ok (.lload_n 3, 1) := by decide +kernel
theorem dX5_digestOn_111 : decode cX5_digestOn 111 = .ok (.lreturn, 1) := by decide +kernel
