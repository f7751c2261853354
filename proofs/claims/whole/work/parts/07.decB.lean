theorem dX10_init_0 : decode cX10_init 0 = .ok (.aload_n 0, 1) := by decide +kernel
theorem dX10_init_1 : decode cX10_init 1 = .ok (.invokespecial 1, 3) := by decide +kernel
theorem dX10_init_4 : decode cX10_init 4 = .ok (.aload_n 0, 1) := by decide +kernel
theorem dX10_init_5 : decode cX10_init 5 = .ok (.new 7, 3) := by decide +kernel
theorem dX10_init_8 : decode cX10_init 8 = .ok (.dup, 1) := by decide +kernel
theorem dX10_init_9 : decode cX10_init 9 = .ok (.invokespecial 9, 3) := by decide +kernel
theorem dX10_init_12 : decode cX10_init 12 = .ok (.putfield 10, 3) := by decide +kernel
theorem dX10_init_15 : decode cX10_init 15 = .ok (.aload_n 0, 1) := by decide +kernel
theorem dX10_init_16 : decode cX10_init 16 = .ok (.new 16, 3) := by decide +kernel
theorem dX10_init_19 : decode cX10_init 19 = .ok (.dup, 1) := by decide +kernel
theorem dX10_init_20 : decode cX10_init 20 = .ok (.invokespecial 18, 3) := by decide +kernel
theorem dX10_init_23 : decode cX10_init 23 = .ok (.putfield 19, 3) := by decide +kernel
theorem dX10_init_26 : decode cX10_init 26 = .ok (.aload_n 0, 1) := by decide +kernel
theorem dX10_init_27 : decode cX10_init 27 = .ok (.new 23, 3) := by decide +kernel
theorem dX10_init_30 : decode cX10_init 30 = .ok (.dup, 1) := by decide +kernel
theorem dX10_init_31 : decode cX10_init 31 = .ok (.invokespecial 25, 3) := by decide +kernel
theorem dX10_init_34 : decode cX10_init 34 = .ok (.putfield 26, 3) := by decide +kernel
theorem dX10_init_37 : decode cX10_init 37 = .ok (.aload_n 0, 1) := by decide +kernel
theorem dX10_init_38 : decode cX10_init 38 = .ok (.new 30, 3) := by decide +kernel
theorem dX10_init_41 : decode cX10_init 41 = .ok (.dup, 1) := by decide +kernel
theorem dX10_init_42 : decode cX10_init 42 = .ok (.invokespecial 32, 3) := by decide +kernel
theorem dX10_init_45 : decode cX10_init 45 = .ok (.putfield 33, 3) := by decide +kernel
theorem dX10_init_48 : decode cX10_init 48 = .ok (.aload_n 0, 1) := by decide +kernel
theorem dX10_init_49 : decode cX10_init 49 = .ok (.new 30, 3) := by decide +kernel
theorem dX10_init_52 : decode cX10_init 52 = .ok (.dup, 1) := by decide +kernel
theorem dX10_init_53 : decode cX10_init 53 = .ok (.invokespecial 32, 3) := by decide +kernel
theorem dX10_init_56 : decode cX10_init 56 = .ok (.putfield 37, 3) := by decide +kernel
theorem dX10_init_59 : decode cX10_init 59 = .ok (.aload_n 0, 1) := by decide +kernel
theorem dX10_init_60 : decode cX10_init 60 = .ok (.new 40, 3) := by decide +kernel
theorem dX10_init_63 : decode cX10_init 63 = .ok (.dup, 1) := by decide +kernel
theorem dX10_init_64 : decode cX10_init 64 = .ok (.invokespecial 42, 3) := by decide +kernel
theorem dX10_init_67 : decode cX10_init 67 = .ok (.putfield 43, 3) := by decide +kernel
theorem dX10_init_70 : decode cX10_init 70 = .ok (.aload_n 0, 1) := by decide +kernel
theorem dX10_init_71 : decode cX10_init 71 = .ok (.new 47, 3) := by decide +kernel
theorem dX10_init_74 : decode cX10_init 74 = .ok (.dup, 1) := by decide +kernel
theorem dX10_init_75 : decode cX10_init 75 = .ok (.invokespecial 49, 3) := by decide +kernel
theorem dX10_init_78 : decode cX10_init 78 = .ok (.putfield 50, 3) := by decide +kernel
theorem dX10_init_81 : decode cX10_init 81 = .ok (.aload_n 0, 1) := by decide +kernel
theorem dX10_init_82 : decode cX10_init 82 = .ok (.new 54, 3) := by decide +kernel
theorem dX10_init_85 : decode cX10_init 85 = .ok (.dup, 1) := by decide +kernel
theorem dX10_init_86 : decode cX10_init 86 = .ok (.invokespecial 56, 3) := by decide +kernel
theorem dX10_init_89 : decode cX10_init 89 = .ok (.putfield 57, 3) := by decide +kernel
theorem dX10_init_92 : decode cX10_init 92 = .ok (.aload_n 0, 1) := by decide +kernel
theorem dX10_init_93 : decode cX10_init 93 = .ok (.new 61, 3) := by decide +kernel
theorem dX10_init_96 : decode cX10_init 96 = .ok (.dup, 1) := by decide +kernel
theorem dX10_init_97 : decode cX10_init 97 = .ok (.invokespecial 63, 3) := by decide +kernel
theorem dX10_init_100 : decode cX10_init 100 = .ok (.putfield 64, 3) := by decide +kernel
theorem dX10_init_103 : decode cX10_init 103 = .ok (.aload_n 0, 1) := by decide +kernel
theorem dX10_init_104 : decode cX10_init 104 = .ok (.new 68, 3) := by decide +kernel
theorem dX10_init_107 : decode cX10_init 107 = .ok (.dup, 1) := by decide +kernel
theorem dX10_init_108 : decode cX10_init 108 = .ok (.invokespecial 70, 3) := by decide +kernel
theorem dX10_init_111 : decode cX10_init 111 = .ok (.putfield 71, 3) := by decide +kernel
theorem dX10_init_114 : decode cX10_init 114 = .ok (.aload_n 0, 1) := by decide +kernel
theorem dX10_init_115 : decode cX10_init 115 = .ok (.new 75, 3) := by decide +kernel
theorem dX10_init_118 : decode cX10_init 118 = .ok (.dup, 1) := by decide +kernel
theorem dX10_init_119 : decode cX10_init 119 = .ok (.invokespecial 77, 3) := by decide +kernel
theorem dX10_init_122 : decode cX10_init 122 = .ok (.putfield 78, 3) := by decide +kernel
theorem dX10_init_125 : decode cX10_init 125 = .ok (.aload_n 0, 1) := by decide +kernel
theorem dX10_init_126 : decode cX10_init 126 = .ok (.lconst 0, 1) := by decide +kernel
theorem dX10_init_127 : decode cX10_init 127 = .ok (.putfield 82, 3) := by decide +kernel
theorem dX10_init_130 : decode cX10_init 130 = .ok (.return_, 1) := by decide +kernel
theorem dX10_write_0 : decode cX10_write 0 = .ok (.iload_n 1, 1) := by decide +kernel
theorem dX10_write_1 : decode cX10_write 1 = .ok (.ifCond .lt 10, 3) := by decide +kernel
theorem dX10_write_4 : decode cX10_write 4 = .ok (.iload_n 1, 1) := by decide +kernel
theorem dX10_write_5 : decode cX10_write 5 = .ok (.sipush 255, 3) := by decide +kernel
theorem dX10_write_8 : decode cX10_write 8 = .ok (.if_icmp .le 6, 3) := by decide +kernel
theorem dX10_write_11 : decode cX10_write 11 = .ok (.bipush (-2), 2) := by decide +kernel
theorem dX10_write_13 : decode cX10_write 13 = .ok (.ireturn, 1) := by decide +kernel
theorem dX10_write_14 : decode cX10_write 14 = .ok (.aload_n 0, 1) := by decide +kernel
theorem dX10_write_15 : decode cX10_write 15 = .ok (.getfield 10, 3) := by decide +kernel
theorem dX10_write_18 : decode cX10_write 18 = .ok (.getfield 86, 3) := by decide +kernel
theorem dX10_write_21 : decode cX10_write 21 = .ok (.bipush 48, 2) := by decide +kernel
theorem dX10_write_23 : decode cX10_write 23 = .ok (.if_icmp .lt 6, 3) := by decide +kernel
theorem dX10_write_26 : decode cX10_write 26 = .ok (.bipush (-4), 2) := by decide +kernel
theorem dX10_write_28 : decode cX10_write 28 = .ok (.ireturn, 1) := by decide +kernel
theorem dX10_write_29 : decode cX10_write 29 = .ok (.aload_n 0, 1) := by decide +kernel
theorem dX10_write_30 : decode cX10_write 30 = .ok (.getfield 10, 3) := by decide +kernel
theorem dX10_write_33 : decode cX10_write 33 = .ok (.iload_n 1, 1) := by decide +kernel
theorem dX10_write_34 : decode cX10_write 34 = .ok (.invokevirtual 90, 3) := by decide +kernel
theorem dX10_write_37 : decode cX10_write 37 = .ok (.aload_n 0, 1) := by decide +kernel
theorem dX10_write_38 : decode cX10_write 38 = .ok (.getfield 10, 3) := by decide +kernel
theorem dX10_write_41 : decode cX10_write 41 = .ok (.getfield 86, 3) := by decide +kernel
theorem dX10_write_44 : decode cX10_write 44 = .ok (.ireturn, 1) := by decide +kernel
theorem dX10_wipe_0 : decode cX10_wipe 0 = .ok (.aload_n 0, 1) := by decide +kernel
theorem dX10_wipe_1 : decode cX10_wipe 1 = .ok (.getfield 10, 3) := by decide +kernel
theorem dX10_wipe_4 : decode cX10_wipe 4 = .ok (.getfield 86, 3) := by decide +kernel
theorem dX10_wipe_7 : decode cX10_wipe 7 = .ok (.istore_n 1, 1) := by decide +kernel
theorem dX10_wipe_8 : decode cX10_wipe 8 = .ok (.aload_n 0, 1) := by decide +kernel
theorem dX10_wipe_9 : decode cX10_wipe 9 = .ok (.getfield 10, 3) := by decide +kernel
theorem dX10_wipe_12 : decode cX10_wipe 12 = .ok (.iconst 0, 1) := by decide +kernel
theorem dX10_wipe_13 : decode cX10_wipe 13 = .ok (.putfield 86, 3) := by decide +kernel
theorem dX10_wipe_16 : decode cX10_wipe 16 = .ok (.iload_n 1, 1) := by decide +kernel
theorem dX10_wipe_17 : decode cX10_wipe 17 = .ok (.ireturn, 1) := by decide +kernel
theorem dX10_fault_0 : decode cX10_fault 0 = .ok (.aload_n 0, 1) := by decide +kernel
theorem dX10_fault_1 : decode cX10_fault 1 = .ok (.getfield 19, 3) := by decide +kernel
theorem dX10_fault_4 : decode cX10_fault 4 = .ok (.aload_n 0, 1) := by decide +kernel
theorem dX10_fault_5 : decode cX10_fault 5 = .ok (.getfield 10, 3) := by decide +kernel
theorem dX10_fault_8 : decode cX10_fault 8 = .ok (.invokevirtual 94, 3) := by decide +kernel
theorem dX10_fault_11 : decode cX10_fault 11 = .ok (.ireturn, 1) := by decide +kernel
theorem dX10_hill_0 : decode cX10_hill 0 = .ok (.aload_n 0, 1) := by decide +kernel
theorem dX10_hill_1 : decode cX10_hill 1 = .ok (.getfield 19, 3) := by decide +kernel
theorem dX10_hill_4 : decode cX10_hill 4 = .ok (.aload_n 0, 1) := by decide +kernel
theorem dX10_hill_5 : decode cX10_hill 5 = .ok (.getfield 10, 3) := by decide +kernel
theorem dX10_hill_8 : decode cX10_hill 8 = .ok (.invokevirtual 94, 3) := by decide +kernel
theorem dX10_hill_11 : decode cX10_hill 11 = .ok (.bipush (-9), 2) := by decide +kernel
theorem dX10_hill_13 : decode cX10_hill 13 = .ok (.if_icmp .eq 6, 3) := by decide +kernel
theorem dX10_hill_16 : decode cX10_hill 16 = .ok (.bipush (-3), 2) := by decide +kernel
theorem dX10_hill_18 : decode cX10_hill 18 = .ok (.ireturn, 1) := by decide +kernel
theorem dX10_hill_19 : decode cX10_hill 19 = .ok (.aload_n 0, 1) := by decide +kernel
theorem dX10_hill_20 : decode cX10_hill 20 = .ok (.getfield 26, 3) := by decide +kernel
theorem dX10_hill_23 : decode cX10_hill 23 = .ok (.aload_n 0, 1) := by decide +kernel
theorem dX10_hill_24 : decode cX10_hill 24 = .ok (.getfield 19, 3) := by decide +kernel
theorem dX10_hill_27 : decode cX10_hill 27 = .ok (.getfield 98, 3) := by decide +kernel
theorem dX10_hill_30 : decode cX10_hill 30 = .ok (.invokevirtual 99, 3) := by decide +kernel
theorem dX10_hill_33 : decode cX10_hill 33 = .ok (.aload_n 0, 1) := by decide +kernel
theorem dX10_hill_34 : decode cX10_hill 34 = .ok (.getfield 33, 3) := by decide +kernel
theorem dX10_hill_37 : decode cX10_hill 37 = .ok (.aload_n 0, 1) := by decide +kernel
theorem dX10_hill_38 : decode cX10_hill 38 = .ok (.getfield 19, 3) := by decide +kernel
theorem dX10_hill_41 : decode cX10_hill 41 = .ok (.getfield 103, 3) := by decide +kernel
theorem dX10_hill_44 : decode cX10_hill 44 = .ok (.invokevirtual 104, 3) := by decide +kernel
theorem dX10_hill_47 : decode cX10_hill 47 = .ok (.aload_n 0, 1) := by decide +kernel
theorem dX10_hill_48 : decode cX10_hill 48 = .ok (.getfield 43, 3) := by decide +kernel
theorem dX10_hill_51 : decode cX10_hill 51 = .ok (.invokevirtual 107, 3) := by decide +kernel
theorem dX10_hill_54 : decode cX10_hill 54 = .ok (.aload_n 0, 1) := by decide +kernel
theorem dX10_hill_55 : decode cX10_hill 55 = .ok (.getfield 50, 3) := by decide +kernel
theorem dX10_hill_58 : decode cX10_hill 58 = .ok (.invokevirtual 110, 3) := by decide +kernel
theorem dX10_hill_61 : decode cX10_hill 61 = .ok (.bipush 10, 2) := by decide +kernel
theorem dX10_hill_63 : decode cX10_hill 63 = .ok (.aload_n 0, 1) := by decide +kernel
theorem dX10_hill_64 : decode cX10_hill 64 = .ok (.getfield 26, 3) := by decide +kernel
theorem dX10_hill_67 : decode cX10_hill 67 = .ok (.getfield 111, 3) := by decide +kernel
theorem dX10_hill_70 : decode cX10_hill 70 = .ok (.imul, 1) := by decide +kernel
theorem dX10_hill_71 : decode cX10_hill 71 = .ok (.aload_n 0, 1) := by decide +kernel
theorem dX10_hill_72 : decode cX10_hill 72 = .ok (.getfield 33, 3) := by decide +kernel
theorem dX10_hill_75 : decode cX10_hill 75 = .ok (.getfield 114, 3) := by decide +kernel
theorem dX10_hill_78 : decode cX10_hill 78 = .ok (.iadd, 1) := by decide +kernel
theorem dX10_hill_79 : decode cX10_hill 79 = .ok (.ireturn, 1) := by decide +kernel
theorem dX10_kiln_0 : decode cX10_kiln 0 = .ok (.aload_n 0, 1) := by decide +kernel
theorem dX10_kiln_1 : decode cX10_kiln 1 = .ok (.getfield 26, 3) := by decide +kernel
theorem dX10_kiln_4 : decode cX10_kiln 4 = .ok (.iload_n 1, 1) := by decide +kernel
theorem dX10_kiln_5 : decode cX10_kiln 5 = .ok (.invokevirtual 117, 3) := by decide +kernel
theorem dX10_kiln_8 : decode cX10_kiln 8 = .ok (.ifCond .ne 5, 3) := by decide +kernel
theorem dX10_kiln_11 : decode cX10_kiln 11 = .ok (.iconst (-1), 1) := by decide +kernel
theorem dX10_kiln_12 : decode cX10_kiln 12 = .ok (.ireturn, 1) := by decide +kernel
theorem dX10_kiln_13 : decode cX10_kiln 13 = .ok (.iload_n 2, 1) := by decide +kernel
theorem dX10_kiln_14 : decode cX10_kiln 14 = .ok (.tableswitch 89 0 4 #[34, 44, 54, 63, 72], 34) := by decide +kernel
theorem dX10_kiln_48 : decode cX10_kiln 48 = .ok (.aload_n 0, 1) := by decide +kernel
theorem dX10_kiln_49 : decode cX10_kiln 49 = .ok (.getfield 26, 3) := by decide +kernel
theorem dX10_kiln_52 : decode cX10_kiln 52 = .ok (.getfield 121, 3) := by decide +kernel
theorem dX10_kiln_55 : decode cX10_kiln 55 = .ok (.iload_n 1, 1) := by decide +kernel
theorem dX10_kiln_56 : decode cX10_kiln 56 = .ok (.iaload, 1) := by decide +kernel
theorem dX10_kiln_57 : decode cX10_kiln 57 = .ok (.ireturn, 1) := by decide +kernel
theorem dX10_kiln_58 : decode cX10_kiln 58 = .ok (.aload_n 0, 1) := by decide +kernel
theorem dX10_kiln_59 : decode cX10_kiln 59 = .ok (.getfield 26, 3) := by decide +kernel
theorem dX10_kiln_62 : decode cX10_kiln 62 = .ok (.getfield 125, 3) := by decide +kernel
theorem dX10_kiln_65 : decode cX10_kiln 65 = .ok (.iload_n 1, 1) := by decide +kernel
theorem dX10_kiln_66 : decode cX10_kiln 66 = .ok (.iaload, 1) := by decide +kernel
theorem dX10_kiln_67 : decode cX10_kiln 67 = .ok (.ireturn, 1) := by decide +kernel
theorem dX10_kiln_68 : decode cX10_kiln 68 = .ok (.aload_n 0, 1) := by decide +kernel
theorem dX10_kiln_69 : decode cX10_kiln 69 = .ok (.getfield 26, 3) := by decide +kernel
theorem dX10_kiln_72 : decode cX10_kiln 72 = .ok (.iload_n 1, 1) := by decide +kernel
theorem dX10_kiln_73 : decode cX10_kiln 73 = .ok (.invokevirtual 128, 3) := by decide +kernel
theorem dX10_kiln_76 : decode cX10_kiln 76 = .ok (.ireturn, 1) := by decide +kernel
theorem dX10_kiln_77 : decode cX10_kiln 77 = .ok (.aload_n 0, 1) := by decide +kernel
theorem dX10_kiln_78 : decode cX10_kiln 78 = .ok (.getfield 26, 3) := by decide +kernel
theorem dX10_kiln_81 : decode cX10_kiln 81 = .ok (.iload_n 1, 1) := by decide +kernel
theorem dX10_kiln_82 : decode cX10_kiln 82 = .ok (.invokevirtual 132, 3) := by decide +kernel
theorem dX10_kiln_85 : decode cX10_kiln 85 = .ok (.ireturn, 1) := by decide +kernel
theorem dX10_kiln_86 : decode cX10_kiln 86 = .ok (.aload_n 0, 1) := by decide +kernel
theorem dX10_kiln_87 : decode cX10_kiln 87 = .ok (.getfield 33, 3) := by decide +kernel
theorem dX10_kiln_90 : decode cX10_kiln 90 = .ok (.aload_n 0, 1) := by decide +kernel
theorem dX10_kiln_91 : decode cX10_kiln 91 = .ok (.getfield 26, 3) := by decide +kernel
theorem dX10_kiln_94 : decode cX10_kiln 94 = .ok (.getfield 121, 3) := by decide +kernel
theorem dX10_kiln_97 : decode cX10_kiln 97 = .ok (.iload_n 1, 1) := by decide +kernel
theorem dX10_kiln_98 : decode cX10_kiln 98 = .ok (.iaload, 1) := by decide +kernel
theorem dX10_kiln_99 : decode cX10_kiln 99 = .ok (.invokevirtual 135, 3) := by decide +kernel
theorem dX10_kiln_102 : decode cX10_kiln 102 = .ok (.ireturn, 1) := by decide +kernel
theorem dX10_kiln_103 : decode cX10_kiln 103 = .ok (.bipush (-2), 2) := by decide +kernel
theorem dX10_kiln_105 : decode cX10_kiln 105 = .ok (.ireturn, 1) := by decide +kernel
theorem dX10_tramp_0 : decode cX10_tramp 0 = .ok (.aload_n 0, 1) := by decide +kernel
theorem dX10_tramp_1 : decode cX10_tramp 1 = .ok (.getfield 33, 3) := by decide +kernel
theorem dX10_tramp_4 : decode cX10_tramp 4 = .ok (.iload_n 1, 1) := by decide +kernel
theorem dX10_tramp_5 : decode cX10_tramp 5 = .ok (.invokevirtual 138, 3) := by decide +kernel
theorem dX10_tramp_8 : decode cX10_tramp 8 = .ok (.ifCond .ne 5, 3) := by decide +kernel
theorem dX10_tramp_11 : decode cX10_tramp 11 = .ok (.iconst (-1), 1) := by decide +kernel
theorem dX10_tramp_12 : decode cX10_tramp 12 = .ok (.ireturn, 1) := by decide +kernel
theorem dX10_tramp_13 : decode cX10_tramp 13 = .ok (.iload_n 2, 1) := by decide +kernel
theorem dX10_tramp_14 : decode cX10_tramp 14 = .ok (.tableswitch 125 0 6 #[42, 52, 62, 72, 82, 91, 108], 42) := by decide +kernel
theorem dX10_tramp_56 : decode cX10_tramp 56 = .ok (.aload_n 0, 1) := by decide +kernel
theorem dX10_tramp_57 : decode cX10_tramp 57 = .ok (.getfield 33, 3) := by decide +kernel
theorem dX10_tramp_60 : decode cX10_tramp 60 = .ok (.getfield 139, 3) := by decide +kernel
theorem dX10_tramp_63 : decode cX10_tramp 63 = .ok (.iload_n 1, 1) := by decide +kernel
theorem dX10_tramp_64 : decode cX10_tramp 64 = .ok (.iaload, 1) := by decide +kernel
theorem dX10_tramp_65 : decode cX10_tramp 65 = .ok (.ireturn, 1) := by decide +kernel
theorem dX10_tramp_66 : decode cX10_tramp 66 = .ok (.aload_n 0, 1) := by decide +kernel
theorem dX10_tramp_67 : decode cX10_tramp 67 = .ok (.getfield 33, 3) := by decide +kernel
theorem dX10_tramp_70 : decode cX10_tramp 70 = .ok (.getfield 140, 3) := by decide +kernel
theorem dX10_tramp_73 : decode cX10_tramp 73 = .ok (.iload_n 1, 1) := by decide +kernel
theorem dX10_tramp_74 : decode cX10_tramp 74 = .ok (.iaload, 1) := by decide +kernel
theorem dX10_tramp_75 : decode cX10_tramp 75 = .ok (.ireturn, 1) := by decide +kernel
theorem dX10_tramp_76 : decode cX10_tramp 76 = .ok (.aload_n 0, 1) := by decide +kernel
theorem dX10_tramp_77 : decode cX10_tramp 77 = .ok (.getfield 33, 3) := by decide +kernel
theorem dX10_tramp_80 : decode cX10_tramp 80 = .ok (.getfield 143, 3) := by decide +kernel
theorem dX10_tramp_83 : decode cX10_tramp 83 = .ok (.iload_n 1, 1) := by decide +kernel
theorem dX10_tramp_84 : decode cX10_tramp 84 = .ok (.iaload, 1) := by decide +kernel
theorem dX10_tramp_85 : decode cX10_tramp 85 = .ok (.ireturn, 1) := by decide +kernel
theorem dX10_tramp_86 : decode cX10_tramp 86 = .ok (.aload_n 0, 1) := by decide +kernel
theorem dX10_tramp_87 : decode cX10_tramp 87 = .ok (.getfield 33, 3) := by decide +kernel
theorem dX10_tramp_90 : decode cX10_tramp 90 = .ok (.getfield 146, 3) := by decide +kernel
theorem dX10_tramp_93 : decode cX10_tramp 93 = .ok (.iload_n 1, 1) := by decide +kernel
theorem dX10_tramp_94 : decode cX10_tramp 94 = .ok (.iaload, 1) := by decide +kernel
theorem dX10_tramp_95 : decode cX10_tramp 95 = .ok (.ireturn, 1) := by decide +kernel
theorem dX10_tramp_96 : decode cX10_tramp 96 = .ok (.aload_n 0, 1) := by decide +kernel
theorem dX10_tramp_97 : decode cX10_tramp 97 = .ok (.getfield 33, 3) := by decide +kernel
theorem dX10_tramp_100 : decode cX10_tramp 100 = .ok (.iload_n 1, 1) := by decide +kernel
theorem dX10_tramp_101 : decode cX10_tramp 101 = .ok (.invokevirtual 149, 3) := by decide +kernel
theorem dX10_tramp_104 : decode cX10_tramp 104 = .ok (.ireturn, 1) := by decide +kernel
theorem dX10_tramp_105 : decode cX10_tramp 105 = .ok (.aload_n 0, 1) := by decide +kernel
theorem dX10_tramp_106 : decode cX10_tramp 106 = .ok (.getfield 33, 3) := by decide +kernel
theorem dX10_tramp_109 : decode cX10_tramp 109 = .ok (.iload_n 1, 1) := by decide +kernel
theorem dX10_tramp_110 : decode cX10_tramp 110 = .ok (.invokevirtual 152, 3) := by decide +kernel
theorem dX10_tramp_113 : decode cX10_tramp 113 = .ok (.ifCond .eq 7, 3) := by decide +kernel
theorem dX10_tramp_116 : decode cX10_tramp 116 = .ok (.iconst 1, 1) := by decide +kernel
theorem dX10_tramp_117 : decode cX10_tramp 117 = .ok (.goto 4, 3) := by decide +kernel
theorem dX10_tramp_120 : decode cX10_tramp 120 = .ok (.iconst 0, 1) := by decide +kernel
theorem dX10_tramp_121 : decode cX10_tramp 121 = .ok (.ireturn, 1) := by decide +kernel
theorem dX10_tramp_122 : decode cX10_tramp 122 = .ok (.aload_n 0, 1) := by decide +kernel
theorem dX10_tramp_123 : decode cX10_tramp 123 = .ok (.getfield 33, 3) := by decide +kernel
theorem dX10_tramp_126 : decode cX10_tramp 126 = .ok (.iload_n 1, 1) := by decide +kernel
theorem dX10_tramp_127 : decode cX10_tramp 127 = .ok (.invokevirtual 155, 3) := by decide +kernel
theorem dX10_tramp_130 : decode cX10_tramp 130 = .ok (.ifCond .eq 7, 3) := by decide +kernel
theorem dX10_tramp_133 : decode cX10_tramp 133 = .ok (.iconst 1, 1) := by decide +kernel
theorem dX10_tramp_134 : decode cX10_tramp 134 = .ok (.goto 4, 3) := by decide +kernel
theorem dX10_tramp_137 : decode cX10_tramp 137 = .ok (.iconst 0, 1) := by decide +kernel
theorem dX10_tramp_138 : decode cX10_tramp 138 = .ok (.ireturn, 1) := by decide +kernel
theorem dX10_tramp_139 : decode cX10_tramp 139 = .ok (.bipush (-2), 2) := by decide +kernel
theorem dX10_tramp_141 : decode cX10_tramp 141 = .ok (.ireturn, 1) := by decide +kernel
theorem dX10_at_0 : decode cX10_at 0 = .ok (.iload_n 1, 1) := by decide +kernel
theorem dX10_at_1 : decode cX10_at 1 = .ok (.invokestatic 158, 3) := by decide +kernel
theorem dX10_at_4 : decode cX10_at 4 = .ok (.ifCond .ne 5, 3) := by decide +kernel
theorem dX10_at_7 : decode cX10_at 7 = .ok (.iconst (-1), 1) := by decide +kernel
theorem dX10_at_8 : decode cX10_at 8 = .ok (.ireturn, 1) := by decide +kernel
theorem dX10_at_9 : decode cX10_at 9 = .ok (.aload_n 0, 1) := by decide +kernel
theorem dX10_at_10 : decode cX10_at 10 = .ok (.getfield 26, 3) := by decide +kernel
theorem dX10_at_13 : decode cX10_at 13 = .ok (.iload_n 1, 1) := by decide +kernel
theorem dX10_at_14 : decode cX10_at 14 = .ok (.invokevirtual 161, 3) := by decide +kernel
theorem dX10_at_17 : decode cX10_at 17 = .ok (.ireturn, 1) := by decide +kernel
theorem dX10_night_0 : decode cX10_night 0 = .ok (.aload_n 0, 1) := by decide +kernel
theorem dX10_night_1 : decode cX10_night 1 = .ok (.getfield 43, 3) := by decide +kernel
theorem dX10_night_4 : decode cX10_night 4 = .ok (.aload_n 0, 1) := by decide +kernel
theorem dX10_night_5 : decode cX10_night 5 = .ok (.getfield 33, 3) := by decide +kernel
theorem dX10_night_8 : decode cX10_night 8 = .ok (.invokevirtual 164, 3) := by decide +kernel
theorem dX10_night_11 : decode cX10_night 11 = .ok (.aload_n 0, 1) := by decide +kernel
theorem dX10_night_12 : decode cX10_night 12 = .ok (.getfield 33, 3) := by decide +kernel
theorem dX10_night_15 : decode cX10_night 15 = .ok (.aload_n 0, 1) := by decide +kernel
theorem dX10_night_16 : decode cX10_night 16 = .ok (.getfield 26, 3) := by decide +kernel
theorem dX10_night_19 : decode cX10_night 19 = .ok (.iconst 0, 1) := by decide +kernel
theorem dX10_night_20 : decode cX10_night 20 = .ok (.invokevirtual 167, 3) := by decide +kernel
theorem dX10_night_23 : decode cX10_night 23 = .ok (.aload_n 0, 1) := by decide +kernel
theorem dX10_night_24 : decode cX10_night 24 = .ok (.getfield 33, 3) := by decide +kernel
theorem dX10_night_27 : decode cX10_night 27 = .ok (.invokevirtual 171, 3) := by decide +kernel
theorem dX10_night_30 : decode cX10_night 30 = .ok (.invokestatic 175, 3) := by decide +kernel
theorem dX10_night_33 : decode cX10_night 33 = .ok (.ireturn, 1) := by decide +kernel
theorem dX10_walk_0 : decode cX10_walk 0 = .ok (.aload_n 0, 1) := by decide +kernel
theorem dX10_walk_1 : decode cX10_walk 1 = .ok (.getfield 33, 3) := by decide +kernel
theorem dX10_walk_4 : decode cX10_walk 4 = .ok (.iload_n 1, 1) := by decide +kernel
theorem dX10_walk_5 : decode cX10_walk 5 = .ok (.invokevirtual 138, 3) := by decide +kernel
theorem dX10_walk_8 : decode cX10_walk 8 = .ok (.ifCond .eq 10, 3) := by decide +kernel
theorem dX10_walk_11 : decode cX10_walk 11 = .ok (.iload_n 2, 1) := by decide +kernel
theorem dX10_walk_12 : decode cX10_walk 12 = .ok (.invokestatic 158, 3) := by decide +kernel
theorem dX10_walk_15 : decode cX10_walk 15 = .ok (.ifCond .ne 5, 3) := by decide +kernel
theorem dX10_walk_18 : decode cX10_walk 18 = .ok (.iconst (-1), 1) := by decide +kernel
theorem dX10_walk_19 : decode cX10_walk 19 = .ok (.ireturn, 1) := by decide +kernel
theorem dX10_walk_20 : decode cX10_walk 20 = .ok (.aload_n 0, 1) := by decide +kernel
theorem dX10_walk_21 : decode cX10_walk 21 = .ok (.getfield 33, 3) := by decide +kernel
theorem dX10_walk_24 : decode cX10_walk 24 = .ok (.iload_n 1, 1) := by decide +kernel
theorem dX10_walk_25 : decode cX10_walk 25 = .ok (.iload_n 2, 1) := by decide +kernel
theorem dX10_walk_26 : decode cX10_walk 26 = .ok (.invokevirtual 180, 3) := by decide +kernel
theorem dX10_walk_29 : decode cX10_walk 29 = .ok (.ifCond .ne 6, 3) := by decide +kernel
theorem dX10_walk_32 : decode cX10_walk 32 = .ok (.bipush (-3), 2) := by decide +kernel
theorem dX10_walk_34 : decode cX10_walk 34 = .ok (.ireturn, 1) := by decide +kernel
theorem dX10_walk_35 : decode cX10_walk 35 = .ok (.iload_n 2, 1) := by decide +kernel
theorem dX10_walk_36 : decode cX10_walk 36 = .ok (.aload_n 0, 1) := by decide +kernel
theorem dX10_walk_37 : decode cX10_walk 37 = .ok (.getfield 33, 3) := by decide +kernel
theorem dX10_walk_40 : decode cX10_walk 40 = .ok (.getfield 139, 3) := by decide +kernel
theorem dX10_walk_43 : decode cX10_walk 43 = .ok (.iload_n 1, 1) := by decide +kernel
theorem dX10_walk_44 : decode cX10_walk 44 = .ok (.iaload, 1) := by decide +kernel
theorem dX10_walk_45 : decode cX10_walk 45 = .ok (.isub, 1) := by decide +kernel
theorem dX10_walk_46 : decode cX10_walk 46 = .ok (.invokestatic 184, 3) := by decide +kernel
theorem dX10_walk_49 : decode cX10_walk 49 = .ok (.istore_n 3, 1) := by decide +kernel
theorem dX10_walk_50 : decode cX10_walk 50 = .ok (.aload_n 0, 1) := by decide +kernel
theorem dX10_walk_51 : decode cX10_walk 51 = .ok (.getfield 43, 3) := by decide +kernel
theorem dX10_walk_54 : decode cX10_walk 54 = .ok (.aload_n 0, 1) := by decide +kernel
theorem dX10_walk_55 : decode cX10_walk 55 = .ok (.getfield 33, 3) := by decide +kernel
theorem dX10_walk_58 : decode cX10_walk 58 = .ok (.invokevirtual 164, 3) := by decide +kernel
theorem dX10_walk_61 : decode cX10_walk 61 = .ok (.aload_n 0, 1) := by decide +kernel
theorem dX10_walk_62 : decode cX10_walk 62 = .ok (.getfield 33, 3) := by decide +kernel
theorem dX10_walk_65 : decode cX10_walk 65 = .ok (.iload_n 1, 1) := by decide +kernel
theorem dX10_walk_66 : decode cX10_walk 66 = .ok (.iload_n 2, 1) := by decide +kernel
theorem dX10_walk_67 : decode cX10_walk 67 = .ok (.invokevirtual 189, 3) := by decide +kernel
theorem dX10_walk_70 : decode cX10_walk 70 = .ok (.iload_n 3, 1) := by decide +kernel
theorem dX10_walk_71 : decode cX10_walk 71 = .ok (.ireturn, 1) := by decide +kernel
theorem dX10_tell_0 : decode cX10_tell 0 = .ok (.aload_n 0, 1) := by decide +kernel
theorem dX10_tell_1 : decode cX10_tell 1 = .ok (.getfield 33, 3) := by decide +kernel
theorem dX10_tell_4 : decode cX10_tell 4 = .ok (.iload_n 1, 1) := by decide +kernel
theorem dX10_tell_5 : decode cX10_tell 5 = .ok (.invokevirtual 138, 3) := by decide +kernel
theorem dX10_tell_8 : decode cX10_tell 8 = .ok (.ifCond .eq 14, 3) := by decide +kernel
theorem dX10_tell_11 : decode cX10_tell 11 = .ok (.aload_n 0, 1) := by decide +kernel
theorem dX10_tell_12 : decode cX10_tell 12 = .ok (.getfield 33, 3) := by decide +kernel
theorem dX10_tell_15 : decode cX10_tell 15 = .ok (.iload_n 2, 1) := by decide +kernel
theorem dX10_tell_16 : decode cX10_tell 16 = .ok (.invokevirtual 138, 3) := by decide +kernel
theorem dX10_tell_19 : decode cX10_tell 19 = .ok (.ifCond .ne 5, 3) := by decide +kernel
theorem dX10_tell_22 : decode cX10_tell 22 = .ok (.iconst (-1), 1) := by decide +kernel
theorem dX10_tell_23 : decode cX10_tell 23 = .ok (.ireturn, 1) := by decide +kernel
theorem dX10_tell_24 : decode cX10_tell 24 = .ok (.iload_n 1, 1) := by decide +kernel
theorem dX10_tell_25 : decode cX10_tell 25 = .ok (.iload_n 2, 1) := by decide +kernel
theorem dX10_tell_26 : decode cX10_tell 26 = .ok (.if_icmp .ne 6, 3) := by decide +kernel
theorem dX10_tell_29 : decode cX10_tell 29 = .ok (.bipush (-2), 2) := by decide +kernel
theorem dX10_tell_31 : decode cX10_tell 31 = .ok (.ireturn, 1) := by decide +kernel
theorem dX10_tell_32 : decode cX10_tell 32 = .ok (.aload_n 0, 1) := by decide +kernel
theorem dX10_tell_33 : decode cX10_tell 33 = .ok (.getfield 33, 3) := by decide +kernel
theorem dX10_tell_36 : decode cX10_tell 36 = .ok (.iload_n 1, 1) := by decide +kernel
theorem dX10_tell_37 : decode cX10_tell 37 = .ok (.iload_n 2, 1) := by decide +kernel
theorem dX10_tell_38 : decode cX10_tell 38 = .ok (.invokevirtual 193, 3) := by decide +kernel
theorem dX10_tell_41 : decode cX10_tell 41 = .ok (.ifCond .ne 6, 3) := by decide +kernel
theorem dX10_tell_44 : decode cX10_tell 44 = .ok (.bipush (-3), 2) := by decide +kernel
theorem dX10_tell_46 : decode cX10_tell 46 = .ok (.ireturn, 1) := by decide +kernel
theorem dX10_tell_47 : decode cX10_tell 47 = .ok (.aload_n 0, 1) := by decide +kernel
theorem dX10_tell_48 : decode cX10_tell 48 = .ok (.getfield 43, 3) := by decide +kernel
theorem dX10_tell_51 : decode cX10_tell 51 = .ok (.aload_n 0, 1) := by decide +kernel
theorem dX10_tell_52 : decode cX10_tell 52 = .ok (.getfield 33, 3) := by decide +kernel
theorem dX10_tell_55 : decode cX10_tell 55 = .ok (.invokevirtual 164, 3) := by decide +kernel
theorem dX10_tell_58 : decode cX10_tell 58 = .ok (.aload_n 0, 1) := by decide +kernel
theorem dX10_tell_59 : decode cX10_tell 59 = .ok (.getfield 33, 3) := by decide +kernel
theorem dX10_tell_62 : decode cX10_tell 62 = .ok (.iload_n 1, 1) := by decide +kernel
theorem dX10_tell_63 : decode cX10_tell 63 = .ok (.iload_n 2, 1) := by decide +kernel
theorem dX10_tell_64 : decode cX10_tell 64 = .ok (.invokevirtual 196, 3) := by decide +kernel
theorem dX10_tell_67 : decode cX10_tell 67 = .ok (.aload_n 0, 1) := by decide +kernel
theorem dX10_tell_68 : decode cX10_tell 68 = .ok (.getfield 33, 3) := by decide +kernel
theorem dX10_tell_71 : decode cX10_tell 71 = .ok (.getfield 143, 3) := by decide +kernel
theorem dX10_tell_74 : decode cX10_tell 74 = .ok (.iload_n 2, 1) := by decide +kernel
theorem dX10_tell_75 : decode cX10_tell 75 = .ok (.iaload, 1) := by decide +kernel
theorem dX10_tell_76 : decode cX10_tell 76 = .ok (.invokestatic 175, 3) := by decide +kernel
theorem dX10_tell_79 : decode cX10_tell 79 = .ok (.ireturn, 1) := by decide +kernel
theorem dX10_wash_0 : decode cX10_wash 0 = .ok (.aload_n 0, 1) := by decide +kernel
theorem dX10_wash_1 : decode cX10_wash 1 = .ok (.getfield 33, 3) := by decide +kernel
theorem dX10_wash_4 : decode cX10_wash 4 = .ok (.iload_n 1, 1) := by decide +kernel
theorem dX10_wash_5 : decode cX10_wash 5 = .ok (.invokevirtual 138, 3) := by decide +kernel
theorem dX10_wash_8 : decode cX10_wash 8 = .ok (.ifCond .ne 5, 3) := by decide +kernel
theorem dX10_wash_11 : decode cX10_wash 11 = .ok (.iconst (-1), 1) := by decide +kernel
theorem dX10_wash_12 : decode cX10_wash 12 = .ok (.ireturn, 1) := by decide +kernel
theorem dX10_wash_13 : decode cX10_wash 13 = .ok (.aload_n 0, 1) := by decide +kernel
theorem dX10_wash_14 : decode cX10_wash 14 = .ok (.getfield 33, 3) := by decide +kernel
theorem dX10_wash_17 : decode cX10_wash 17 = .ok (.iload_n 1, 1) := by decide +kernel
theorem dX10_wash_18 : decode cX10_wash 18 = .ok (.invokevirtual 199, 3) := by decide +kernel
theorem dX10_wash_21 : decode cX10_wash 21 = .ok (.ifCond .ne 6, 3) := by decide +kernel
theorem dX10_wash_24 : decode cX10_wash 24 = .ok (.bipush (-3), 2) := by decide +kernel
theorem dX10_wash_26 : decode cX10_wash 26 = .ok (.ireturn, 1) := by decide +kernel
theorem dX10_wash_27 : decode cX10_wash 27 = .ok (.aload_n 0, 1) := by decide +kernel
theorem dX10_wash_28 : decode cX10_wash 28 = .ok (.getfield 33, 3) := by decide +kernel
theorem dX10_wash_31 : decode cX10_wash 31 = .ok (.getfield 143, 3) := by decide +kernel
theorem dX10_wash_34 : decode cX10_wash 34 = .ok (.iload_n 1, 1) := by decide +kernel
theorem dX10_wash_35 : decode cX10_wash 35 = .ok (.iaload, 1) := by decide +kernel
theorem dX10_wash_36 : decode cX10_wash 36 = .ok (.invokestatic 175, 3) := by decide +kernel
theorem dX10_wash_39 : decode cX10_wash 39 = .ok (.istore_n 2, 1) := by decide +kernel
theorem dX10_wash_40 : decode cX10_wash 40 = .ok (.aload_n 0, 1) := by decide +kernel
theorem dX10_wash_41 : decode cX10_wash 41 = .ok (.getfield 43, 3) := by decide +kernel
theorem dX10_wash_44 : decode cX10_wash 44 = .ok (.aload_n 0, 1) := by decide +kernel
theorem dX10_wash_45 : decode cX10_wash 45 = .ok (.getfield 33, 3) := by decide +kernel
theorem dX10_wash_48 : decode cX10_wash 48 = .ok (.invokevirtual 164, 3) := by decide +kernel
theorem dX10_wash_51 : decode cX10_wash 51 = .ok (.aload_n 0, 1) := by decide +kernel
theorem dX10_wash_52 : decode cX10_wash 52 = .ok (.getfield 33, 3) := by decide +kernel
theorem dX10_wash_55 : decode cX10_wash 55 = .ok (.iload_n 1, 1) := by decide +kernel
theorem dX10_wash_56 : decode cX10_wash 56 = .ok (.invokevirtual 202, 3) := by decide +kernel
theorem dX10_wash_59 : decode cX10_wash 59 = .ok (.iload_n 2, 1) := by decide +kernel
theorem dX10_wash_60 : decode cX10_wash 60 = .ok (.ireturn, 1) := by decide +kernel
theorem dX10_undo_0 : decode cX10_undo 0 = .ok (.aload_n 0, 1) := by decide +kernel
theorem dX10_undo_1 : decode cX10_undo 1 = .ok (.getfield 43, 3) := by decide +kernel
theorem dX10_undo_4 : decode cX10_undo 4 = .ok (.getfield 205, 3) := by decide +kernel
theorem dX10_undo_7 : decode cX10_undo 7 = .ok (.ifCond .gt 6, 3) := by decide +kernel
theorem dX10_undo_10 : decode cX10_undo 10 = .ok (.bipush (-3), 2) := by decide +kernel
theorem dX10_undo_12 : decode cX10_undo 12 = .ok (.ireturn, 1) := by decide +kernel
theorem dX10_undo_13 : decode cX10_undo 13 = .ok (.aload_n 0, 1) := by decide +kernel
theorem dX10_undo_14 : decode cX10_undo 14 = .ok (.getfield 43, 3) := by decide +kernel
theorem dX10_undo_17 : decode cX10_undo 17 = .ok (.aload_n 0, 1) := by decide +kernel
theorem dX10_undo_18 : decode cX10_undo 18 = .ok (.getfield 33, 3) := by decide +kernel
theorem dX10_undo_21 : decode cX10_undo 21 = .ok (.invokevirtual 208, 3) := by decide +kernel
theorem dX10_undo_24 : decode cX10_undo 24 = .ok (.aload_n 0, 1) := by decide +kernel
theorem dX10_undo_25 : decode cX10_undo 25 = .ok (.getfield 43, 3) := by decide +kernel
theorem dX10_undo_28 : decode cX10_undo 28 = .ok (.getfield 205, 3) := by decide +kernel
theorem dX10_undo_31 : decode cX10_undo 31 = .ok (.ireturn, 1) := by decide +kernel
theorem dX10_later_0 : decode cX10_later 0 = .ok (.aload_n 0, 1) := by decide +kernel
theorem dX10_later_1 : decode cX10_later 1 = .ok (.getfield 33, 3) := by decide +kernel
theorem dX10_later_4 : decode cX10_later 4 = .ok (.iload_n 1, 1) := by decide +kernel
theorem dX10_later_5 : decode cX10_later 5 = .ok (.invokevirtual 138, 3) := by decide +kernel
theorem dX10_later_8 : decode cX10_later 8 = .ok (.ifCond .ne 5, 3) := by decide +kernel
theorem dX10_later_11 : decode cX10_later 11 = .ok (.iconst (-1), 1) := by decide +kernel
theorem dX10_later_12 : decode cX10_later 12 = .ok (.ireturn, 1) := by decide +kernel
theorem dX10_later_13 : decode cX10_later 13 = .ok (.iload_n 2, 1) := by decide +kernel
theorem dX10_later_14 : decode cX10_later 14 = .ok (.ifCond .lt 16, 3) := by decide +kernel
theorem dX10_later_17 : decode cX10_later 17 = .ok (.iload_n 2, 1) := by decide +kernel
theorem dX10_later_18 : decode cX10_later 18 = .ok (.bipush 20, 2) := by decide +kernel
theorem dX10_later_20 : decode cX10_later 20 = .ok (.if_icmp .gt 10, 3) := by decide +kernel
theorem dX10_later_23 : decode cX10_later 23 = .ok (.iload_n 3, 1) := by decide +kernel
theorem dX10_later_24 : decode cX10_later 24 = .ok (.invokestatic 211, 3) := by decide +kernel
theorem dX10_later_27 : decode cX10_later 27 = .ok (.ifCond .ne 6, 3) := by decide +kernel
theorem dX10_later_30 : decode cX10_later 30 = .ok (.bipush (-2), 2) := by decide +kernel
theorem dX10_later_32 : decode cX10_later 32 = .ok (.ireturn, 1) := by decide +kernel
theorem dX10_later_33 : decode cX10_later 33 = .ok (.aload_n 0, 1) := by decide +kernel
theorem dX10_later_34 : decode cX10_later 34 = .ok (.getfield 37, 3) := by decide +kernel
theorem dX10_later_37 : decode cX10_later 37 = .ok (.aload_n 0, 1) := by decide +kernel
theorem dX10_later_38 : decode cX10_later 38 = .ok (.getfield 33, 3) := by decide +kernel
theorem dX10_later_41 : decode cX10_later 41 = .ok (.invokevirtual 104, 3) := by decide +kernel
theorem dX10_later_44 : decode cX10_later 44 = .ok (.iconst 0, 1) := by decide +kernel
theorem dX10_later_45 : decode cX10_later 45 = .ok (.istore 4, 2) := by decide +kernel
theorem dX10_later_47 : decode cX10_later 47 = .ok (.iload 4, 2) := by decide +kernel
theorem dX10_later_49 : decode cX10_later 49 = .ok (.iload_n 2, 1) := by decide +kernel
theorem dX10_later_50 : decode cX10_later 50 = .ok (.if_icmp .ge 21, 3) := by decide +kernel
theorem dX10_later_53 : decode cX10_later 53 = .ok (.aload_n 0, 1) := by decide +kernel
theorem dX10_later_54 : decode cX10_later 54 = .ok (.getfield 37, 3) := by decide +kernel
theorem dX10_later_57 : decode cX10_later 57 = .ok (.aload_n 0, 1) := by decide +kernel
theorem dX10_later_58 : decode cX10_later 58 = .ok (.getfield 26, 3) := by decide +kernel
theorem dX10_later_61 : decode cX10_later 61 = .ok (.iconst 0, 1) := by decide +kernel
theorem dX10_later_62 : decode cX10_later 62 = .ok (.invokevirtual 167, 3) := by decide +kernel
theorem dX10_later_65 : decode cX10_later 65 = .ok (.iinc 4 1, 3) := by decide +kernel
theorem dX10_later_68 : decode cX10_later 68 = .ok (.goto (-21), 3) := by decide +kernel
theorem dX10_later_71 : decode cX10_later 71 = .ok (.iload_n 3, 1) := by decide +kernel
theorem dX10_later_72 : decode cX10_later 72 = .ok (.ifCond .ne 15, 3) := by decide +kernel
theorem dX10_later_75 : decode cX10_later 75 = .ok (.aload_n 0, 1) := by decide +kernel
theorem dX10_later_76 : decode cX10_later 76 = .ok (.getfield 37, 3) := by decide +kernel
theorem dX10_later_79 : decode cX10_later 79 = .ok (.getfield 143, 3) := by decide +kernel
theorem dX10_later_82 : decode cX10_later 82 = .ok (.iload_n 1, 1) := by decide +kernel
theorem dX10_later_83 : decode cX10_later 83 = .ok (.iaload, 1) := by decide +kernel
theorem dX10_later_84 : decode cX10_later 84 = .ok (.goto 12, 3) := by decide +kernel
theorem dX10_later_87 : decode cX10_later 87 = .ok (.aload_n 0, 1) := by decide +kernel
theorem dX10_later_88 : decode cX10_later 88 = .ok (.getfield 37, 3) := by decide +kernel
theorem dX10_later_91 : decode cX10_later 91 = .ok (.getfield 146, 3) := by decide +kernel
theorem dX10_later_94 : decode cX10_later 94 = .ok (.iload_n 1, 1) := by decide +kernel
theorem dX10_later_95 : decode cX10_later 95 = .ok (.iaload, 1) := by decide +kernel
theorem dX10_later_96 : decode cX10_later 96 = .ok (.ireturn, 1) := by decide +kernel
theorem dX10_hummock_0 : decode cX10_hummock 0 = .ok (.aload_n 0, 1) := by decide +kernel
theorem dX10_hummock_1 : decode cX10_hummock 1 = .ok (.getfield 33, 3) := by decide +kernel
theorem dX10_hummock_4 : decode cX10_hummock 4 = .ok (.iload_n 1, 1) := by decide +kernel
theorem dX10_hummock_5 : decode cX10_hummock 5 = .ok (.invokevirtual 138, 3) := by decide +kernel
theorem dX10_hummock_8 : decode cX10_hummock 8 = .ok (.ifCond .ne 5, 3) := by decide +kernel
theorem dX10_hummock_11 : decode cX10_hummock 11 = .ok (.iconst (-1), 1) := by decide +kernel
theorem dX10_hummock_12 : decode cX10_hummock 12 = .ok (.ireturn, 1) := by decide +kernel
theorem dX10_hummock_13 : decode cX10_hummock 13 = .ok (.aload_n 0, 1) := by decide +kernel
theorem dX10_hummock_14 : decode cX10_hummock 14 = .ok (.getfield 37, 3) := by decide +kernel
theorem dX10_hummock_17 : decode cX10_hummock 17 = .ok (.aload_n 0, 1) := by decide +kernel
theorem dX10_hummock_18 : decode cX10_hummock 18 = .ok (.getfield 33, 3) := by decide +kernel
theorem dX10_hummock_21 : decode cX10_hummock 21 = .ok (.invokevirtual 104, 3) := by decide +kernel
theorem dX10_hummock_24 : decode cX10_hummock 24 = .ok (.iconst 0, 1) := by decide +kernel
theorem dX10_hummock_25 : decode cX10_hummock 25 = .ok (.istore_n 2, 1) := by decide +kernel
theorem dX10_hummock_26 : decode cX10_hummock 26 = .ok (.iload_n 2, 1) := by decide +kernel
theorem dX10_hummock_27 : decode cX10_hummock 27 = .ok (.bipush 20, 2) := by decide +kernel
theorem dX10_hummock_29 : decode cX10_hummock 29 = .ok (.if_icmp .gt 34, 3) := by decide +kernel
theorem dX10_hummock_32 : decode cX10_hummock 32 = .ok (.aload_n 0, 1) := by decide +kernel
theorem dX10_hummock_33 : decode cX10_hummock 33 = .ok (.getfield 37, 3) := by decide +kernel
theorem dX10_hummock_36 : decode cX10_hummock 36 = .ok (.iload_n 1, 1) := by decide +kernel
theorem dX10_hummock_37 : decode cX10_hummock 37 = .ok (.invokevirtual 155, 3) := by decide +kernel
theorem dX10_hummock_40 : decode cX10_hummock 40 = .ok (.ifCond .eq 5, 3) := by decide +kernel
theorem dX10_hummock_43 : decode cX10_hummock 43 = .ok (.iload_n 2, 1) := by decide +kernel
theorem dX10_hummock_44 : decode cX10_hummock 44 = .ok (.ireturn, 1) := by decide +kernel
theorem dX10_hummock_45 : decode cX10_hummock 45 = .ok (.aload_n 0, 1) := by decide +kernel
theorem dX10_hummock_46 : decode cX10_hummock 46 = .ok (.getfield 37, 3) := by decide +kernel
theorem dX10_hummock_49 : decode cX10_hummock 49 = .ok (.aload_n 0, 1) := by decide +kernel
theorem dX10_hummock_50 : decode cX10_hummock 50 = .ok (.getfield 26, 3) := by decide +kernel
theorem dX10_hummock_53 : decode cX10_hummock 53 = .ok (.iconst 0, 1) := by decide +kernel
theorem dX10_hummock_54 : decode cX10_hummock 54 = .ok (.invokevirtual 167, 3) := by decide +kernel
theorem dX10_hummock_57 : decode cX10_hummock 57 = .ok (.iinc 2 1, 3) := by decide +kernel
theorem dX10_hummock_60 : decode cX10_hummock 60 = .ok (.goto (-34), 3) := by decide +kernel
theorem dX10_hummock_63 : decode cX10_hummock 63 = .ok (.bipush (-9), 2) := by decide +kernel
theorem dX10_hummock_65 : decode cX10_hummock 65 = .ok (.ireturn, 1) := by decide +kernel
theorem dX10_soon_0 : decode cX10_soon 0 = .ok (.aload_n 0, 1) := by decide +kernel
theorem dX10_soon_1 : decode cX10_soon 1 = .ok (.getfield 33, 3) := by decide +kernel
theorem dX10_soon_4 : decode cX10_soon 4 = .ok (.iload_n 1, 1) := by decide +kernel
theorem dX10_soon_5 : decode cX10_soon 5 = .ok (.invokevirtual 138, 3) := by decide +kernel
theorem dX10_soon_8 : decode cX10_soon 8 = .ok (.ifCond .ne 5, 3) := by decide +kernel
theorem dX10_soon_11 : decode cX10_soon 11 = .ok (.iconst (-1), 1) := by decide +kernel
theorem dX10_soon_12 : decode cX10_soon 12 = .ok (.ireturn, 1) := by decide +kernel
theorem dX10_soon_13 : decode cX10_soon 13 = .ok (.iload_n 2, 1) := by decide +kernel
theorem dX10_soon_14 : decode cX10_soon 14 = .ok (.ifCond .lt 16, 3) := by decide +kernel
theorem dX10_soon_17 : decode cX10_soon 17 = .ok (.iload_n 2, 1) := by decide +kernel
theorem dX10_soon_18 : decode cX10_soon 18 = .ok (.bipush 64, 2) := by decide +kernel
theorem dX10_soon_20 : decode cX10_soon 20 = .ok (.if_icmp .ge 10, 3) := by decide +kernel
theorem dX10_soon_23 : decode cX10_soon 23 = .ok (.iload_n 3, 1) := by decide +kernel
theorem dX10_soon_24 : decode cX10_soon 24 = .ok (.invokestatic 211, 3) := by decide +kernel
theorem dX10_soon_27 : decode cX10_soon 27 = .ok (.ifCond .ne 6, 3) := by decide +kernel
theorem dX10_soon_30 : decode cX10_soon 30 = .ok (.bipush (-2), 2) := by decide +kernel
theorem dX10_soon_32 : decode cX10_soon 32 = .ok (.ireturn, 1) := by decide +kernel
theorem dX10_soon_33 : decode cX10_soon 33 = .ok (.aload_n 0, 1) := by decide +kernel
theorem dX10_soon_34 : decode cX10_soon 34 = .ok (.getfield 37, 3) := by decide +kernel
theorem dX10_soon_37 : decode cX10_soon 37 = .ok (.aload_n 0, 1) := by decide +kernel
theorem dX10_soon_38 : decode cX10_soon 38 = .ok (.getfield 33, 3) := by decide +kernel
theorem dX10_soon_41 : decode cX10_soon 41 = .ok (.invokevirtual 104, 3) := by decide +kernel
theorem dX10_soon_44 : decode cX10_soon 44 = .ok (.aload_n 0, 1) := by decide +kernel
theorem dX10_soon_45 : decode cX10_soon 45 = .ok (.getfield 57, 3) := by decide +kernel
theorem dX10_soon_48 : decode cX10_soon 48 = .ok (.aload_n 0, 1) := by decide +kernel
theorem dX10_soon_49 : decode cX10_soon 49 = .ok (.getfield 37, 3) := by decide +kernel
theorem dX10_soon_52 : decode cX10_soon 52 = .ok (.aload_n 0, 1) := by decide +kernel
theorem dX10_soon_53 : decode cX10_soon 53 = .ok (.getfield 26, 3) := by decide +kernel
theorem dX10_soon_56 : decode cX10_soon 56 = .ok (.iload_n 1, 1) := by decide +kernel
theorem dX10_soon_57 : decode cX10_soon 57 = .ok (.iload_n 2, 1) := by decide +kernel
theorem dX10_soon_58 : decode cX10_soon 58 = .ok (.invokevirtual 214, 3) := by decide +kernel
theorem dX10_soon_61 : decode cX10_soon 61 = .ok (.ifCond .ne 6, 3) := by decide +kernel
theorem dX10_soon_64 : decode cX10_soon 64 = .ok (.bipush (-9), 2) := by decide +kernel
theorem dX10_soon_66 : decode cX10_soon 66 = .ok (.ireturn, 1) := by decide +kernel
theorem dX10_soon_67 : decode cX10_soon 67 = .ok (.iload_n 3, 1) := by decide +kernel
theorem dX10_soon_68 : decode cX10_soon 68 = .ok (.ifCond .ne 13, 3) := by decide +kernel
theorem dX10_soon_71 : decode cX10_soon 71 = .ok (.aload_n 0, 1) := by decide +kernel
theorem dX10_soon_72 : decode cX10_soon 72 = .ok (.getfield 57, 3) := by decide +kernel
theorem dX10_soon_75 : decode cX10_soon 75 = .ok (.getfield 218, 3) := by decide +kernel
theorem dX10_soon_78 : decode cX10_soon 78 = .ok (.goto 10, 3) := by decide +kernel
theorem dX10_soon_81 : decode cX10_soon 81 = .ok (.aload_n 0, 1) := by decide +kernel
theorem dX10_soon_82 : decode cX10_soon 82 = .ok (.getfield 57, 3) := by decide +kernel
theorem dX10_soon_85 : decode cX10_soon 85 = .ok (.getfield 221, 3) := by decide +kernel
theorem dX10_soon_88 : decode cX10_soon 88 = .ok (.ireturn, 1) := by decide +kernel
theorem dX10_beneath_0 : decode cX10_beneath 0 = .ok (.iload_n 1, 1) := by decide +kernel
theorem dX10_beneath_1 : decode cX10_beneath 1 = .ok (.invokestatic 211, 3) := by decide +kernel
theorem dX10_beneath_4 : decode cX10_beneath 4 = .ok (.ifCond .ne 6, 3) := by decide +kernel
theorem dX10_beneath_7 : decode cX10_beneath 7 = .ok (.bipush (-2), 2) := by decide +kernel
theorem dX10_beneath_9 : decode cX10_beneath 9 = .ok (.ireturn, 1) := by decide +kernel
theorem dX10_beneath_10 : decode cX10_beneath 10 = .ok (.aload_n 0, 1) := by decide +kernel
theorem dX10_beneath_11 : decode cX10_beneath 11 = .ok (.getfield 64, 3) := by decide +kernel
theorem dX10_beneath_14 : decode cX10_beneath 14 = .ok (.aload_n 0, 1) := by decide +kernel
theorem dX10_beneath_15 : decode cX10_beneath 15 = .ok (.getfield 26, 3) := by decide +kernel
theorem dX10_beneath_18 : decode cX10_beneath 18 = .ok (.invokevirtual 224, 3) := by decide +kernel
theorem dX10_beneath_21 : decode cX10_beneath 21 = .ok (.iload_n 1, 1) := by decide +kernel
theorem dX10_beneath_22 : decode cX10_beneath 22 = .ok (.ifCond .ne 11, 3) := by decide +kernel
theorem dX10_beneath_25 : decode cX10_beneath 25 = .ok (.aload_n 0, 1) := by decide +kernel
theorem dX10_beneath_26 : decode cX10_beneath 26 = .ok (.getfield 64, 3) := by decide +kernel
theorem dX10_beneath_29 : decode cX10_beneath 29 = .ok (.invokevirtual 227, 3) := by decide +kernel
theorem dX10_beneath_32 : decode cX10_beneath 32 = .ok (.ireturn, 1) := by decide +kernel
theorem dX10_beneath_33 : decode cX10_beneath 33 = .ok (.aload_n 0, 1) := by decide +kernel
theorem dX10_beneath_34 : decode cX10_beneath 34 = .ok (.getfield 64, 3) := by decide +kernel
theorem dX10_beneath_37 : decode cX10_beneath 37 = .ok (.invokevirtual 227, 3) := by decide +kernel
theorem dX10_beneath_40 : decode cX10_beneath 40 = .ok (.ifCond .ne 8, 3) := by decide +kernel
theorem dX10_beneath_43 : decode cX10_beneath 43 = .ok (.bipush (-9), 2) := by decide +kernel
theorem dX10_beneath_45 : decode cX10_beneath 45 = .ok (.goto 10, 3) := by decide +kernel
theorem dX10_beneath_48 : decode cX10_beneath 48 = .ok (.aload_n 0, 1) := by decide +kernel
theorem dX10_beneath_49 : decode cX10_beneath 49 = .ok (.getfield 64, 3) := by decide +kernel
theorem dX10_beneath_52 : decode cX10_beneath 52 = .ok (.invokevirtual 230, 3) := by decide +kernel
theorem dX10_beneath_55 : decode cX10_beneath 55 = .ok (.ireturn, 1) := by decide +kernel
theorem dX10_judge_0 : decode cX10_judge 0 = .ok (.iload_n 1, 1) := by decide +kernel
theorem dX10_judge_1 : decode cX10_judge 1 = .ok (.iconst 1, 1) := by decide +kernel
theorem dX10_judge_2 : decode cX10_judge 2 = .ok (.if_icmp .lt 24, 3) := by decide +kernel
theorem dX10_judge_5 : decode cX10_judge 5 = .ok (.iload_n 1, 1) := by decide +kernel
theorem dX10_judge_6 : decode cX10_judge 6 = .ok (.iconst 4, 1) := by decide +kernel
theorem dX10_judge_7 : decode cX10_judge 7 = .ok (.if_icmp .gt 19, 3) := by decide +kernel
theorem dX10_judge_10 : decode cX10_judge 10 = .ok (.lload_n 2, 1) := by decide +kernel
theorem dX10_judge_11 : decode cX10_judge 11 = .ok (.lconst 0, 1) := by decide +kernel
theorem dX10_judge_12 : decode cX10_judge 12 = .ok (.lcmp, 1) := by decide +kernel
theorem dX10_judge_13 : decode cX10_judge 13 = .ok (.ifCond .lt 13, 3) := by decide +kernel
theorem dX10_judge_16 : decode cX10_judge 16 = .ok (.lload_n 2, 1) := by decide +kernel
theorem dX10_judge_17 : decode cX10_judge 17 = .ok (.getstatic 233, 3) := by decide +kernel
theorem dX10_judge_20 : decode cX10_judge 20 = .ok (.iload_n 1, 1) := by decide +kernel
theorem dX10_judge_21 : decode cX10_judge 21 = .ok (.laload, 1) := by decide +kernel
theorem dX10_judge_22 : decode cX10_judge 22 = .ok (.lcmp, 1) := by decide +kernel
theorem dX10_judge_23 : decode cX10_judge 23 = .ok (.ifCond .lt 6, 3) := by decide +kernel
theorem dX10_judge_26 : decode cX10_judge 26 = .ok (.bipush (-2), 2) := by decide +kernel
theorem dX10_judge_28 : decode cX10_judge 28 = .ok (.ireturn, 1) := by decide +kernel
theorem dX10_judge_29 : decode cX10_judge 29 = .ok (.aload_n 0, 1) := by decide +kernel
theorem dX10_judge_30 : decode cX10_judge 30 = .ok (.getfield 37, 3) := by decide +kernel
theorem dX10_judge_33 : decode cX10_judge 33 = .ok (.aload_n 0, 1) := by decide +kernel
theorem dX10_judge_34 : decode cX10_judge 34 = .ok (.getfield 33, 3) := by decide +kernel
theorem dX10_judge_37 : decode cX10_judge 37 = .ok (.invokevirtual 104, 3) := by decide +kernel
theorem dX10_judge_40 : decode cX10_judge 40 = .ok (.iconst 0, 1) := by decide +kernel
theorem dX10_judge_41 : decode cX10_judge 41 = .ok (.istore 4, 2) := by decide +kernel
theorem dX10_judge_43 : decode cX10_judge 43 = .ok (.iload 4, 2) := by decide +kernel
theorem dX10_judge_45 : decode cX10_judge 45 = .ok (.iload_n 1, 1) := by decide +kernel
theorem dX10_judge_46 : decode cX10_judge 46 = .ok (.if_icmp .ge 56, 3) := by decide +kernel
theorem dX10_judge_49 : decode cX10_judge 49 = .ok (.lload_n 2, 1) := by decide +kernel
theorem dX10_judge_50 : decode cX10_judge 50 = .ok (.getstatic 233, 3) := by decide +kernel
theorem dX10_judge_53 : decode cX10_judge 53 = .ok (.iload_n 1, 1) := by decide +kernel
theorem dX10_judge_54 : decode cX10_judge 54 = .ok (.iconst 1, 1) := by decide +kernel
theorem dX10_judge_55 : decode cX10_judge 55 = .ok (.isub, 1) := by decide +kernel
theorem dX10_judge_56 : decode cX10_judge 56 = .ok (.iload 4, 2) := by decide +kernel
theorem dX10_judge_58 : decode cX10_judge 58 = .ok (.isub, 1) := by decide +kernel
theorem dX10_judge_59 : decode cX10_judge 59 = .ok (.laload, 1) := by decide +kernel
theorem dX10_judge_60 : decode cX10_judge 60 = .ok (.ldiv, 1) := by decide +kernel
theorem dX10_judge_61 : decode cX10_judge 61 = .ok (.ldc2_w 237, 3) := by decide +kernel
theorem dX10_judge_64 : decode cX10_judge 64 = .ok (.lrem, 1) := by decide +kernel
theorem dX10_judge_65 : decode cX10_judge 65 = .ok (.l2i, 1) := by decide +kernel
theorem dX10_judge_66 : decode cX10_judge 66 = .ok (.istore 5, 2) := by decide +kernel
theorem dX10_judge_68 : decode cX10_judge 68 = .ok (.aload_n 0, 1) := by decide +kernel
theorem dX10_judge_69 : decode cX10_judge 69 = .ok (.iload 5, 2) := by decide +kernel
theorem dX10_judge_71 : decode cX10_judge 71 = .ok (.bipush 100, 2) := by decide +kernel
theorem dX10_judge_73 : decode cX10_judge 73 = .ok (.idiv, 1) := by decide +kernel
theorem dX10_judge_74 : decode cX10_judge 74 = .ok (.iload 5, 2) := by decide +kernel
theorem dX10_judge_76 : decode cX10_judge 76 = .ok (.bipush 10, 2) := by decide +kernel
theorem dX10_judge_78 : decode cX10_judge 78 = .ok (.idiv, 1) := by decide +kernel
theorem dX10_judge_79 : decode cX10_judge 79 = .ok (.bipush 10, 2) := by decide +kernel
theorem dX10_judge_81 : decode cX10_judge 81 = .ok (.irem, 1) := by decide +kernel
theorem dX10_judge_82 : decode cX10_judge 82 = .ok (.iload 5, 2) := by decide +kernel
theorem dX10_judge_84 : decode cX10_judge 84 = .ok (.bipush 10, 2) := by decide +kernel
theorem dX10_judge_86 : decode cX10_judge 86 = .ok (.irem, 1) := by decide +kernel
theorem dX10_judge_87 : decode cX10_judge 87 = .ok (.invokevirtual 239, 3) := by decide +kernel
theorem dX10_judge_90 : decode cX10_judge 90 = .ok (.ifCond .ne 6, 3) := by decide +kernel
theorem dX10_judge_93 : decode cX10_judge 93 = .ok (.iload 4, 2) := by decide +kernel
theorem dX10_judge_95 : decode cX10_judge 95 = .ok (.ireturn, 1) := by decide +kernel
theorem dX10_judge_96 : decode cX10_judge 96 = .ok (.iinc 4 1, 3) := by decide +kernel
theorem dX10_judge_99 : decode cX10_judge 99 = .ok (.goto (-56), 3) := by decide +kernel
theorem dX10_judge_102 : decode cX10_judge 102 = .ok (.bipush (-9), 2) := by decide +kernel
theorem dX10_judge_104 : decode cX10_judge 104 = .ok (.ireturn, 1) := by decide +kernel
theorem dX10_canBe_0 : decode cX10_canBe 0 = .ok (.iload_n 1, 1) := by decide +kernel
theorem dX10_canBe_1 : decode cX10_canBe 1 = .ok (.tableswitch 176 0 5 #[39, 63, 73, 83, 104, 146], 39) := by decide +kernel
theorem dX10_canBe_40 : decode cX10_canBe 40 = .ok (.iload_n 2, 1) := by decide +kernel
theorem dX10_canBe_41 : decode cX10_canBe 41 = .ok (.ifCond .ne 7, 3) := by decide +kernel
theorem dX10_canBe_44 : decode cX10_canBe 44 = .ok (.iload_n 3, 1) := by decide +kernel
theorem dX10_canBe_45 : decode cX10_canBe 45 = .ok (.ifCond .eq 5, 3) := by decide +kernel
theorem dX10_canBe_48 : decode cX10_canBe 48 = .ok (.iconst 0, 1) := by decide +kernel
theorem dX10_canBe_49 : decode cX10_canBe 49 = .ok (.ireturn, 1) := by decide +kernel
theorem dX10_canBe_50 : decode cX10_canBe 50 = .ok (.aload_n 0, 1) := by decide +kernel
theorem dX10_canBe_51 : decode cX10_canBe 51 = .ok (.getfield 37, 3) := by decide +kernel
theorem dX10_canBe_54 : decode cX10_canBe 54 = .ok (.aload_n 0, 1) := by decide +kernel
theorem dX10_canBe_55 : decode cX10_canBe 55 = .ok (.getfield 26, 3) := by decide +kernel
theorem dX10_canBe_58 : decode cX10_canBe 58 = .ok (.iconst 0, 1) := by decide +kernel
theorem dX10_canBe_59 : decode cX10_canBe 59 = .ok (.invokevirtual 167, 3) := by decide +kernel
theorem dX10_canBe_62 : decode cX10_canBe 62 = .ok (.iconst 1, 1) := by decide +kernel
theorem dX10_canBe_63 : decode cX10_canBe 63 = .ok (.ireturn, 1) := by decide +kernel
theorem dX10_canBe_64 : decode cX10_canBe 64 = .ok (.aload_n 0, 1) := by decide +kernel
theorem dX10_canBe_65 : decode cX10_canBe 65 = .ok (.getfield 37, 3) := by decide +kernel
theorem dX10_canBe_68 : decode cX10_canBe 68 = .ok (.iload_n 2, 1) := by decide +kernel
theorem dX10_canBe_69 : decode cX10_canBe 69 = .ok (.iload_n 3, 1) := by decide +kernel
theorem dX10_canBe_70 : decode cX10_canBe 70 = .ok (.invokevirtual 243, 3) := by decide +kernel
theorem dX10_canBe_73 : decode cX10_canBe 73 = .ok (.ireturn, 1) := by decide +kernel
theorem dX10_canBe_74 : decode cX10_canBe 74 = .ok (.aload_n 0, 1) := by decide +kernel
theorem dX10_canBe_75 : decode cX10_canBe 75 = .ok (.getfield 37, 3) := by decide +kernel
theorem dX10_canBe_78 : decode cX10_canBe 78 = .ok (.iload_n 2, 1) := by decide +kernel
theorem dX10_canBe_79 : decode cX10_canBe 79 = .ok (.iload_n 3, 1) := by decide +kernel
theorem dX10_canBe_80 : decode cX10_canBe 80 = .ok (.invokevirtual 246, 3) := by decide +kernel
theorem dX10_canBe_83 : decode cX10_canBe 83 = .ok (.ireturn, 1) := by decide +kernel
theorem dX10_canBe_84 : decode cX10_canBe 84 = .ok (.iload_n 2, 1) := by decide +kernel
theorem dX10_canBe_85 : decode cX10_canBe 85 = .ok (.ifCond .ne 18, 3) := by decide +kernel
theorem dX10_canBe_88 : decode cX10_canBe 88 = .ok (.aload_n 0, 1) := by decide +kernel
theorem dX10_canBe_89 : decode cX10_canBe 89 = .ok (.getfield 37, 3) := by decide +kernel
theorem dX10_canBe_92 : decode cX10_canBe 92 = .ok (.iload_n 3, 1) := by decide +kernel
theorem dX10_canBe_93 : decode cX10_canBe 93 = .ok (.invokevirtual 249, 3) := by decide +kernel
theorem dX10_canBe_96 : decode cX10_canBe 96 = .ok (.ifCond .eq 7, 3) := by decide +kernel
theorem dX10_canBe_99 : decode cX10_canBe 99 = .ok (.iconst 1, 1) := by decide +kernel
theorem dX10_canBe_100 : decode cX10_canBe 100 = .ok (.goto 4, 3) := by decide +kernel
theorem dX10_canBe_103 : decode cX10_canBe 103 = .ok (.iconst 0, 1) := by decide +kernel
theorem dX10_canBe_104 : decode cX10_canBe 104 = .ok (.ireturn, 1) := by decide +kernel
theorem dX10_canBe_105 : decode cX10_canBe 105 = .ok (.aload_n 0, 1) := by decide +kernel
theorem dX10_canBe_106 : decode cX10_canBe 106 = .ok (.getfield 37, 3) := by decide +kernel
theorem dX10_canBe_109 : decode cX10_canBe 109 = .ok (.iload_n 2, 1) := by decide +kernel
theorem dX10_canBe_110 : decode cX10_canBe 110 = .ok (.invokevirtual 138, 3) := by decide +kernel
theorem dX10_canBe_113 : decode cX10_canBe 113 = .ok (.ifCond .eq 32, 3) := by decide +kernel
theorem dX10_canBe_116 : decode cX10_canBe 116 = .ok (.iload_n 3, 1) := by decide +kernel
theorem dX10_canBe_117 : decode cX10_canBe 117 = .ok (.invokestatic 252, 3) := by decide +kernel
theorem dX10_canBe_120 : decode cX10_canBe 120 = .ok (.ifCond .eq 25, 3) := by decide +kernel
theorem dX10_canBe_123 : decode cX10_canBe 123 = .ok (.aload_n 0, 1) := by decide +kernel
theorem dX10_canBe_124 : decode cX10_canBe 124 = .ok (.getfield 37, 3) := by decide +kernel
theorem dX10_canBe_127 : decode cX10_canBe 127 = .ok (.getfield 143, 3) := by decide +kernel
theorem dX10_canBe_130 : decode cX10_canBe 130 = .ok (.iload_n 2, 1) := by decide +kernel
theorem dX10_canBe_131 : decode cX10_canBe 131 = .ok (.iaload, 1) := by decide +kernel
theorem dX10_canBe_132 : decode cX10_canBe 132 = .ok (.iconst 1, 1) := by decide +kernel
theorem dX10_canBe_133 : decode cX10_canBe 133 = .ok (.iload_n 3, 1) := by decide +kernel
theorem dX10_canBe_134 : decode cX10_canBe 134 = .ok (.iconst 1, 1) := by decide +kernel
theorem dX10_canBe_135 : decode cX10_canBe 135 = .ok (.isub, 1) := by decide +kernel
theorem dX10_canBe_136 : decode cX10_canBe 136 = .ok (.ishl, 1) := by decide +kernel
theorem dX10_canBe_137 : decode cX10_canBe 137 = .ok (.iand, 1) := by decide +kernel
theorem dX10_canBe_138 : decode cX10_canBe 138 = .ok (.ifCond .eq 7, 3) := by decide +kernel
theorem dX10_canBe_141 : decode cX10_canBe 141 = .ok (.iconst 1, 1) := by decide +kernel
theorem dX10_canBe_142 : decode cX10_canBe 142 = .ok (.goto 4, 3) := by decide +kernel
theorem dX10_canBe_145 : decode cX10_canBe 145 = .ok (.iconst 0, 1) := by decide +kernel
theorem dX10_canBe_146 : decode cX10_canBe 146 = .ok (.ireturn, 1) := by decide +kernel
theorem dX10_canBe_147 : decode cX10_canBe 147 = .ok (.aload_n 0, 1) := by decide +kernel
theorem dX10_canBe_148 : decode cX10_canBe 148 = .ok (.getfield 37, 3) := by decide +kernel
theorem dX10_canBe_151 : decode cX10_canBe 151 = .ok (.iload_n 2, 1) := by decide +kernel
theorem dX10_canBe_152 : decode cX10_canBe 152 = .ok (.invokevirtual 138, 3) := by decide +kernel
theorem dX10_canBe_155 : decode cX10_canBe 155 = .ok (.ifCond .eq 20, 3) := by decide +kernel
theorem dX10_canBe_158 : decode cX10_canBe 158 = .ok (.aload_n 0, 1) := by decide +kernel
theorem dX10_canBe_159 : decode cX10_canBe 159 = .ok (.getfield 37, 3) := by decide +kernel
theorem dX10_canBe_162 : decode cX10_canBe 162 = .ok (.getfield 146, 3) := by decide +kernel
theorem dX10_canBe_165 : decode cX10_canBe 165 = .ok (.iload_n 2, 1) := by decide +kernel
theorem dX10_canBe_166 : decode cX10_canBe 166 = .ok (.iaload, 1) := by decide +kernel
theorem dX10_canBe_167 : decode cX10_canBe 167 = .ok (.iload_n 3, 1) := by decide +kernel
theorem dX10_canBe_168 : decode cX10_canBe 168 = .ok (.if_icmp .lt 7, 3) := by decide +kernel
theorem dX10_canBe_171 : decode cX10_canBe 171 = .ok (.iconst 1, 1) := by decide +kernel
theorem dX10_canBe_172 : decode cX10_canBe 172 = .ok (.goto 4, 3) := by decide +kernel
theorem dX10_canBe_175 : decode cX10_canBe 175 = .ok (.iconst 0, 1) := by decide +kernel
theorem dX10_canBe_176 : decode cX10_canBe 176 = .ok (.ireturn, 1) := by decide +kernel
theorem dX10_canBe_177 : decode cX10_canBe 177 = .ok (.iconst 0, 1) := by decide +kernel
theorem dX10_canBe_178 : decode cX10_canBe 178 = .ok (.ireturn, 1) := by decide +kernel
theorem dX10_knew_0 : decode cX10_knew 0 = .ok (.iload_n 1, 1) := by decide +kernel
theorem dX10_knew_1 : decode cX10_knew 1 = .ok (.invokestatic 252, 3) := by decide +kernel
theorem dX10_knew_4 : decode cX10_knew 4 = .ok (.ifCond .eq 12, 3) := by decide +kernel
theorem dX10_knew_7 : decode cX10_knew 7 = .ok (.iload_n 2, 1) := by decide +kernel
theorem dX10_knew_8 : decode cX10_knew 8 = .ok (.ifCond .lt 8, 3) := by decide +kernel
theorem dX10_knew_11 : decode cX10_knew 11 = .ok (.iload_n 2, 1) := by decide +kernel
theorem dX10_knew_12 : decode cX10_knew 12 = .ok (.iconst 1, 1) := by decide +kernel
theorem dX10_knew_13 : decode cX10_knew 13 = .ok (.if_icmp .le 6, 3) := by decide +kernel
theorem dX10_knew_16 : decode cX10_knew 16 = .ok (.bipush (-2), 2) := by decide +kernel
theorem dX10_knew_18 : decode cX10_knew 18 = .ok (.ireturn, 1) := by decide +kernel
theorem dX10_knew_19 : decode cX10_knew 19 = .ok (.aload_n 0, 1) := by decide +kernel
theorem dX10_knew_20 : decode cX10_knew 20 = .ok (.getfield 71, 3) := by decide +kernel
theorem dX10_knew_23 : decode cX10_knew 23 = .ok (.getfield 255, 3) := by decide +kernel
theorem dX10_knew_26 : decode cX10_knew 26 = .ok (.bipush 6, 2) := by decide +kernel
theorem dX10_knew_28 : decode cX10_knew 28 = .ok (.if_icmp .lt 6, 3) := by decide +kernel
theorem dX10_knew_31 : decode cX10_knew 31 = .ok (.bipush (-4), 2) := by decide +kernel
theorem dX10_knew_33 : decode cX10_knew 33 = .ok (.ireturn, 1) := by decide +kernel
theorem dX10_knew_34 : decode cX10_knew 34 = .ok (.aload_n 0, 1) := by decide +kernel
theorem dX10_knew_35 : decode cX10_knew 35 = .ok (.getfield 71, 3) := by decide +kernel
theorem dX10_knew_38 : decode cX10_knew 38 = .ok (.iconst 1, 1) := by decide +kernel
theorem dX10_knew_39 : decode cX10_knew 39 = .ok (.iload_n 1, 1) := by decide +kernel
theorem dX10_knew_40 : decode cX10_knew 40 = .ok (.iconst 1, 1) := by decide +kernel
theorem dX10_knew_41 : decode cX10_knew 41 = .ok (.isub, 1) := by decide +kernel
theorem dX10_knew_42 : decode cX10_knew 42 = .ok (.ishl, 1) := by decide +kernel
theorem dX10_knew_43 : decode cX10_knew 43 = .ok (.iload_n 2, 1) := by decide +kernel
theorem dX10_knew_44 : decode cX10_knew 44 = .ok (.iconst 1, 1) := by decide +kernel
theorem dX10_knew_45 : decode cX10_knew 45 = .ok (.if_icmp .ne 7, 3) := by decide +kernel
theorem dX10_knew_48 : decode cX10_knew 48 = .ok (.iconst 1, 1) := by decide +kernel
theorem dX10_knew_49 : decode cX10_knew 49 = .ok (.goto 4, 3) := by decide +kernel
theorem dX10_knew_52 : decode cX10_knew 52 = .ok (.iconst 0, 1) := by decide +kernel
theorem dX10_knew_53 : decode cX10_knew 53 = .ok (.invokevirtual 256, 3) := by decide +kernel
theorem dX10_knew_56 : decode cX10_knew 56 = .ok (.aload_n 0, 1) := by decide +kernel
theorem dX10_knew_57 : decode cX10_knew 57 = .ok (.getfield 71, 3) := by decide +kernel
theorem dX10_knew_60 : decode cX10_knew 60 = .ok (.getfield 255, 3) := by decide +kernel
theorem dX10_knew_63 : decode cX10_knew 63 = .ok (.ireturn, 1) := by decide +kernel
theorem dX10_unknew_0 : decode cX10_unknew 0 = .ok (.aload_n 0, 1) := by decide +kernel
theorem dX10_unknew_1 : decode cX10_unknew 1 = .ok (.getfield 71, 3) := by decide +kernel
theorem dX10_unknew_4 : decode cX10_unknew 4 = .ok (.getfield 255, 3) := by decide +kernel
theorem dX10_unknew_7 : decode cX10_unknew 7 = .ok (.istore_n 1, 1) := by decide +kernel
theorem dX10_unknew_8 : decode cX10_unknew 8 = .ok (.aload_n 0, 1) := by decide +kernel
theorem dX10_unknew_9 : decode cX10_unknew 9 = .ok (.getfield 71, 3) := by decide +kernel
theorem dX10_unknew_12 : decode cX10_unknew 12 = .ok (.invokevirtual 259, 3) := by decide +kernel
theorem dX10_unknew_15 : decode cX10_unknew 15 = .ok (.iload_n 1, 1) := by decide +kernel
theorem dX10_unknew_16 : decode cX10_unknew 16 = .ok (.ireturn, 1) := by decide +kernel
theorem dX10_lay_0 : decode cX10_lay 0 = .ok (.iload_n 1, 1) := by decide +kernel
theorem dX10_lay_1 : decode cX10_lay 1 = .ok (.invokestatic 211, 3) := by decide +kernel
theorem dX10_lay_4 : decode cX10_lay 4 = .ok (.ifCond .ne 6, 3) := by decide +kernel
theorem dX10_lay_7 : decode cX10_lay 7 = .ok (.bipush (-2), 2) := by decide +kernel
theorem dX10_lay_9 : decode cX10_lay 9 = .ok (.ireturn, 1) := by decide +kernel
theorem dX10_lay_10 : decode cX10_lay 10 = .ok (.aload_n 0, 1) := by decide +kernel
theorem dX10_lay_11 : decode cX10_lay 11 = .ok (.getfield 71, 3) := by decide +kernel
theorem dX10_lay_14 : decode cX10_lay 14 = .ok (.aload_n 0, 1) := by decide +kernel
theorem dX10_lay_15 : decode cX10_lay 15 = .ok (.getfield 26, 3) := by decide +kernel
theorem dX10_lay_18 : decode cX10_lay 18 = .ok (.invokevirtual 260, 3) := by decide +kernel
theorem dX10_lay_21 : decode cX10_lay 21 = .ok (.iload_n 1, 1) := by decide +kernel
theorem dX10_lay_22 : decode cX10_lay 22 = .ok (.ifCond .ne 13, 3) := by decide +kernel
theorem dX10_lay_25 : decode cX10_lay 25 = .ok (.aload_n 0, 1) := by decide +kernel
theorem dX10_lay_26 : decode cX10_lay 26 = .ok (.getfield 71, 3) := by decide +kernel
theorem dX10_lay_29 : decode cX10_lay 29 = .ok (.getfield 261, 3) := by decide +kernel
theorem dX10_lay_32 : decode cX10_lay 32 = .ok (.goto 10, 3) := by decide +kernel
theorem dX10_lay_35 : decode cX10_lay 35 = .ok (.aload_n 0, 1) := by decide +kernel
theorem dX10_lay_36 : decode cX10_lay 36 = .ok (.getfield 71, 3) := by decide +kernel
theorem dX10_lay_39 : decode cX10_lay 39 = .ok (.getfield 264, 3) := by decide +kernel
theorem dX10_lay_42 : decode cX10_lay 42 = .ok (.ireturn, 1) := by decide +kernel
theorem dX10_share_0 : decode cX10_share 0 = .ok (.aload_n 0, 1) := by decide +kernel
theorem dX10_share_1 : decode cX10_share 1 = .ok (.getfield 33, 3) := by decide +kernel
theorem dX10_share_4 : decode cX10_share 4 = .ok (.iload_n 1, 1) := by decide +kernel
theorem dX10_share_5 : decode cX10_share 5 = .ok (.invokevirtual 138, 3) := by decide +kernel
theorem dX10_share_8 : decode cX10_share 8 = .ok (.ifCond .ne 5, 3) := by decide +kernel
theorem dX10_share_11 : decode cX10_share 11 = .ok (.iconst (-1), 1) := by decide +kernel
theorem dX10_share_12 : decode cX10_share 12 = .ok (.ireturn, 1) := by decide +kernel
theorem dX10_share_13 : decode cX10_share 13 = .ok (.iconst 0, 1) := by decide +kernel
theorem dX10_share_14 : decode cX10_share 14 = .ok (.istore_n 3, 1) := by decide +kernel
theorem dX10_share_15 : decode cX10_share 15 = .ok (.iconst 0, 1) := by decide +kernel
theorem dX10_share_16 : decode cX10_share 16 = .ok (.istore 4, 2) := by decide +kernel
theorem dX10_share_18 : decode cX10_share 18 = .ok (.iload 4, 2) := by decide +kernel
theorem dX10_share_20 : decode cX10_share 20 = .ok (.bipush 6, 2) := by decide +kernel
theorem dX10_share_22 : decode cX10_share 22 = .ok (.if_icmp .ge 52, 3) := by decide +kernel
theorem dX10_share_25 : decode cX10_share 25 = .ok (.aload_n 0, 1) := by decide +kernel
theorem dX10_share_26 : decode cX10_share 26 = .ok (.getfield 33, 3) := by decide +kernel
theorem dX10_share_29 : decode cX10_share 29 = .ok (.iconst 1, 1) := by decide +kernel
theorem dX10_share_30 : decode cX10_share 30 = .ok (.iload 4, 2) := by decide +kernel
theorem dX10_share_32 : decode cX10_share 32 = .ok (.ishl, 1) := by decide +kernel
theorem dX10_share_33 : decode cX10_share 33 = .ok (.invokevirtual 267, 3) := by decide +kernel
theorem dX10_share_36 : decode cX10_share 36 = .ok (.istore 5, 2) := by decide +kernel
theorem dX10_share_38 : decode cX10_share 38 = .ok (.aload_n 0, 1) := by decide +kernel
theorem dX10_share_39 : decode cX10_share 39 = .ok (.getfield 33, 3) := by decide +kernel
theorem dX10_share_42 : decode cX10_share 42 = .ok (.getfield 143, 3) := by decide +kernel
theorem dX10_share_45 : decode cX10_share 45 = .ok (.iload_n 1, 1) := by decide +kernel
theorem dX10_share_46 : decode cX10_share 46 = .ok (.iaload, 1) := by decide +kernel
theorem dX10_share_47 : decode cX10_share 47 = .ok (.iconst 1, 1) := by decide +kernel
theorem dX10_share_48 : decode cX10_share 48 = .ok (.iload 4, 2) := by decide +kernel
theorem dX10_share_50 : decode cX10_share 50 = .ok (.ishl, 1) := by decide +kernel
theorem dX10_share_51 : decode cX10_share 51 = .ok (.iand, 1) := by decide +kernel
theorem dX10_share_52 : decode cX10_share 52 = .ok (.ifCond .eq 16, 3) := by decide +kernel
theorem dX10_share_55 : decode cX10_share 55 = .ok (.iload 5, 2) := by decide +kernel
theorem dX10_share_57 : decode cX10_share 57 = .ok (.ifCond .le 11, 3) := by decide +kernel
theorem dX10_share_60 : decode cX10_share 60 = .ok (.iload_n 3, 1) := by decide +kernel
theorem dX10_share_61 : decode cX10_share 61 = .ok (.bipush 12, 2) := by decide +kernel
theorem dX10_share_63 : decode cX10_share 63 = .ok (.iload 5, 2) := by decide +kernel
theorem dX10_share_65 : decode cX10_share 65 = .ok (.idiv, 1) := by decide +kernel
theorem dX10_share_66 : decode cX10_share 66 = .ok (.iadd, 1) := by decide +kernel
theorem dX10_share_67 : decode cX10_share 67 = .ok (.istore_n 3, 1) := by decide +kernel
theorem dX10_share_68 : decode cX10_share 68 = .ok (.iinc 4 1, 3) := by decide +kernel
theorem dX10_share_71 : decode cX10_share 71 = .ok (.goto (-53), 3) := by decide +kernel
theorem dX10_share_74 : decode cX10_share 74 = .ok (.iload_n 3, 1) := by decide +kernel
theorem dX10_share_75 : decode cX10_share 75 = .ok (.bipush 12, 2) := by decide +kernel
theorem dX10_share_77 : decode cX10_share 77 = .ok (.iload_n 2, 1) := by decide +kernel
theorem dX10_share_78 : decode cX10_share 78 = .ok (.invokestatic 270, 3) := by decide +kernel
theorem dX10_share_81 : decode cX10_share 81 = .ok (.ireturn, 1) := by decide +kernel
theorem dX10_rests_0 : decode cX10_rests 0 = .ok (.aload_n 0, 1) := by decide +kernel
theorem dX10_rests_1 : decode cX10_rests 1 = .ok (.getfield 33, 3) := by decide +kernel
theorem dX10_rests_4 : decode cX10_rests 4 = .ok (.iload_n 1, 1) := by decide +kernel
theorem dX10_rests_5 : decode cX10_rests 5 = .ok (.invokevirtual 138, 3) := by decide +kernel
theorem dX10_rests_8 : decode cX10_rests 8 = .ok (.ifCond .eq 14, 3) := by decide +kernel
theorem dX10_rests_11 : decode cX10_rests 11 = .ok (.aload_n 0, 1) := by decide +kernel
theorem dX10_rests_12 : decode cX10_rests 12 = .ok (.getfield 33, 3) := by decide +kernel
theorem dX10_rests_15 : decode cX10_rests 15 = .ok (.iload_n 2, 1) := by decide +kernel
theorem dX10_rests_16 : decode cX10_rests 16 = .ok (.invokevirtual 138, 3) := by decide +kernel
theorem dX10_rests_19 : decode cX10_rests 19 = .ok (.ifCond .ne 5, 3) := by decide +kernel
theorem dX10_rests_22 : decode cX10_rests 22 = .ok (.iconst (-1), 1) := by decide +kernel
theorem dX10_rests_23 : decode cX10_rests 23 = .ok (.ireturn, 1) := by decide +kernel
theorem dX10_rests_24 : decode cX10_rests 24 = .ok (.iload_n 1, 1) := by decide +kernel
theorem dX10_rests_25 : decode cX10_rests 25 = .ok (.iload_n 2, 1) := by decide +kernel
theorem dX10_rests_26 : decode cX10_rests 26 = .ok (.if_icmp .eq 10, 3) := by decide +kernel
theorem dX10_rests_29 : decode cX10_rests 29 = .ok (.iload_n 3, 1) := by decide +kernel
theorem dX10_rests_30 : decode cX10_rests 30 = .ok (.invokestatic 211, 3) := by decide +kernel
theorem dX10_rests_33 : decode cX10_rests 33 = .ok (.ifCond .ne 6, 3) := by decide +kernel
theorem dX10_rests_36 : decode cX10_rests 36 = .ok (.bipush (-2), 2) := by decide +kernel
theorem dX10_rests_38 : decode cX10_rests 38 = .ok (.ireturn, 1) := by decide +kernel
theorem dX10_rests_39 : decode cX10_rests 39 = .ok (.aload_n 0, 1) := by decide +kernel
theorem dX10_rests_40 : decode cX10_rests 40 = .ok (.getfield 78, 3) := by decide +kernel
theorem dX10_rests_43 : decode cX10_rests 43 = .ok (.aload_n 0, 1) := by decide +kernel
theorem dX10_rests_44 : decode cX10_rests 44 = .ok (.getfield 33, 3) := by decide +kernel
theorem dX10_rests_47 : decode cX10_rests 47 = .ok (.aload_n 0, 1) := by decide +kernel
theorem dX10_rests_48 : decode cX10_rests 48 = .ok (.getfield 37, 3) := by decide +kernel
theorem dX10_rests_51 : decode cX10_rests 51 = .ok (.aload_n 0, 1) := by decide +kernel
theorem dX10_rests_52 : decode cX10_rests 52 = .ok (.getfield 26, 3) := by decide +kernel
theorem dX10_rests_55 : decode cX10_rests 55 = .ok (.iload_n 1, 1) := by decide +kernel
theorem dX10_rests_56 : decode cX10_rests 56 = .ok (.iload_n 2, 1) := by decide +kernel
theorem dX10_rests_57 : decode cX10_rests 57 = .ok (.invokevirtual 274, 3) := by decide +kernel
theorem dX10_rests_60 : decode cX10_rests 60 = .ok (.iload_n 3, 1) := by decide +kernel
theorem dX10_rests_61 : decode cX10_rests 61 = .ok (.ifCond .ne 13, 3) := by decide +kernel
theorem dX10_rests_64 : decode cX10_rests 64 = .ok (.aload_n 0, 1) := by decide +kernel
theorem dX10_rests_65 : decode cX10_rests 65 = .ok (.getfield 78, 3) := by decide +kernel
theorem dX10_rests_68 : decode cX10_rests 68 = .ok (.getfield 278, 3) := by decide +kernel
theorem dX10_rests_71 : decode cX10_rests 71 = .ok (.goto 10, 3) := by decide +kernel
theorem dX10_rests_74 : decode cX10_rests 74 = .ok (.aload_n 0, 1) := by decide +kernel
theorem dX10_rests_75 : decode cX10_rests 75 = .ok (.getfield 78, 3) := by decide +kernel
theorem dX10_rests_78 : decode cX10_rests 78 = .ok (.getfield 279, 3) := by decide +kernel
theorem dX10_rests_81 : decode cX10_rests 81 = .ok (.ireturn, 1) := by decide +kernel
theorem dX10_cold_0 : decode cX10_cold 0 = .ok (.aload_n 0, 1) := by decide +kernel
theorem dX10_cold_1 : decode cX10_cold 1 = .ok (.getfield 33, 3) := by decide +kernel
theorem dX10_cold_4 : decode cX10_cold 4 = .ok (.iload_n 1, 1) := by decide +kernel
theorem dX10_cold_5 : decode cX10_cold 5 = .ok (.invokevirtual 138, 3) := by decide +kernel
theorem dX10_cold_8 : decode cX10_cold 8 = .ok (.ifCond .ne 5, 3) := by decide +kernel
theorem dX10_cold_11 : decode cX10_cold 11 = .ok (.iconst (-1), 1) := by decide +kernel
theorem dX10_cold_12 : decode cX10_cold 12 = .ok (.ireturn, 1) := by decide +kernel
theorem dX10_cold_13 : decode cX10_cold 13 = .ok (.iload_n 2, 1) := by decide +kernel
theorem dX10_cold_14 : decode cX10_cold 14 = .ok (.ifCond .lt 19, 3) := by decide +kernel
theorem dX10_cold_17 : decode cX10_cold 17 = .ok (.iload_n 2, 1) := by decide +kernel
theorem dX10_cold_18 : decode cX10_cold 18 = .ok (.bipush 6, 2) := by decide +kernel
theorem dX10_cold_20 : decode cX10_cold 20 = .ok (.if_icmp .gt 13, 3) := by decide +kernel
theorem dX10_cold_23 : decode cX10_cold 23 = .ok (.iload_n 3, 1) := by decide +kernel
theorem dX10_cold_24 : decode cX10_cold 24 = .ok (.ifCond .lt 9, 3) := by decide +kernel
theorem dX10_cold_27 : decode cX10_cold 27 = .ok (.iload_n 3, 1) := by decide +kernel
theorem dX10_cold_28 : decode cX10_cold 28 = .ok (.bipush 10, 2) := by decide +kernel
theorem dX10_cold_30 : decode cX10_cold 30 = .ok (.if_icmp .le 6, 3) := by decide +kernel
theorem dX10_cold_33 : decode cX10_cold 33 = .ok (.bipush (-2), 2) := by decide +kernel
theorem dX10_cold_35 : decode cX10_cold 35 = .ok (.ireturn, 1) := by decide +kernel
theorem dX10_cold_36 : decode cX10_cold 36 = .ok (.iconst 0, 1) := by decide +kernel
theorem dX10_cold_37 : decode cX10_cold 37 = .ok (.istore 5, 2) := by decide +kernel
theorem dX10_cold_39 : decode cX10_cold 39 = .ok (.iconst 0, 1) := by decide +kernel
theorem dX10_cold_40 : decode cX10_cold 40 = .ok (.istore 6, 2) := by decide +kernel
theorem dX10_cold_42 : decode cX10_cold 42 = .ok (.iconst 0, 1) := by decide +kernel
theorem dX10_cold_43 : decode cX10_cold 43 = .ok (.istore 7, 2) := by decide +kernel
theorem dX10_cold_45 : decode cX10_cold 45 = .ok (.iload 7, 2) := by decide +kernel
theorem dX10_cold_47 : decode cX10_cold 47 = .ok (.iconst 1, 1) := by decide +kernel
theorem dX10_cold_48 : decode cX10_cold 48 = .ok (.aload_n 0, 1) := by decide +kernel
theorem dX10_cold_49 : decode cX10_cold 49 = .ok (.getfield 26, 3) := by decide +kernel
theorem dX10_cold_52 : decode cX10_cold 52 = .ok (.getfield 111, 3) := by decide +kernel
theorem dX10_cold_55 : decode cX10_cold 55 = .ok (.ishl, 1) := by decide +kernel
theorem dX10_cold_56 : decode cX10_cold 56 = .ok (.if_icmp .ge 75, 3) := by decide +kernel
theorem dX10_cold_59 : decode cX10_cold 59 = .ok (.aload_n 0, 1) := by decide +kernel
theorem dX10_cold_60 : decode cX10_cold 60 = .ok (.getfield 26, 3) := by decide +kernel
theorem dX10_cold_63 : decode cX10_cold 63 = .ok (.iload 7, 2) := by decide +kernel
theorem dX10_cold_65 : decode cX10_cold 65 = .ok (.iload_n 3, 1) := by decide +kernel
theorem dX10_cold_66 : decode cX10_cold 66 = .ok (.invokevirtual 280, 3) := by decide +kernel
theorem dX10_cold_69 : decode cX10_cold 69 = .ok (.istore 8, 2) := by decide +kernel
theorem dX10_cold_71 : decode cX10_cold 71 = .ok (.aload_n 0, 1) := by decide +kernel
theorem dX10_cold_72 : decode cX10_cold 72 = .ok (.getfield 37, 3) := by decide +kernel
theorem dX10_cold_75 : decode cX10_cold 75 = .ok (.aload_n 0, 1) := by decide +kernel
theorem dX10_cold_76 : decode cX10_cold 76 = .ok (.getfield 33, 3) := by decide +kernel
theorem dX10_cold_79 : decode cX10_cold 79 = .ok (.invokevirtual 104, 3) := by decide +kernel
theorem dX10_cold_82 : decode cX10_cold 82 = .ok (.aload_n 0, 1) := by decide +kernel
theorem dX10_cold_83 : decode cX10_cold 83 = .ok (.getfield 37, 3) := by decide +kernel
theorem dX10_cold_86 : decode cX10_cold 86 = .ok (.aload_n 0, 1) := by decide +kernel
theorem dX10_cold_87 : decode cX10_cold 87 = .ok (.getfield 26, 3) := by decide +kernel
theorem dX10_cold_90 : decode cX10_cold 90 = .ok (.iload 7, 2) := by decide +kernel
theorem dX10_cold_92 : decode cX10_cold 92 = .ok (.invokevirtual 167, 3) := by decide +kernel
theorem dX10_cold_95 : decode cX10_cold 95 = .ok (.aload_n 0, 1) := by decide +kernel
theorem dX10_cold_96 : decode cX10_cold 96 = .ok (.getfield 37, 3) := by decide +kernel
theorem dX10_cold_99 : decode cX10_cold 99 = .ok (.getfield 143, 3) := by decide +kernel
theorem dX10_cold_102 : decode cX10_cold 102 = .ok (.iload_n 1, 1) := by decide +kernel
theorem dX10_cold_103 : decode cX10_cold 103 = .ok (.iaload, 1) := by decide +kernel
theorem dX10_cold_104 : decode cX10_cold 104 = .ok (.invokestatic 175, 3) := by decide +kernel
theorem dX10_cold_107 : decode cX10_cold 107 = .ok (.iload_n 2, 1) := by decide +kernel
theorem dX10_cold_108 : decode cX10_cold 108 = .ok (.if_icmp .lt 10, 3) := by decide +kernel
theorem dX10_cold_111 : decode cX10_cold 111 = .ok (.iload 5, 2) := by decide +kernel
theorem dX10_cold_113 : decode cX10_cold 113 = .ok (.iload 8, 2) := by decide +kernel
theorem dX10_cold_115 : decode cX10_cold 115 = .ok (.iadd, 1) := by decide +kernel
theorem dX10_cold_116 : decode cX10_cold 116 = .ok (.istore 5, 2) := by decide +kernel
theorem dX10_cold_118 : decode cX10_cold 118 = .ok (.iload 6, 2) := by decide +kernel
theorem dX10_cold_120 : decode cX10_cold 120 = .ok (.iload 8, 2) := by decide +kernel
theorem dX10_cold_122 : decode cX10_cold 122 = .ok (.iadd, 1) := by decide +kernel
theorem dX10_cold_123 : decode cX10_cold 123 = .ok (.istore 6, 2) := by decide +kernel
theorem dX10_cold_125 : decode cX10_cold 125 = .ok (.iinc 7 1, 3) := by decide +kernel
theorem dX10_cold_128 : decode cX10_cold 128 = .ok (.goto (-83), 3) := by decide +kernel
theorem dX10_cold_131 : decode cX10_cold 131 = .ok (.iload 5, 2) := by decide +kernel
theorem dX10_cold_133 : decode cX10_cold 133 = .ok (.iload 6, 2) := by decide +kernel
theorem dX10_cold_135 : decode cX10_cold 135 = .ok (.iload 4, 2) := by decide +kernel
theorem dX10_cold_137 : decode cX10_cold 137 = .ok (.invokestatic 270, 3) := by decide +kernel
theorem dX10_cold_140 : decode cX10_cold 140 = .ok (.ireturn, 1) := by decide +kernel
theorem dX10_seed_0 : decode cX10_seed 0 = .ok (.aload_n 0, 1) := by decide +kernel
theorem dX10_seed_1 : decode cX10_seed 1 = .ok (.getfield 82, 3) := by decide +kernel
theorem dX10_seed_4 : decode cX10_seed 4 = .ok (.lstore_n 3, 1) := by decide +kernel
theorem dX10_seed_5 : decode cX10_seed 5 = .ok (.aload_n 0, 1) := by decide +kernel
theorem dX10_seed_6 : decode cX10_seed 6 = .ok (.lload_n 1, 1) := by decide +kernel
theorem dX10_seed_7 : decode cX10_seed 7 = .ok (.putfield 82, 3) := by decide +kernel
theorem dX10_seed_10 : decode cX10_seed 10 = .ok (.lload_n 3, 1) := by decide +kernel
theorem dX10_seed_11 : decode cX10_seed 11 = .ok (.lreturn, 1) := by decide +kernel
theorem dX10_years_0 : decode cX10_years 0 = .ok (.iload_n 1, 1) := by decide +kernel
theorem dX10_years_1 : decode cX10_years 1 = .ok (.iconst 1, 1) := by decide +kernel
theorem dX10_years_2 : decode cX10_years 2 = .ok (.if_icmp .lt 9, 3) := by decide +kernel
theorem dX10_years_5 : decode cX10_years 5 = .ok (.iload_n 1, 1) := by decide +kernel
theorem dX10_years_6 : decode cX10_years 6 = .ok (.bipush 30, 2) := by decide +kernel
theorem dX10_years_8 : decode cX10_years 8 = .ok (.if_icmp .le 6, 3) := by decide +kernel
theorem dX10_years_11 : decode cX10_years 11 = .ok (.bipush (-2), 2) := by decide +kernel
theorem dX10_years_13 : decode cX10_years 13 = .ok (.ireturn, 1) := by decide +kernel
theorem dX10_years_14 : decode cX10_years 14 = .ok (.aload_n 0, 1) := by decide +kernel
theorem dX10_years_15 : decode cX10_years 15 = .ok (.getfield 37, 3) := by decide +kernel
theorem dX10_years_18 : decode cX10_years 18 = .ok (.aload_n 0, 1) := by decide +kernel
theorem dX10_years_19 : decode cX10_years 19 = .ok (.getfield 33, 3) := by decide +kernel
theorem dX10_years_22 : decode cX10_years 22 = .ok (.invokevirtual 104, 3) := by decide +kernel
theorem dX10_years_25 : decode cX10_years 25 = .ok (.iconst 0, 1) := by decide +kernel
theorem dX10_years_26 : decode cX10_years 26 = .ok (.istore_n 2, 1) := by decide +kernel
theorem dX10_years_27 : decode cX10_years 27 = .ok (.iconst 0, 1) := by decide +kernel
theorem dX10_years_28 : decode cX10_years 28 = .ok (.istore_n 3, 1) := by decide +kernel
theorem dX10_years_29 : decode cX10_years 29 = .ok (.iload_n 3, 1) := by decide +kernel
theorem dX10_years_30 : decode cX10_years 30 = .ok (.iload_n 1, 1) := by decide +kernel
theorem dX10_years_31 : decode cX10_years 31 = .ok (.if_icmp .ge 51, 3) := by decide +kernel
theorem dX10_years_34 : decode cX10_years 34 = .ok (.aload_n 0, 1) := by decide +kernel
theorem dX10_years_35 : decode cX10_years 35 = .ok (.aload_n 0, 1) := by decide +kernel
theorem dX10_years_36 : decode cX10_years 36 = .ok (.getfield 82, 3) := by decide +kernel
theorem dX10_years_39 : decode cX10_years 39 = .ok (.ldc2_w 284, 3) := by decide +kernel
theorem dX10_years_42 : decode cX10_years 42 = .ok (.lmul, 1) := by decide +kernel
theorem dX10_years_43 : decode cX10_years 43 = .ok (.ldc2_w 286, 3) := by decide +kernel
theorem dX10_years_46 : decode cX10_years 46 = .ok (.ladd, 1) := by decide +kernel
theorem dX10_years_47 : decode cX10_years 47 = .ok (.putfield 82, 3) := by decide +kernel
theorem dX10_years_50 : decode cX10_years 50 = .ok (.aload_n 0, 1) := by decide +kernel
theorem dX10_years_51 : decode cX10_years 51 = .ok (.aload_n 0, 1) := by decide +kernel
theorem dX10_years_52 : decode cX10_years 52 = .ok (.getfield 82, 3) := by decide +kernel
theorem dX10_years_55 : decode cX10_years 55 = .ok (.bipush 33, 2) := by decide +kernel
theorem dX10_years_57 : decode cX10_years 57 = .ok (.lushr, 1) := by decide +kernel
theorem dX10_years_58 : decode cX10_years 58 = .ok (.ldc2_w 288, 3) := by decide +kernel
theorem dX10_years_61 : decode cX10_years 61 = .ok (.lrem, 1) := by decide +kernel
theorem dX10_years_62 : decode cX10_years 62 = .ok (.l2i, 1) := by decide +kernel
theorem dX10_years_63 : decode cX10_years 63 = .ok (.invokevirtual 290, 3) := by decide +kernel
theorem dX10_years_66 : decode cX10_years 66 = .ok (.iload_n 2, 1) := by decide +kernel
theorem dX10_years_67 : decode cX10_years 67 = .ok (.aload_n 0, 1) := by decide +kernel
theorem dX10_years_68 : decode cX10_years 68 = .ok (.getfield 37, 3) := by decide +kernel
theorem dX10_years_71 : decode cX10_years 71 = .ok (.invokevirtual 293, 3) := by decide +kernel
theorem dX10_years_74 : decode cX10_years 74 = .ok (.iadd, 1) := by decide +kernel
theorem dX10_years_75 : decode cX10_years 75 = .ok (.istore_n 2, 1) := by decide +kernel
theorem dX10_years_76 : decode cX10_years 76 = .ok (.iinc 3 1, 3) := by decide +kernel
theorem dX10_years_79 : decode cX10_years 79 = .ok (.goto (-50), 3) := by decide +kernel
theorem dX10_years_82 : decode cX10_years 82 = .ok (.iload_n 2, 1) := by decide +kernel
theorem dX10_years_83 : decode cX10_years 83 = .ok (.ireturn, 1) := by decide +kernel
theorem dX10_passYear_0 : decode cX10_passYear 0 = .ok (.iload_n 1, 1) := by decide +kernel
theorem dX10_passYear_1 : decode cX10_passYear 1 = .ok (.bipush 40, 2) := by decide +kernel
theorem dX10_passYear_3 : decode cX10_passYear 3 = .ok (.if_icmp .ge 22, 3) := by decide +kernel
theorem dX10_passYear_6 : decode cX10_passYear 6 = .ok (.aload_n 0, 1) := by decide +kernel
theorem dX10_passYear_7 : decode cX10_passYear 7 = .ok (.getfield 37, 3) := by decide +kernel
theorem dX10_passYear_10 : decode cX10_passYear 10 = .ok (.iload_n 1, 1) := by decide +kernel
theorem dX10_passYear_11 : decode cX10_passYear 11 = .ok (.bipush 10, 2) := by decide +kernel
theorem dX10_passYear_13 : decode cX10_passYear 13 = .ok (.idiv, 1) := by decide +kernel
theorem dX10_passYear_14 : decode cX10_passYear 14 = .ok (.iload_n 1, 1) := by decide +kernel
theorem dX10_passYear_15 : decode cX10_passYear 15 = .ok (.bipush 10, 2) := by decide +kernel
theorem dX10_passYear_17 : decode cX10_passYear 17 = .ok (.irem, 1) := by decide +kernel
theorem dX10_passYear_18 : decode cX10_passYear 18 = .ok (.invokevirtual 243, 3) := by decide +kernel
theorem dX10_passYear_21 : decode cX10_passYear 21 = .ok (.pop, 1) := by decide +kernel
theorem dX10_passYear_22 : decode cX10_passYear 22 = .ok (.goto 65, 3) := by decide +kernel
theorem dX10_passYear_25 : decode cX10_passYear 25 = .ok (.iload_n 1, 1) := by decide +kernel
theorem dX10_passYear_26 : decode cX10_passYear 26 = .ok (.bipush 44, 2) := by decide +kernel
theorem dX10_passYear_28 : decode cX10_passYear 28 = .ok (.if_icmp .ge 18, 3) := by decide +kernel
theorem dX10_passYear_31 : decode cX10_passYear 31 = .ok (.aload_n 0, 1) := by decide +kernel
theorem dX10_passYear_32 : decode cX10_passYear 32 = .ok (.getfield 37, 3) := by decide +kernel
theorem dX10_passYear_35 : decode cX10_passYear 35 = .ok (.iload_n 1, 1) := by decide +kernel
theorem dX10_passYear_36 : decode cX10_passYear 36 = .ok (.bipush 40, 2) := by decide +kernel
theorem dX10_passYear_38 : decode cX10_passYear 38 = .ok (.isub, 1) := by decide +kernel
theorem dX10_passYear_39 : decode cX10_passYear 39 = .ok (.invokevirtual 249, 3) := by decide +kernel
theorem dX10_passYear_42 : decode cX10_passYear 42 = .ok (.pop, 1) := by decide +kernel
theorem dX10_passYear_43 : decode cX10_passYear 43 = .ok (.goto 44, 3) := by decide +kernel
theorem dX10_passYear_46 : decode cX10_passYear 46 = .ok (.iload_n 1, 1) := by decide +kernel
theorem dX10_passYear_47 : decode cX10_passYear 47 = .ok (.bipush 48, 2) := by decide +kernel
theorem dX10_passYear_49 : decode cX10_passYear 49 = .ok (.if_icmp .ge 26, 3) := by decide +kernel
theorem dX10_passYear_52 : decode cX10_passYear 52 = .ok (.aload_n 0, 1) := by decide +kernel
theorem dX10_passYear_53 : decode cX10_passYear 53 = .ok (.getfield 37, 3) := by decide +kernel
theorem dX10_passYear_56 : decode cX10_passYear 56 = .ok (.iload_n 1, 1) := by decide +kernel
theorem dX10_passYear_57 : decode cX10_passYear 57 = .ok (.bipush 44, 2) := by decide +kernel
theorem dX10_passYear_59 : decode cX10_passYear 59 = .ok (.isub, 1) := by decide +kernel
theorem dX10_passYear_60 : decode cX10_passYear 60 = .ok (.iload_n 1, 1) := by decide +kernel
theorem dX10_passYear_61 : decode cX10_passYear 61 = .ok (.bipush 44, 2) := by decide +kernel
theorem dX10_passYear_63 : decode cX10_passYear 63 = .ok (.isub, 1) := by decide +kernel
theorem dX10_passYear_64 : decode cX10_passYear 64 = .ok (.iconst 1, 1) := by decide +kernel
theorem dX10_passYear_65 : decode cX10_passYear 65 = .ok (.iadd, 1) := by decide +kernel
theorem dX10_passYear_66 : decode cX10_passYear 66 = .ok (.iconst 4, 1) := by decide +kernel
theorem dX10_passYear_67 : decode cX10_passYear 67 = .ok (.irem, 1) := by decide +kernel
theorem dX10_passYear_68 : decode cX10_passYear 68 = .ok (.invokevirtual 246, 3) := by decide +kernel
theorem dX10_passYear_71 : decode cX10_passYear 71 = .ok (.pop, 1) := by decide +kernel
theorem dX10_passYear_72 : decode cX10_passYear 72 = .ok (.goto 15, 3) := by decide +kernel
theorem dX10_passYear_75 : decode cX10_passYear 75 = .ok (.aload_n 0, 1) := by decide +kernel
theorem dX10_passYear_76 : decode cX10_passYear 76 = .ok (.getfield 37, 3) := by decide +kernel
theorem dX10_passYear_79 : decode cX10_passYear 79 = .ok (.aload_n 0, 1) := by decide +kernel
theorem dX10_passYear_80 : decode cX10_passYear 80 = .ok (.getfield 26, 3) := by decide +kernel
theorem dX10_passYear_83 : decode cX10_passYear 83 = .ok (.iconst 0, 1) := by decide +kernel
theorem dX10_passYear_84 : decode cX10_passYear 84 = .ok (.invokevirtual 167, 3) := by decide +kernel
theorem dX10_passYear_87 : decode cX10_passYear 87 = .ok (.return_, 1) := by decide +kernel
theorem dX10_keep_0 : decode cX10_keep 0 = .ok (.iload_n 1, 1) := by decide +kernel
theorem dX10_keep_1 : decode cX10_keep 1 = .ok (.invokestatic 296, 3) := by decide +kernel
theorem dX10_keep_4 : decode cX10_keep 4 = .ok (.ifCond .ne 5, 3) := by decide +kernel
theorem dX10_keep_7 : decode cX10_keep 7 = .ok (.iconst (-1), 1) := by decide +kernel
theorem dX10_keep_8 : decode cX10_keep 8 = .ok (.ireturn, 1) := by decide +kernel
theorem dX10_keep_9 : decode cX10_keep 9 = .ok (.aload_n 0, 1) := by decide +kernel
theorem dX10_keep_10 : decode cX10_keep 10 = .ok (.getfield 50, 3) := by decide +kernel
theorem dX10_keep_13 : decode cX10_keep 13 = .ok (.iload_n 1, 1) := by decide +kernel
theorem dX10_keep_14 : decode cX10_keep 14 = .ok (.aload_n 0, 1) := by decide +kernel
theorem dX10_keep_15 : decode cX10_keep 15 = .ok (.getfield 33, 3) := by decide +kernel
theorem dX10_keep_18 : decode cX10_keep 18 = .ok (.invokevirtual 299, 3) := by decide +kernel
theorem dX10_keep_21 : decode cX10_keep 21 = .ok (.aload_n 0, 1) := by decide +kernel
theorem dX10_keep_22 : decode cX10_keep 22 = .ok (.getfield 33, 3) := by decide +kernel
theorem dX10_keep_25 : decode cX10_keep 25 = .ok (.getfield 303, 3) := by decide +kernel
theorem dX10_keep_28 : decode cX10_keep 28 = .ok (.ireturn, 1) := by decide +kernel
theorem dX10_again_0 : decode cX10_again 0 = .ok (.iload_n 1, 1) := by decide +kernel
theorem dX10_again_1 : decode cX10_again 1 = .ok (.invokestatic 296, 3) := by decide +kernel
theorem dX10_again_4 : decode cX10_again 4 = .ok (.ifCond .ne 5, 3) := by decide +kernel
theorem dX10_again_7 : decode cX10_again 7 = .ok (.iconst (-1), 1) := by decide +kernel
theorem dX10_again_8 : decode cX10_again 8 = .ok (.ireturn, 1) := by decide +kernel
theorem dX10_again_9 : decode cX10_again 9 = .ok (.aload_n 0, 1) := by decide +kernel
theorem dX10_again_10 : decode cX10_again 10 = .ok (.getfield 50, 3) := by decide +kernel
theorem dX10_again_13 : decode cX10_again 13 = .ok (.iload_n 1, 1) := by decide +kernel
theorem dX10_again_14 : decode cX10_again 14 = .ok (.invokevirtual 304, 3) := by decide +kernel
theorem dX10_again_17 : decode cX10_again 17 = .ok (.ifCond .ne 6, 3) := by decide +kernel
theorem dX10_again_20 : decode cX10_again 20 = .ok (.bipush (-3), 2) := by decide +kernel
theorem dX10_again_22 : decode cX10_again 22 = .ok (.ireturn, 1) := by decide +kernel
theorem dX10_again_23 : decode cX10_again 23 = .ok (.aload_n 0, 1) := by decide +kernel
theorem dX10_again_24 : decode cX10_again 24 = .ok (.getfield 50, 3) := by decide +kernel
theorem dX10_again_27 : decode cX10_again 27 = .ok (.iload_n 1, 1) := by decide +kernel
theorem dX10_again_28 : decode cX10_again 28 = .ok (.aload_n 0, 1) := by decide +kernel
theorem dX10_again_29 : decode cX10_again 29 = .ok (.getfield 33, 3) := by decide +kernel
theorem dX10_again_32 : decode cX10_again 32 = .ok (.invokevirtual 307, 3) := by decide +kernel
theorem dX10_again_35 : decode cX10_again 35 = .ok (.aload_n 0, 1) := by decide +kernel
theorem dX10_again_36 : decode cX10_again 36 = .ok (.getfield 43, 3) := by decide +kernel
theorem dX10_again_39 : decode cX10_again 39 = .ok (.invokevirtual 107, 3) := by decide +kernel
theorem dX10_again_42 : decode cX10_again 42 = .ok (.aload_n 0, 1) := by decide +kernel
theorem dX10_again_43 : decode cX10_again 43 = .ok (.getfield 33, 3) := by decide +kernel
theorem dX10_again_46 : decode cX10_again 46 = .ok (.getfield 303, 3) := by decide +kernel
theorem dX10_again_49 : decode cX10_again 49 = .ok (.ireturn, 1) := by decide +kernel
theorem dX10_count_0 : decode cX10_count 0 = .ok (.iload_n 1, 1) := by decide +kernel
theorem dX10_count_1 : decode cX10_count 1 = .ok (.tableswitch 135 0 9 #[55, 63, 71, 79, 87, 95, 103, 111, 119, 127], 55) := by decide +kernel
theorem dX10_count_56 : decode cX10_count 56 = .ok (.aload_n 0, 1) := by decide +kernel
theorem dX10_count_57 : decode cX10_count 57 = .ok (.getfield 10, 3) := by decide +kernel
theorem dX10_count_60 : decode cX10_count 60 = .ok (.getfield 86, 3) := by decide +kernel
theorem dX10_count_63 : decode cX10_count 63 = .ok (.ireturn, 1) := by decide +kernel
theorem dX10_count_64 : decode cX10_count 64 = .ok (.aload_n 0, 1) := by decide +kernel
theorem dX10_count_65 : decode cX10_count 65 = .ok (.getfield 26, 3) := by decide +kernel
theorem dX10_count_68 : decode cX10_count 68 = .ok (.getfield 111, 3) := by decide +kernel
theorem dX10_count_71 : decode cX10_count 71 = .ok (.ireturn, 1) := by decide +kernel
theorem dX10_count_72 : decode cX10_count 72 = .ok (.aload_n 0, 1) := by decide +kernel
theorem dX10_count_73 : decode cX10_count 73 = .ok (.getfield 33, 3) := by decide +kernel
theorem dX10_count_76 : decode cX10_count 76 = .ok (.getfield 114, 3) := by decide +kernel
theorem dX10_count_79 : decode cX10_count 79 = .ok (.ireturn, 1) := by decide +kernel
theorem dX10_count_80 : decode cX10_count 80 = .ok (.aload_n 0, 1) := by decide +kernel
theorem dX10_count_81 : decode cX10_count 81 = .ok (.getfield 33, 3) := by decide +kernel
theorem dX10_count_84 : decode cX10_count 84 = .ok (.getfield 303, 3) := by decide +kernel
theorem dX10_count_87 : decode cX10_count 87 = .ok (.ireturn, 1) := by decide +kernel
theorem dX10_count_88 : decode cX10_count 88 = .ok (.aload_n 0, 1) := by decide +kernel
theorem dX10_count_89 : decode cX10_count 89 = .ok (.getfield 33, 3) := by decide +kernel
theorem dX10_count_92 : decode cX10_count 92 = .ok (.invokevirtual 171, 3) := by decide +kernel
theorem dX10_count_95 : decode cX10_count 95 = .ok (.ireturn, 1) := by decide +kernel
theorem dX10_count_96 : decode cX10_count 96 = .ok (.aload_n 0, 1) := by decide +kernel
theorem dX10_count_97 : decode cX10_count 97 = .ok (.getfield 33, 3) := by decide +kernel
theorem dX10_count_100 : decode cX10_count 100 = .ok (.getfield 310, 3) := by decide +kernel
theorem dX10_count_103 : decode cX10_count 103 = .ok (.ireturn, 1) := by decide +kernel
theorem dX10_count_104 : decode cX10_count 104 = .ok (.aload_n 0, 1) := by decide +kernel
theorem dX10_count_105 : decode cX10_count 105 = .ok (.getfield 33, 3) := by decide +kernel
theorem dX10_count_108 : decode cX10_count 108 = .ok (.invokevirtual 313, 3) := by decide +kernel
theorem dX10_count_111 : decode cX10_count 111 = .ok (.ireturn, 1) := by decide +kernel
theorem dX10_count_112 : decode cX10_count 112 = .ok (.aload_n 0, 1) := by decide +kernel
theorem dX10_count_113 : decode cX10_count 113 = .ok (.getfield 26, 3) := by decide +kernel
theorem dX10_count_116 : decode cX10_count 116 = .ok (.invokevirtual 316, 3) := by decide +kernel
theorem dX10_count_119 : decode cX10_count 119 = .ok (.ireturn, 1) := by decide +kernel
theorem dX10_count_120 : decode cX10_count 120 = .ok (.aload_n 0, 1) := by decide +kernel
theorem dX10_count_121 : decode cX10_count 121 = .ok (.getfield 43, 3) := by decide +kernel
theorem dX10_count_124 : decode cX10_count 124 = .ok (.getfield 205, 3) := by decide +kernel
theorem dX10_count_127 : decode cX10_count 127 = .ok (.ireturn, 1) := by decide +kernel
theorem dX10_count_128 : decode cX10_count 128 = .ok (.aload_n 0, 1) := by decide +kernel
theorem dX10_count_129 : decode cX10_count 129 = .ok (.getfield 71, 3) := by decide +kernel
theorem dX10_count_132 : decode cX10_count 132 = .ok (.getfield 255, 3) := by decide +kernel
theorem dX10_count_135 : decode cX10_count 135 = .ok (.ireturn, 1) := by decide +kernel
theorem dX10_count_136 : decode cX10_count 136 = .ok (.bipush (-2), 2) := by decide +kernel
theorem dX10_count_138 : decode cX10_count 138 = .ok (.ireturn, 1) := by decide +kernel
theorem dX10_isPlace_0 : decode cX10_isPlace 0 = .ok (.iload_n 0, 1) := by decide +kernel
theorem dX10_isPlace_1 : decode cX10_isPlace 1 = .ok (.ifCond .lt 13, 3) := by decide +kernel
theorem dX10_isPlace_4 : decode cX10_isPlace 4 = .ok (.iload_n 0, 1) := by decide +kernel
theorem dX10_isPlace_5 : decode cX10_isPlace 5 = .ok (.bipush 10, 2) := by decide +kernel
theorem dX10_isPlace_7 : decode cX10_isPlace 7 = .ok (.if_icmp .ge 7, 3) := by decide +kernel
theorem dX10_isPlace_10 : decode cX10_isPlace 10 = .ok (.iconst 1, 1) := by decide +kernel
theorem dX10_isPlace_11 : decode cX10_isPlace 11 = .ok (.goto 4, 3) := by decide +kernel
theorem dX10_isPlace_14 : decode cX10_isPlace 14 = .ok (.iconst 0, 1) := by decide +kernel
theorem dX10_isPlace_15 : decode cX10_isPlace 15 = .ok (.ireturn, 1) := by decide +kernel
theorem dX10_isSlot_0 : decode cX10_isSlot 0 = .ok (.iload_n 0, 1) := by decide +kernel
theorem dX10_isSlot_1 : decode cX10_isSlot 1 = .ok (.ifCond .lt 12, 3) := by decide +kernel
theorem dX10_isSlot_4 : decode cX10_isSlot 4 = .ok (.iload_n 0, 1) := by decide +kernel
theorem dX10_isSlot_5 : decode cX10_isSlot 5 = .ok (.iconst 2, 1) := by decide +kernel
theorem dX10_isSlot_6 : decode cX10_isSlot 6 = .ok (.if_icmp .ge 7, 3) := by decide +kernel
theorem dX10_isSlot_9 : decode cX10_isSlot 9 = .ok (.iconst 1, 1) := by decide +kernel
theorem dX10_isSlot_10 : decode cX10_isSlot 10 = .ok (.goto 4, 3) := by decide +kernel
theorem dX10_isSlot_13 : decode cX10_isSlot 13 = .ok (.iconst 0, 1) := by decide +kernel
theorem dX10_isSlot_14 : decode cX10_isSlot 14 = .ok (.ireturn, 1) := by decide +kernel
theorem dX10_isLayerFigure_0 : decode cX10_isLayerFigure 0 = .ok (.iload_n 0, 1) := by decide +kernel
theorem dX10_isLayerFigure_1 : decode cX10_isLayerFigure 1 = .ok (.iconst 1, 1) := by decide +kernel
theorem dX10_isLayerFigure_2 : decode cX10_isLayerFigure 2 = .ok (.if_icmp .lt 13, 3) := by decide +kernel
theorem dX10_isLayerFigure_5 : decode cX10_isLayerFigure 5 = .ok (.iload_n 0, 1) := by decide +kernel
theorem dX10_isLayerFigure_6 : decode cX10_isLayerFigure 6 = .ok (.bipush 6, 2) := by decide +kernel
theorem dX10_isLayerFigure_8 : decode cX10_isLayerFigure 8 = .ok (.if_icmp .gt 7, 3) := by decide +kernel
theorem dX10_isLayerFigure_11 : decode cX10_isLayerFigure 11 = .ok (.iconst 1, 1) := by decide +kernel
theorem dX10_isLayerFigure_12 : decode cX10_isLayerFigure 12 = .ok (.goto 4, 3) := by decide +kernel
theorem dX10_isLayerFigure_15 : decode cX10_isLayerFigure 15 = .ok (.iconst 0, 1) := by decide +kernel
theorem dX10_isLayerFigure_16 : decode cX10_isLayerFigure 16 = .ok (.ireturn, 1) := by decide +kernel
theorem dX10_isFirstOrSecond_0 : decode cX10_isFirstOrSecond 0 = .ok (.iload_n 0, 1) := by decide +kernel
theorem dX10_isFirstOrSecond_1 : decode cX10_isFirstOrSecond 1 = .ok (.ifCond .eq 8, 3) := by decide +kernel
theorem dX10_isFirstOrSecond_4 : decode cX10_isFirstOrSecond 4 = .ok (.iload_n 0, 1) := by decide +kernel
theorem dX10_isFirstOrSecond_5 : decode cX10_isFirstOrSecond 5 = .ok (.iconst 1, 1) := by decide +kernel
theorem dX10_isFirstOrSecond_6 : decode cX10_isFirstOrSecond 6 = .ok (.if_icmp .ne 7, 3) := by decide +kernel
theorem dX10_isFirstOrSecond_9 : decode cX10_isFirstOrSecond 9 = .ok (.iconst 1, 1) := by decide +kernel
theorem dX10_isFirstOrSecond_10 : decode cX10_isFirstOrSecond 10 = .ok (.goto 4, 3) := by decide +kernel
theorem dX10_isFirstOrSecond_13 : decode cX10_isFirstOrSecond 13 = .ok (.iconst 0, 1) := by decide +kernel
theorem dX10_isFirstOrSecond_14 : decode cX10_isFirstOrSecond 14 = .ok (.ireturn, 1) := by decide +kernel
theorem dX10_appetiteOf_0 : decode cX10_appetiteOf 0 = .ok (.iload_n 0, 1) := by decide +kernel
theorem dX10_appetiteOf_1 : decode cX10_appetiteOf 1 = .ok (.lookupswitch 32 #[(1, 27), (2, 29)], 27) := by decide +kernel
theorem dX10_appetiteOf_28 : decode cX10_appetiteOf 28 = .ok (.iconst 2, 1) := by decide +kernel
theorem dX10_appetiteOf_29 : decode cX10_appetiteOf 29 = .ok (.ireturn, 1) := by decide +kernel
theorem dX10_appetiteOf_30 : decode cX10_appetiteOf 30 = .ok (.bipush 6, 2) := by decide +kernel
theorem dX10_appetiteOf_32 : decode cX10_appetiteOf 32 = .ok (.ireturn, 1) := by decide +kernel
theorem dX10_appetiteOf_33 : decode cX10_appetiteOf 33 = .ok (.iconst 1, 1) := by decide +kernel
theorem dX10_appetiteOf_34 : decode cX10_appetiteOf 34 = .ok (.ireturn, 1) := by decide +kernel
theorem dX10_fractionPart_0 : decode cX10_fractionPart 0 = .ok (.iconst 1, 1) := by decide +kernel
theorem dX10_fractionPart_1 : decode cX10_fractionPart 1 = .ok (.iload_n 0, 1) := by decide +kernel
theorem dX10_fractionPart_2 : decode cX10_fractionPart 2 = .ok (.iload_n 1, 1) := by decide +kernel
theorem dX10_fractionPart_3 : decode cX10_fractionPart 3 = .ok (.invokestatic 319, 3) := by decide +kernel
theorem dX10_fractionPart_6 : decode cX10_fractionPart 6 = .ok (.invokestatic 322, 3) := by decide +kernel
theorem dX10_fractionPart_9 : decode cX10_fractionPart 9 = .ok (.istore_n 3, 1) := by decide +kernel
theorem dX10_fractionPart_10 : decode cX10_fractionPart 10 = .ok (.iload_n 2, 1) := by decide +kernel
theorem dX10_fractionPart_11 : decode cX10_fractionPart 11 = .ok (.ifCond .eq 9, 3) := by decide +kernel
theorem dX10_fractionPart_14 : decode cX10_fractionPart 14 = .ok (.iload_n 0, 1) := by decide +kernel
theorem dX10_fractionPart_15 : decode cX10_fractionPart 15 = .ok (.iload_n 3, 1) := by decide +kernel
theorem dX10_fractionPart_16 : decode cX10_fractionPart 16 = .ok (.idiv, 1) := by decide +kernel
theorem dX10_fractionPart_17 : decode cX10_fractionPart 17 = .ok (.goto 6, 3) := by decide +kernel
theorem dX10_fractionPart_20 : decode cX10_fractionPart 20 = .ok (.iload_n 1, 1) := by decide +kernel
theorem dX10_fractionPart_21 : decode cX10_fractionPart 21 = .ok (.iload_n 3, 1) := by decide +kernel
theorem dX10_fractionPart_22 : decode cX10_fractionPart 22 = .ok (.idiv, 1) := by decide +kernel
theorem dX10_fractionPart_23 : decode cX10_fractionPart 23 = .ok (.ireturn, 1) := by decide +kernel
theorem dX10_commonDivisor_0 : decode cX10_commonDivisor 0 = .ok (.iload_n 0, 1) := by decide +kernel
theorem dX10_commonDivisor_1 : decode cX10_commonDivisor 1 = .ok (.istore_n 2, 1) := by decide +kernel
theorem dX10_commonDivisor_2 : decode cX10_commonDivisor 2 = .ok (.iload_n 1, 1) := by decide +kernel
theorem dX10_commonDivisor_3 : decode cX10_commonDivisor 3 = .ok (.istore_n 3, 1) := by decide +kernel
theorem dX10_commonDivisor_4 : decode cX10_commonDivisor 4 = .ok (.iconst 0, 1) := by decide +kernel
theorem dX10_commonDivisor_5 : decode cX10_commonDivisor 5 = .ok (.istore 4, 2) := by decide +kernel
theorem dX10_commonDivisor_7 : decode cX10_commonDivisor 7 = .ok (.iload 4, 2) := by decide +kernel
theorem dX10_commonDivisor_9 : decode cX10_commonDivisor 9 = .ok (.bipush 64, 2) := by decide +kernel
theorem dX10_commonDivisor_11 : decode cX10_commonDivisor 11 = .ok (.if_icmp .ge 23, 3) := by decide +kernel
theorem dX10_commonDivisor_14 : decode cX10_commonDivisor 14 = .ok (.iload_n 3, 1) := by decide +kernel
theorem dX10_commonDivisor_15 : decode cX10_commonDivisor 15 = .ok (.ifCond .eq 19, 3) := by decide +kernel
theorem dX10_commonDivisor_18 : decode cX10_commonDivisor 18 = .ok (.iload_n 2, 1) := by decide +kernel
theorem dX10_commonDivisor_19 : decode cX10_commonDivisor 19 = .ok (.iload_n 3, 1) := by decide +kernel
theorem dX10_commonDivisor_20 : decode cX10_commonDivisor 20 = .ok (.irem, 1) := by decide +kernel
theorem dX10_commonDivisor_21 : decode cX10_commonDivisor 21 = .ok (.istore 5, 2) := by decide +kernel
theorem dX10_commonDivisor_23 : decode cX10_commonDivisor 23 = .ok (.iload_n 3, 1) := by decide +kernel
theorem dX10_commonDivisor_24 : decode cX10_commonDivisor 24 = .ok (.istore_n 2, 1) := by decide +kernel
theorem dX10_commonDivisor_25 : decode cX10_commonDivisor 25 = .ok (.iload 5, 2) := by decide +kernel
theorem dX10_commonDivisor_27 : decode cX10_commonDivisor 27 = .ok (.istore_n 3, 1) := by decide +kernel
theorem dX10_commonDivisor_28 : decode cX10_commonDivisor 28 = .ok (.iinc 4 1, 3) := by decide +kernel
theorem dX10_commonDivisor_31 : decode cX10_commonDivisor 31 = .ok (.goto (-24), 3) := by decide +kernel
theorem dX10_commonDivisor_34 : decode cX10_commonDivisor 34 = .ok (.iload_n 2, 1) := by decide +kernel
theorem dX10_commonDivisor_35 : decode cX10_commonDivisor 35 = .ok (.ireturn, 1) := by decide +kernel
