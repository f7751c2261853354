theorem dX11_init_0 : decode cX11_init 0 = .ok (.aload_n 0, 1) := by decide +kernel
theorem dX11_init_1 : decode cX11_init 1 = .ok (.invokespecial 1, 3) := by decide +kernel
theorem dX11_init_4 : decode cX11_init 4 = .ok (.aload_n 0, 1) := by decide +kernel
theorem dX11_init_5 : decode cX11_init 5 = .ok (.iconst 4, 1) := by decide +kernel
theorem dX11_init_6 : decode cX11_init 6 = .ok (.newarray .int, 2) := by decide +kernel
theorem dX11_init_8 : decode cX11_init 8 = .ok (.putfield 7, 3) := by decide +kernel
theorem dX11_init_11 : decode cX11_init 11 = .ok (.aload_n 0, 1) := by decide +kernel
theorem dX11_init_12 : decode cX11_init 12 = .ok (.iconst 4, 1) := by decide +kernel
theorem dX11_init_13 : decode cX11_init 13 = .ok (.newarray .int, 2) := by decide +kernel
theorem dX11_init_15 : decode cX11_init 15 = .ok (.putfield 13, 3) := by decide +kernel
theorem dX11_init_18 : decode cX11_init 18 = .ok (.aload_n 0, 1) := by decide +kernel
theorem dX11_init_19 : decode cX11_init 19 = .ok (.bipush 16, 2) := by decide +kernel
theorem dX11_init_21 : decode cX11_init 21 = .ok (.newarray .int, 2) := by decide +kernel
theorem dX11_init_23 : decode cX11_init 23 = .ok (.putfield 16, 3) := by decide +kernel
theorem dX11_init_26 : decode cX11_init 26 = .ok (.aload_n 0, 1) := by decide +kernel
theorem dX11_init_27 : decode cX11_init 27 = .ok (.iconst 4, 1) := by decide +kernel
theorem dX11_init_28 : decode cX11_init 28 = .ok (.newarray .int, 2) := by decide +kernel
theorem dX11_init_30 : decode cX11_init 30 = .ok (.putfield 19, 3) := by decide +kernel
theorem dX11_init_33 : decode cX11_init 33 = .ok (.aload_n 0, 1) := by decide +kernel
theorem dX11_init_34 : decode cX11_init 34 = .ok (.bipush 28, 2) := by decide +kernel
theorem dX11_init_36 : decode cX11_init 36 = .ok (.newarray .int, 2) := by decide +kernel
theorem dX11_init_38 : decode cX11_init 38 = .ok (.putfield 22, 3) := by decide +kernel
theorem dX11_init_41 : decode cX11_init 41 = .ok (.aload_n 0, 1) := by decide +kernel
theorem dX11_init_42 : decode cX11_init 42 = .ok (.iconst 4, 1) := by decide +kernel
theorem dX11_init_43 : decode cX11_init 43 = .ok (.newarray .int, 2) := by decide +kernel
theorem dX11_init_45 : decode cX11_init 45 = .ok (.putfield 25, 3) := by decide +kernel
theorem dX11_init_48 : decode cX11_init 48 = .ok (.aload_n 0, 1) := by decide +kernel
theorem dX11_init_49 : decode cX11_init 49 = .ok (.iconst 4, 1) := by decide +kernel
theorem dX11_init_50 : decode cX11_init 50 = .ok (.newarray .int, 2) := by decide +kernel
theorem dX11_init_52 : decode cX11_init 52 = .ok (.putfield 28, 3) := by decide +kernel
theorem dX11_init_55 : decode cX11_init 55 = .ok (.aload_n 0, 1) := by decide +kernel
theorem dX11_init_56 : decode cX11_init 56 = .ok (.bipush 16, 2) := by decide +kernel
theorem dX11_init_58 : decode cX11_init 58 = .ok (.newarray .int, 2) := by decide +kernel
theorem dX11_init_60 : decode cX11_init 60 = .ok (.putfield 31, 3) := by decide +kernel
theorem dX11_init_63 : decode cX11_init 63 = .ok (.aload_n 0, 1) := by decide +kernel
theorem dX11_init_64 : decode cX11_init 64 = .ok (.bipush 8, 2) := by decide +kernel
theorem dX11_init_66 : decode cX11_init 66 = .ok (.newarray .int, 2) := by decide +kernel
theorem dX11_init_68 : decode cX11_init 68 = .ok (.putfield 34, 3) := by decide +kernel
theorem dX11_init_71 : decode cX11_init 71 = .ok (.aload_n 0, 1) := by decide +kernel
theorem dX11_init_72 : decode cX11_init 72 = .ok (.bipush 48, 2) := by decide +kernel
theorem dX11_init_74 : decode cX11_init 74 = .ok (.newarray .int, 2) := by decide +kernel
theorem dX11_init_76 : decode cX11_init 76 = .ok (.putfield 37, 3) := by decide +kernel
theorem dX11_init_79 : decode cX11_init 79 = .ok (.aload_n 0, 1) := by decide +kernel
theorem dX11_init_80 : decode cX11_init 80 = .ok (.sipush 196, 3) := by decide +kernel
theorem dX11_init_83 : decode cX11_init 83 = .ok (.newarray .int, 2) := by decide +kernel
theorem dX11_init_85 : decode cX11_init 85 = .ok (.putfield 40, 3) := by decide +kernel
theorem dX11_init_88 : decode cX11_init 88 = .ok (.aload_n 0, 1) := by decide +kernel
theorem dX11_init_89 : decode cX11_init 89 = .ok (.bipush 6, 2) := by decide +kernel
theorem dX11_init_91 : decode cX11_init 91 = .ok (.newarray .int, 2) := by decide +kernel
theorem dX11_init_93 : decode cX11_init 93 = .ok (.putfield 43, 3) := by decide +kernel
theorem dX11_init_96 : decode cX11_init 96 = .ok (.aload_n 0, 1) := by decide +kernel
theorem dX11_init_97 : decode cX11_init 97 = .ok (.bipush 6, 2) := by decide +kernel
theorem dX11_init_99 : decode cX11_init 99 = .ok (.newarray .int, 2) := by decide +kernel
theorem dX11_init_101 : decode cX11_init 101 = .ok (.putfield 46, 3) := by decide +kernel
theorem dX11_init_104 : decode cX11_init 104 = .ok (.aload_n 0, 1) := by decide +kernel
theorem dX11_init_105 : decode cX11_init 105 = .ok (.bipush 6, 2) := by decide +kernel
theorem dX11_init_107 : decode cX11_init 107 = .ok (.newarray .int, 2) := by decide +kernel
theorem dX11_init_109 : decode cX11_init 109 = .ok (.putfield 49, 3) := by decide +kernel
theorem dX11_init_112 : decode cX11_init 112 = .ok (.aload_n 0, 1) := by decide +kernel
theorem dX11_init_113 : decode cX11_init 113 = .ok (.iconst 2, 1) := by decide +kernel
theorem dX11_init_114 : decode cX11_init 114 = .ok (.newarray .boolean, 2) := by decide +kernel
theorem dX11_init_116 : decode cX11_init 116 = .ok (.putfield 52, 3) := by decide +kernel
theorem dX11_init_119 : decode cX11_init 119 = .ok (.aload_n 0, 1) := by decide +kernel
theorem dX11_init_120 : decode cX11_init 120 = .ok (.bipush 28, 2) := by decide +kernel
theorem dX11_init_122 : decode cX11_init 122 = .ok (.newarray .int, 2) := by decide +kernel
theorem dX11_init_124 : decode cX11_init 124 = .ok (.putfield 56, 3) := by decide +kernel
theorem dX11_init_127 : decode cX11_init 127 = .ok (.return_, 1) := by decide +kernel
theorem dX11_in_0 : decode cX11_in 0 = .ok (.lload_n 0, 1) := by decide +kernel
theorem dX11_in_1 : decode cX11_in 1 = .ok (.lload_n 2, 1) := by decide +kernel
theorem dX11_in_2 : decode cX11_in 2 = .ok (.lcmp, 1) := by decide +kernel
theorem dX11_in_3 : decode cX11_in 3 = .ok (.ifCond .lt 14, 3) := by decide +kernel
theorem dX11_in_6 : decode cX11_in 6 = .ok (.lload_n 0, 1) := by decide +kernel
theorem dX11_in_7 : decode cX11_in 7 = .ok (.lload 4, 2) := by decide +kernel
theorem dX11_in_9 : decode cX11_in 9 = .ok (.lcmp, 1) := by decide +kernel
theorem dX11_in_10 : decode cX11_in 10 = .ok (.ifCond .gt 7, 3) := by decide +kernel
theorem dX11_in_13 : decode cX11_in 13 = .ok (.iconst 1, 1) := by decide +kernel
theorem dX11_in_14 : decode cX11_in 14 = .ok (.goto 4, 3) := by decide +kernel
theorem dX11_in_17 : decode cX11_in 17 = .ok (.iconst 0, 1) := by decide +kernel
theorem dX11_in_18 : decode cX11_in 18 = .ok (.ireturn, 1) := by decide +kernel
theorem dX11_has_0 : decode cX11_has 0 = .ok (.iload_n 0, 1) := by decide +kernel
theorem dX11_has_1 : decode cX11_has 1 = .ok (.iload_n 1, 1) := by decide +kernel
theorem dX11_has_2 : decode cX11_has 2 = .ok (.ishr, 1) := by decide +kernel
theorem dX11_has_3 : decode cX11_has 3 = .ok (.iconst 1, 1) := by decide +kernel
theorem dX11_has_4 : decode cX11_has 4 = .ok (.iand, 1) := by decide +kernel
theorem dX11_has_5 : decode cX11_has 5 = .ok (.iconst 1, 1) := by decide +kernel
theorem dX11_has_6 : decode cX11_has 6 = .ok (.if_icmp .ne 7, 3) := by decide +kernel
theorem dX11_has_9 : decode cX11_has 9 = .ok (.iconst 1, 1) := by decide +kernel
theorem dX11_has_10 : decode cX11_has 10 = .ok (.goto 4, 3) := by decide +kernel
theorem dX11_has_13 : decode cX11_has 13 = .ok (.iconst 0, 1) := by decide +kernel
theorem dX11_has_14 : decode cX11_has 14 = .ok (.ireturn, 1) := by decide +kernel
theorem dX11_ones_0 : decode cX11_ones 0 = .ok (.iconst 0, 1) := by decide +kernel
theorem dX11_ones_1 : decode cX11_ones 1 = .ok (.istore_n 1, 1) := by decide +kernel
theorem dX11_ones_2 : decode cX11_ones 2 = .ok (.iconst 0, 1) := by decide +kernel
theorem dX11_ones_3 : decode cX11_ones 3 = .ok (.istore_n 2, 1) := by decide +kernel
theorem dX11_ones_4 : decode cX11_ones 4 = .ok (.iload_n 2, 1) := by decide +kernel
theorem dX11_ones_5 : decode cX11_ones 5 = .ok (.bipush 6, 2) := by decide +kernel
theorem dX11_ones_7 : decode cX11_ones 7 = .ok (.if_icmp .ge 17, 3) := by decide +kernel
theorem dX11_ones_10 : decode cX11_ones 10 = .ok (.iload_n 1, 1) := by decide +kernel
theorem dX11_ones_11 : decode cX11_ones 11 = .ok (.iload_n 0, 1) := by decide +kernel
theorem dX11_ones_12 : decode cX11_ones 12 = .ok (.iload_n 2, 1) := by decide +kernel
theorem dX11_ones_13 : decode cX11_ones 13 = .ok (.ishr, 1) := by decide +kernel
theorem dX11_ones_14 : decode cX11_ones 14 = .ok (.iconst 1, 1) := by decide +kernel
theorem dX11_ones_15 : decode cX11_ones 15 = .ok (.iand, 1) := by decide +kernel
theorem dX11_ones_16 : decode cX11_ones 16 = .ok (.iadd, 1) := by decide +kernel
theorem dX11_ones_17 : decode cX11_ones 17 = .ok (.istore_n 1, 1) := by decide +kernel
theorem dX11_ones_18 : decode cX11_ones 18 = .ok (.iinc 2 1, 3) := by decide +kernel
theorem dX11_ones_21 : decode cX11_ones 21 = .ok (.goto (-17), 3) := by decide +kernel
theorem dX11_ones_24 : decode cX11_ones 24 = .ok (.iload_n 1, 1) := by decide +kernel
theorem dX11_ones_25 : decode cX11_ones 25 = .ok (.ireturn, 1) := by decide +kernel
theorem dX11_write_0 : decode cX11_write 0 = .ok (.iload_n 1, 1) := by decide +kernel
theorem dX11_write_1 : decode cX11_write 1 = .ok (.i2l, 1) := by decide +kernel
theorem dX11_write_2 : decode cX11_write 2 = .ok (.lconst 0, 1) := by decide +kernel
theorem dX11_write_3 : decode cX11_write 3 = .ok (.ldc2_w 59, 3) := by decide +kernel
theorem dX11_write_6 : decode cX11_write 6 = .ok (.invokestatic 61, 3) := by decide +kernel
theorem dX11_write_9 : decode cX11_write 9 = .ok (.ifCond .ne 6, 3) := by decide +kernel
theorem dX11_write_12 : decode cX11_write 12 = .ok (.bipush (-2), 2) := by decide +kernel
theorem dX11_write_14 : decode cX11_write 14 = .ok (.ireturn, 1) := by decide +kernel
theorem dX11_write_15 : decode cX11_write 15 = .ok (.aload_n 0, 1) := by decide +kernel
theorem dX11_write_16 : decode cX11_write 16 = .ok (.getfield 65, 3) := by decide +kernel
theorem dX11_write_19 : decode cX11_write 19 = .ok (.bipush 48, 2) := by decide +kernel
theorem dX11_write_21 : decode cX11_write 21 = .ok (.if_icmp .ne 6, 3) := by decide +kernel
theorem dX11_write_24 : decode cX11_write 24 = .ok (.bipush (-4), 2) := by decide +kernel
theorem dX11_write_26 : decode cX11_write 26 = .ok (.ireturn, 1) := by decide +kernel
theorem dX11_write_27 : decode cX11_write 27 = .ok (.aload_n 0, 1) := by decide +kernel
theorem dX11_write_28 : decode cX11_write 28 = .ok (.getfield 37, 3) := by decide +kernel
theorem dX11_write_31 : decode cX11_write 31 = .ok (.aload_n 0, 1) := by decide +kernel
theorem dX11_write_32 : decode cX11_write 32 = .ok (.getfield 65, 3) := by decide +kernel
theorem dX11_write_35 : decode cX11_write 35 = .ok (.iload_n 1, 1) := by decide +kernel
theorem dX11_write_36 : decode cX11_write 36 = .ok (.iastore, 1) := by decide +kernel
theorem dX11_write_37 : decode cX11_write 37 = .ok (.aload_n 0, 1) := by decide +kernel
theorem dX11_write_38 : decode cX11_write 38 = .ok (.dup, 1) := by decide +kernel
theorem dX11_write_39 : decode cX11_write 39 = .ok (.getfield 65, 3) := by decide +kernel
theorem dX11_write_42 : decode cX11_write 42 = .ok (.iconst 1, 1) := by decide +kernel
theorem dX11_write_43 : decode cX11_write 43 = .ok (.iadd, 1) := by decide +kernel
theorem dX11_write_44 : decode cX11_write 44 = .ok (.putfield 65, 3) := by decide +kernel
theorem dX11_write_47 : decode cX11_write 47 = .ok (.aload_n 0, 1) := by decide +kernel
theorem dX11_write_48 : decode cX11_write 48 = .ok (.getfield 65, 3) := by decide +kernel
theorem dX11_write_51 : decode cX11_write 51 = .ok (.ireturn, 1) := by decide +kernel
theorem dX11_wipe_0 : decode cX11_wipe 0 = .ok (.aload_n 0, 1) := by decide +kernel
theorem dX11_wipe_1 : decode cX11_wipe 1 = .ok (.getfield 65, 3) := by decide +kernel
theorem dX11_wipe_4 : decode cX11_wipe 4 = .ok (.istore_n 1, 1) := by decide +kernel
theorem dX11_wipe_5 : decode cX11_wipe 5 = .ok (.aload_n 0, 1) := by decide +kernel
theorem dX11_wipe_6 : decode cX11_wipe 6 = .ok (.iconst 0, 1) := by decide +kernel
theorem dX11_wipe_7 : decode cX11_wipe 7 = .ok (.putfield 65, 3) := by decide +kernel
theorem dX11_wipe_10 : decode cX11_wipe 10 = .ok (.iload_n 1, 1) := by decide +kernel
theorem dX11_wipe_11 : decode cX11_wipe 11 = .ok (.ireturn, 1) := by decide +kernel
theorem dX11_nextOf_0 : decode cX11_nextOf 0 = .ok (.aload_n 0, 1) := by decide +kernel
theorem dX11_nextOf_1 : decode cX11_nextOf 1 = .ok (.getfield 69, 3) := by decide +kernel
theorem dX11_nextOf_4 : decode cX11_nextOf 4 = .ok (.bipush (-9), 2) := by decide +kernel
theorem dX11_nextOf_6 : decode cX11_nextOf 6 = .ok (.if_icmp .ne 18, 3) := by decide +kernel
theorem dX11_nextOf_9 : decode cX11_nextOf 9 = .ok (.aload_n 0, 1) := by decide +kernel
theorem dX11_nextOf_10 : decode cX11_nextOf 10 = .ok (.getfield 72, 3) := by decide +kernel
theorem dX11_nextOf_13 : decode cX11_nextOf 13 = .ok (.aload_n 0, 1) := by decide +kernel
theorem dX11_nextOf_14 : decode cX11_nextOf 14 = .ok (.getfield 65, 3) := by decide +kernel
theorem dX11_nextOf_17 : decode cX11_nextOf 17 = .ok (.if_icmp .ge 7, 3) := by decide +kernel
theorem dX11_nextOf_20 : decode cX11_nextOf 20 = .ok (.iconst 1, 1) := by decide +kernel
theorem dX11_nextOf_21 : decode cX11_nextOf 21 = .ok (.goto 4, 3) := by decide +kernel
theorem dX11_nextOf_24 : decode cX11_nextOf 24 = .ok (.iconst 0, 1) := by decide +kernel
theorem dX11_nextOf_25 : decode cX11_nextOf 25 = .ok (.istore 4, 2) := by decide +kernel
theorem dX11_nextOf_27 : decode cX11_nextOf 27 = .ok (.iload 4, 2) := by decide +kernel
theorem dX11_nextOf_29 : decode cX11_nextOf 29 = .ok (.ifCond .eq 17, 3) := by decide +kernel
theorem dX11_nextOf_32 : decode cX11_nextOf 32 = .ok (.aload_n 0, 1) := by decide +kernel
theorem dX11_nextOf_33 : decode cX11_nextOf 33 = .ok (.getfield 37, 3) := by decide +kernel
theorem dX11_nextOf_36 : decode cX11_nextOf 36 = .ok (.aload_n 0, 1) := by decide +kernel
theorem dX11_nextOf_37 : decode cX11_nextOf 37 = .ok (.getfield 72, 3) := by decide +kernel
theorem dX11_nextOf_40 : decode cX11_nextOf 40 = .ok (.iaload, 1) := by decide +kernel
theorem dX11_nextOf_41 : decode cX11_nextOf 41 = .ok (.iload_n 1, 1) := by decide +kernel
theorem dX11_nextOf_42 : decode cX11_nextOf 42 = .ok (.isub, 1) := by decide +kernel
theorem dX11_nextOf_43 : decode cX11_nextOf 43 = .ok (.goto 4, 3) := by decide +kernel
theorem dX11_nextOf_46 : decode cX11_nextOf 46 = .ok (.iconst 0, 1) := by decide +kernel
theorem dX11_nextOf_47 : decode cX11_nextOf 47 = .ok (.istore 5, 2) := by decide +kernel
theorem dX11_nextOf_49 : decode cX11_nextOf 49 = .ok (.iload 4, 2) := by decide +kernel
theorem dX11_nextOf_51 : decode cX11_nextOf 51 = .ok (.ifCond .eq 24, 3) := by decide +kernel
theorem dX11_nextOf_54 : decode cX11_nextOf 54 = .ok (.iload 5, 2) := by decide +kernel
theorem dX11_nextOf_56 : decode cX11_nextOf 56 = .ok (.i2l, 1) := by decide +kernel
theorem dX11_nextOf_57 : decode cX11_nextOf 57 = .ok (.lconst 0, 1) := by decide +kernel
theorem dX11_nextOf_58 : decode cX11_nextOf 58 = .ok (.iload_n 2, 1) := by decide +kernel
theorem dX11_nextOf_59 : decode cX11_nextOf 59 = .ok (.i2l, 1) := by decide +kernel
theorem dX11_nextOf_60 : decode cX11_nextOf 60 = .ok (.invokestatic 61, 3) := by decide +kernel
theorem dX11_nextOf_63 : decode cX11_nextOf 63 = .ok (.ifCond .eq 12, 3) := by decide +kernel
theorem dX11_nextOf_66 : decode cX11_nextOf 66 = .ok (.iload_n 3, 1) := by decide +kernel
theorem dX11_nextOf_67 : decode cX11_nextOf 67 = .ok (.iload 5, 2) := by decide +kernel
theorem dX11_nextOf_69 : decode cX11_nextOf 69 = .ok (.invokestatic 75, 3) := by decide +kernel
theorem dX11_nextOf_72 : decode cX11_nextOf 72 = .ok (.ifCond .eq 29, 3) := by decide +kernel
theorem dX11_nextOf_75 : decode cX11_nextOf 75 = .ok (.aload_n 0, 1) := by decide +kernel
theorem dX11_nextOf_76 : decode cX11_nextOf 76 = .ok (.aload_n 0, 1) := by decide +kernel
theorem dX11_nextOf_77 : decode cX11_nextOf 77 = .ok (.getfield 69, 3) := by decide +kernel
theorem dX11_nextOf_80 : decode cX11_nextOf 80 = .ok (.bipush (-9), 2) := by decide +kernel
theorem dX11_nextOf_82 : decode cX11_nextOf 82 = .ok (.if_icmp .ne 10, 3) := by decide +kernel
theorem dX11_nextOf_85 : decode cX11_nextOf 85 = .ok (.aload_n 0, 1) := by decide +kernel
theorem dX11_nextOf_86 : decode cX11_nextOf 86 = .ok (.getfield 72, 3) := by decide +kernel
theorem dX11_nextOf_89 : decode cX11_nextOf 89 = .ok (.goto 7, 3) := by decide +kernel
theorem dX11_nextOf_92 : decode cX11_nextOf 92 = .ok (.aload_n 0, 1) := by decide +kernel
theorem dX11_nextOf_93 : decode cX11_nextOf 93 = .ok (.getfield 69, 3) := by decide +kernel
theorem dX11_nextOf_96 : decode cX11_nextOf 96 = .ok (.putfield 69, 3) := by decide +kernel
theorem dX11_nextOf_99 : decode cX11_nextOf 99 = .ok (.iconst 0, 1) := by decide +kernel
theorem dX11_nextOf_100 : decode cX11_nextOf 100 = .ok (.ireturn, 1) := by decide +kernel
theorem dX11_nextOf_101 : decode cX11_nextOf 101 = .ok (.aload_n 0, 1) := by decide +kernel
theorem dX11_nextOf_102 : decode cX11_nextOf 102 = .ok (.dup, 1) := by decide +kernel
theorem dX11_nextOf_103 : decode cX11_nextOf 103 = .ok (.getfield 72, 3) := by decide +kernel
theorem dX11_nextOf_106 : decode cX11_nextOf 106 = .ok (.iconst 1, 1) := by decide +kernel
theorem dX11_nextOf_107 : decode cX11_nextOf 107 = .ok (.iadd, 1) := by decide +kernel
theorem dX11_nextOf_108 : decode cX11_nextOf 108 = .ok (.putfield 72, 3) := by decide +kernel
theorem dX11_nextOf_111 : decode cX11_nextOf 111 = .ok (.iload 5, 2) := by decide +kernel
theorem dX11_nextOf_113 : decode cX11_nextOf 113 = .ok (.ireturn, 1) := by decide +kernel
theorem dX11_readText_0 : decode cX11_readText 0 = .ok (.aload_n 0, 1) := by decide +kernel
theorem dX11_readText_1 : decode cX11_readText 1 = .ok (.iconst 0, 1) := by decide +kernel
theorem dX11_readText_2 : decode cX11_readText 2 = .ok (.putfield 72, 3) := by decide +kernel
theorem dX11_readText_5 : decode cX11_readText 5 = .ok (.aload_n 0, 1) := by decide +kernel
theorem dX11_readText_6 : decode cX11_readText 6 = .ok (.bipush (-9), 2) := by decide +kernel
theorem dX11_readText_8 : decode cX11_readText 8 = .ok (.putfield 69, 3) := by decide +kernel
theorem dX11_readText_11 : decode cX11_readText 11 = .ok (.aload_n 0, 1) := by decide +kernel
theorem dX11_readText_12 : decode cX11_readText 12 = .ok (.iconst 0, 1) := by decide +kernel
theorem dX11_readText_13 : decode cX11_readText 13 = .ok (.putfield 79, 3) := by decide +kernel
theorem dX11_readText_16 : decode cX11_readText 16 = .ok (.aload_n 0, 1) := by decide +kernel
theorem dX11_readText_17 : decode cX11_readText 17 = .ok (.iconst 0, 1) := by decide +kernel
theorem dX11_readText_18 : decode cX11_readText 18 = .ok (.putfield 82, 3) := by decide +kernel
theorem dX11_readText_21 : decode cX11_readText 21 = .ok (.aload_n 0, 1) := by decide +kernel
theorem dX11_readText_22 : decode cX11_readText 22 = .ok (.iconst 0, 1) := by decide +kernel
theorem dX11_readText_23 : decode cX11_readText 23 = .ok (.putfield 85, 3) := by decide +kernel
theorem dX11_readText_26 : decode cX11_readText 26 = .ok (.aload_n 0, 1) := by decide +kernel
theorem dX11_readText_27 : decode cX11_readText 27 = .ok (.getfield 65, 3) := by decide +kernel
theorem dX11_readText_30 : decode cX11_readText 30 = .ok (.ifCond .eq 14, 3) := by decide +kernel
theorem dX11_readText_33 : decode cX11_readText 33 = .ok (.aload_n 0, 1) := by decide +kernel
theorem dX11_readText_34 : decode cX11_readText 34 = .ok (.getfield 37, 3) := by decide +kernel
theorem dX11_readText_37 : decode cX11_readText 37 = .ok (.iconst 0, 1) := by decide +kernel
theorem dX11_readText_38 : decode cX11_readText 38 = .ok (.iaload, 1) := by decide +kernel
theorem dX11_readText_39 : decode cX11_readText 39 = .ok (.bipush 75, 2) := by decide +kernel
theorem dX11_readText_41 : decode cX11_readText 41 = .ok (.if_icmp .eq 5, 3) := by decide +kernel
theorem dX11_readText_44 : decode cX11_readText 44 = .ok (.iconst 0, 1) := by decide +kernel
theorem dX11_readText_45 : decode cX11_readText 45 = .ok (.ireturn, 1) := by decide +kernel
theorem dX11_readText_46 : decode cX11_readText 46 = .ok (.aload_n 0, 1) := by decide +kernel
theorem dX11_readText_47 : decode cX11_readText 47 = .ok (.iconst 1, 1) := by decide +kernel
theorem dX11_readText_48 : decode cX11_readText 48 = .ok (.putfield 72, 3) := by decide +kernel
theorem dX11_readText_51 : decode cX11_readText 51 = .ok (.aload_n 0, 1) := by decide +kernel
theorem dX11_readText_52 : decode cX11_readText 52 = .ok (.getfield 69, 3) := by decide +kernel
theorem dX11_readText_55 : decode cX11_readText 55 = .ok (.bipush (-9), 2) := by decide +kernel
theorem dX11_readText_57 : decode cX11_readText 57 = .ok (.if_icmp .ne 30, 3) := by decide +kernel
theorem dX11_readText_60 : decode cX11_readText 60 = .ok (.aload_n 0, 1) := by decide +kernel
theorem dX11_readText_61 : decode cX11_readText 61 = .ok (.getfield 72, 3) := by decide +kernel
theorem dX11_readText_64 : decode cX11_readText 64 = .ok (.aload_n 0, 1) := by decide +kernel
theorem dX11_readText_65 : decode cX11_readText 65 = .ok (.getfield 65, 3) := by decide +kernel
theorem dX11_readText_68 : decode cX11_readText 68 = .ok (.if_icmp .ge 19, 3) := by decide +kernel
theorem dX11_readText_71 : decode cX11_readText 71 = .ok (.aload_n 0, 1) := by decide +kernel
theorem dX11_readText_72 : decode cX11_readText 72 = .ok (.aload_n 0, 1) := by decide +kernel
theorem dX11_readText_73 : decode cX11_readText 73 = .ok (.getfield 37, 3) := by decide +kernel
theorem dX11_readText_76 : decode cX11_readText 76 = .ok (.aload_n 0, 1) := by decide +kernel
theorem dX11_readText_77 : decode cX11_readText 77 = .ok (.getfield 72, 3) := by decide +kernel
theorem dX11_readText_80 : decode cX11_readText 80 = .ok (.iaload, 1) := by decide +kernel
theorem dX11_readText_81 : decode cX11_readText 81 = .ok (.invokevirtual 88, 3) := by decide +kernel
theorem dX11_readText_84 : decode cX11_readText 84 = .ok (.goto (-33), 3) := by decide +kernel
theorem dX11_readText_87 : decode cX11_readText 87 = .ok (.aload_n 0, 1) := by decide +kernel
theorem dX11_readText_88 : decode cX11_readText 88 = .ok (.getfield 69, 3) := by decide +kernel
theorem dX11_readText_91 : decode cX11_readText 91 = .ok (.ireturn, 1) := by decide +kernel
theorem dX11_readPart_0 : decode cX11_readPart 0 = .ok (.iload_n 1, 1) := by decide +kernel
theorem dX11_readPart_1 : decode cX11_readPart 1 = .ok (.bipush 71, 2) := by decide +kernel
theorem dX11_readPart_3 : decode cX11_readPart 3 = .ok (.if_icmp .ne 28, 3) := by decide +kernel
theorem dX11_readPart_6 : decode cX11_readPart 6 = .ok (.aload_n 0, 1) := by decide +kernel
theorem dX11_readPart_7 : decode cX11_readPart 7 = .ok (.getfield 79, 3) := by decide +kernel
theorem dX11_readPart_10 : decode cX11_readPart 10 = .ok (.iconst 4, 1) := by decide +kernel
theorem dX11_readPart_11 : decode cX11_readPart 11 = .ok (.if_icmp .ge 20, 3) := by decide +kernel
theorem dX11_readPart_14 : decode cX11_readPart 14 = .ok (.aload_n 0, 1) := by decide +kernel
theorem dX11_readPart_15 : decode cX11_readPart 15 = .ok (.dup, 1) := by decide +kernel
theorem dX11_readPart_16 : decode cX11_readPart 16 = .ok (.getfield 72, 3) := by decide +kernel
theorem dX11_readPart_19 : decode cX11_readPart 19 = .ok (.iconst 1, 1) := by decide +kernel
theorem dX11_readPart_20 : decode cX11_readPart 20 = .ok (.iadd, 1) := by decide +kernel
theorem dX11_readPart_21 : decode cX11_readPart 21 = .ok (.putfield 72, 3) := by decide +kernel
theorem dX11_readPart_24 : decode cX11_readPart 24 = .ok (.aload_n 0, 1) := by decide +kernel
theorem dX11_readPart_25 : decode cX11_readPart 25 = .ok (.invokevirtual 92, 3) := by decide +kernel
theorem dX11_readPart_28 : decode cX11_readPart 28 = .ok (.goto 89, 3) := by decide +kernel
theorem dX11_readPart_31 : decode cX11_readPart 31 = .ok (.iload_n 1, 1) := by decide +kernel
theorem dX11_readPart_32 : decode cX11_readPart 32 = .ok (.bipush 73, 2) := by decide +kernel
theorem dX11_readPart_34 : decode cX11_readPart 34 = .ok (.if_icmp .ne 75, 3) := by decide +kernel
theorem dX11_readPart_37 : decode cX11_readPart 37 = .ok (.aload_n 0, 1) := by decide +kernel
theorem dX11_readPart_38 : decode cX11_readPart 38 = .ok (.getfield 82, 3) := by decide +kernel
theorem dX11_readPart_41 : decode cX11_readPart 41 = .ok (.iconst 4, 1) := by decide +kernel
theorem dX11_readPart_42 : decode cX11_readPart 42 = .ok (.if_icmp .ge 67, 3) := by decide +kernel
theorem dX11_readPart_45 : decode cX11_readPart 45 = .ok (.aload_n 0, 1) := by decide +kernel
theorem dX11_readPart_46 : decode cX11_readPart 46 = .ok (.dup, 1) := by decide +kernel
theorem dX11_readPart_47 : decode cX11_readPart 47 = .ok (.getfield 72, 3) := by decide +kernel
theorem dX11_readPart_50 : decode cX11_readPart 50 = .ok (.iconst 1, 1) := by decide +kernel
theorem dX11_readPart_51 : decode cX11_readPart 51 = .ok (.iadd, 1) := by decide +kernel
theorem dX11_readPart_52 : decode cX11_readPart 52 = .ok (.putfield 72, 3) := by decide +kernel
theorem dX11_readPart_55 : decode cX11_readPart 55 = .ok (.aload_n 0, 1) := by decide +kernel
theorem dX11_readPart_56 : decode cX11_readPart 56 = .ok (.getfield 34, 3) := by decide +kernel
theorem dX11_readPart_59 : decode cX11_readPart 59 = .ok (.iconst 2, 1) := by decide +kernel
theorem dX11_readPart_60 : decode cX11_readPart 60 = .ok (.aload_n 0, 1) := by decide +kernel
theorem dX11_readPart_61 : decode cX11_readPart 61 = .ok (.getfield 82, 3) := by decide +kernel
theorem dX11_readPart_64 : decode cX11_readPart 64 = .ok (.imul, 1) := by decide +kernel
theorem dX11_readPart_65 : decode cX11_readPart 65 = .ok (.aload_n 0, 1) := by decide +kernel
theorem dX11_readPart_66 : decode cX11_readPart 66 = .ok (.bipush 48, 2) := by decide +kernel
theorem dX11_readPart_68 : decode cX11_readPart 68 = .ok (.bipush 9, 2) := by decide +kernel
theorem dX11_readPart_70 : decode cX11_readPart 70 = .ok (.iconst 0, 1) := by decide +kernel
theorem dX11_readPart_71 : decode cX11_readPart 71 = .ok (.invokevirtual 95, 3) := by decide +kernel
theorem dX11_readPart_74 : decode cX11_readPart 74 = .ok (.iastore, 1) := by decide +kernel
theorem dX11_readPart_75 : decode cX11_readPart 75 = .ok (.aload_n 0, 1) := by decide +kernel
theorem dX11_readPart_76 : decode cX11_readPart 76 = .ok (.getfield 34, 3) := by decide +kernel
theorem dX11_readPart_79 : decode cX11_readPart 79 = .ok (.iconst 2, 1) := by decide +kernel
theorem dX11_readPart_80 : decode cX11_readPart 80 = .ok (.aload_n 0, 1) := by decide +kernel
theorem dX11_readPart_81 : decode cX11_readPart 81 = .ok (.getfield 82, 3) := by decide +kernel
theorem dX11_readPart_84 : decode cX11_readPart 84 = .ok (.imul, 1) := by decide +kernel
theorem dX11_readPart_85 : decode cX11_readPart 85 = .ok (.iconst 1, 1) := by decide +kernel
theorem dX11_readPart_86 : decode cX11_readPart 86 = .ok (.iadd, 1) := by decide +kernel
theorem dX11_readPart_87 : decode cX11_readPart 87 = .ok (.aload_n 0, 1) := by decide +kernel
theorem dX11_readPart_88 : decode cX11_readPart 88 = .ok (.bipush 48, 2) := by decide +kernel
theorem dX11_readPart_90 : decode cX11_readPart 90 = .ok (.iconst 3, 1) := by decide +kernel
theorem dX11_readPart_91 : decode cX11_readPart 91 = .ok (.iconst 0, 1) := by decide +kernel
theorem dX11_readPart_92 : decode cX11_readPart 92 = .ok (.invokevirtual 95, 3) := by decide +kernel
theorem dX11_readPart_95 : decode cX11_readPart 95 = .ok (.iastore, 1) := by decide +kernel
theorem dX11_readPart_96 : decode cX11_readPart 96 = .ok (.aload_n 0, 1) := by decide +kernel
theorem dX11_readPart_97 : decode cX11_readPart 97 = .ok (.dup, 1) := by decide +kernel
theorem dX11_readPart_98 : decode cX11_readPart 98 = .ok (.getfield 82, 3) := by decide +kernel
theorem dX11_readPart_101 : decode cX11_readPart 101 = .ok (.iconst 1, 1) := by decide +kernel
theorem dX11_readPart_102 : decode cX11_readPart 102 = .ok (.iadd, 1) := by decide +kernel
theorem dX11_readPart_103 : decode cX11_readPart 103 = .ok (.putfield 82, 3) := by decide +kernel
theorem dX11_readPart_106 : decode cX11_readPart 106 = .ok (.goto 11, 3) := by decide +kernel
theorem dX11_readPart_109 : decode cX11_readPart 109 = .ok (.aload_n 0, 1) := by decide +kernel
theorem dX11_readPart_110 : decode cX11_readPart 110 = .ok (.aload_n 0, 1) := by decide +kernel
theorem dX11_readPart_111 : decode cX11_readPart 111 = .ok (.getfield 72, 3) := by decide +kernel
theorem dX11_readPart_114 : decode cX11_readPart 114 = .ok (.putfield 69, 3) := by decide +kernel
theorem dX11_readPart_117 : decode cX11_readPart 117 = .ok (.return_, 1) := by decide +kernel
theorem dX11_readOne_0 : decode cX11_readOne 0 = .ok (.aload_n 0, 1) := by decide +kernel
theorem dX11_readOne_1 : decode cX11_readOne 1 = .ok (.getfield 25, 3) := by decide +kernel
theorem dX11_readOne_4 : decode cX11_readOne 4 = .ok (.aload_n 0, 1) := by decide +kernel
theorem dX11_readOne_5 : decode cX11_readOne 5 = .ok (.getfield 79, 3) := by decide +kernel
theorem dX11_readOne_8 : decode cX11_readOne 8 = .ok (.aload_n 0, 1) := by decide +kernel
theorem dX11_readOne_9 : decode cX11_readOne 9 = .ok (.bipush 48, 2) := by decide +kernel
theorem dX11_readOne_11 : decode cX11_readOne 11 = .ok (.bipush 9, 2) := by decide +kernel
theorem dX11_readOne_13 : decode cX11_readOne 13 = .ok (.aload_n 0, 1) := by decide +kernel
theorem dX11_readOne_14 : decode cX11_readOne 14 = .ok (.getfield 85, 3) := by decide +kernel
theorem dX11_readOne_17 : decode cX11_readOne 17 = .ok (.invokevirtual 95, 3) := by decide +kernel
theorem dX11_readOne_20 : decode cX11_readOne 20 = .ok (.iastore, 1) := by decide +kernel
theorem dX11_readOne_21 : decode cX11_readOne 21 = .ok (.aload_n 0, 1) := by decide +kernel
theorem dX11_readOne_22 : decode cX11_readOne 22 = .ok (.dup, 1) := by decide +kernel
theorem dX11_readOne_23 : decode cX11_readOne 23 = .ok (.getfield 85, 3) := by decide +kernel
theorem dX11_readOne_26 : decode cX11_readOne 26 = .ok (.iconst 1, 1) := by decide +kernel
theorem dX11_readOne_27 : decode cX11_readOne 27 = .ok (.aload_n 0, 1) := by decide +kernel
theorem dX11_readOne_28 : decode cX11_readOne 28 = .ok (.getfield 25, 3) := by decide +kernel
theorem dX11_readOne_31 : decode cX11_readOne 31 = .ok (.aload_n 0, 1) := by decide +kernel
theorem dX11_readOne_32 : decode cX11_readOne 32 = .ok (.getfield 79, 3) := by decide +kernel
theorem dX11_readOne_35 : decode cX11_readOne 35 = .ok (.iaload, 1) := by decide +kernel
theorem dX11_readOne_36 : decode cX11_readOne 36 = .ok (.ishl, 1) := by decide +kernel
theorem dX11_readOne_37 : decode cX11_readOne 37 = .ok (.ior, 1) := by decide +kernel
theorem dX11_readOne_38 : decode cX11_readOne 38 = .ok (.putfield 85, 3) := by decide +kernel
theorem dX11_readOne_41 : decode cX11_readOne 41 = .ok (.iconst 0, 1) := by decide +kernel
theorem dX11_readOne_42 : decode cX11_readOne 42 = .ok (.istore_n 1, 1) := by decide +kernel
theorem dX11_readOne_43 : decode cX11_readOne 43 = .ok (.iconst 0, 1) := by decide +kernel
theorem dX11_readOne_44 : decode cX11_readOne 44 = .ok (.istore_n 2, 1) := by decide +kernel
theorem dX11_readOne_45 : decode cX11_readOne 45 = .ok (.iconst 1, 1) := by decide +kernel
theorem dX11_readOne_46 : decode cX11_readOne 46 = .ok (.istore_n 3, 1) := by decide +kernel
theorem dX11_readOne_47 : decode cX11_readOne 47 = .ok (.iload_n 3, 1) := by decide +kernel
theorem dX11_readOne_48 : decode cX11_readOne 48 = .ok (.ifCond .eq 94, 3) := by decide +kernel
theorem dX11_readOne_51 : decode cX11_readOne 51 = .ok (.aload_n 0, 1) := by decide +kernel
theorem dX11_readOne_52 : decode cX11_readOne 52 = .ok (.bipush 97, 2) := by decide +kernel
theorem dX11_readOne_54 : decode cX11_readOne 54 = .ok (.iconst 5, 1) := by decide +kernel
theorem dX11_readOne_55 : decode cX11_readOne 55 = .ok (.iload_n 1, 1) := by decide +kernel
theorem dX11_readOne_56 : decode cX11_readOne 56 = .ok (.invokevirtual 95, 3) := by decide +kernel
theorem dX11_readOne_59 : decode cX11_readOne 59 = .ok (.istore 4, 2) := by decide +kernel
theorem dX11_readOne_61 : decode cX11_readOne 61 = .ok (.aload_n 0, 1) := by decide +kernel
theorem dX11_readOne_62 : decode cX11_readOne 62 = .ok (.getfield 31, 3) := by decide +kernel
theorem dX11_readOne_65 : decode cX11_readOne 65 = .ok (.iconst 4, 1) := by decide +kernel
theorem dX11_readOne_66 : decode cX11_readOne 66 = .ok (.aload_n 0, 1) := by decide +kernel
theorem dX11_readOne_67 : decode cX11_readOne 67 = .ok (.getfield 79, 3) := by decide +kernel
theorem dX11_readOne_70 : decode cX11_readOne 70 = .ok (.imul, 1) := by decide +kernel
theorem dX11_readOne_71 : decode cX11_readOne 71 = .ok (.iload_n 2, 1) := by decide +kernel
theorem dX11_readOne_72 : decode cX11_readOne 72 = .ok (.iadd, 1) := by decide +kernel
theorem dX11_readOne_73 : decode cX11_readOne 73 = .ok (.iload 4, 2) := by decide +kernel
theorem dX11_readOne_75 : decode cX11_readOne 75 = .ok (.iastore, 1) := by decide +kernel
theorem dX11_readOne_76 : decode cX11_readOne 76 = .ok (.iload_n 1, 1) := by decide +kernel
theorem dX11_readOne_77 : decode cX11_readOne 77 = .ok (.iconst 1, 1) := by decide +kernel
theorem dX11_readOne_78 : decode cX11_readOne 78 = .ok (.iload 4, 2) := by decide +kernel
theorem dX11_readOne_80 : decode cX11_readOne 80 = .ok (.ishl, 1) := by decide +kernel
theorem dX11_readOne_81 : decode cX11_readOne 81 = .ok (.ior, 1) := by decide +kernel
theorem dX11_readOne_82 : decode cX11_readOne 82 = .ok (.istore_n 1, 1) := by decide +kernel
theorem dX11_readOne_83 : decode cX11_readOne 83 = .ok (.iinc 2 1, 3) := by decide +kernel
theorem dX11_readOne_86 : decode cX11_readOne 86 = .ok (.aload_n 0, 1) := by decide +kernel
theorem dX11_readOne_87 : decode cX11_readOne 87 = .ok (.getfield 69, 3) := by decide +kernel
theorem dX11_readOne_90 : decode cX11_readOne 90 = .ok (.bipush (-9), 2) := by decide +kernel
theorem dX11_readOne_92 : decode cX11_readOne 92 = .ok (.if_icmp .ne 45, 3) := by decide +kernel
theorem dX11_readOne_95 : decode cX11_readOne 95 = .ok (.iload_n 2, 1) := by decide +kernel
theorem dX11_readOne_96 : decode cX11_readOne 96 = .ok (.iconst 4, 1) := by decide +kernel
theorem dX11_readOne_97 : decode cX11_readOne 97 = .ok (.if_icmp .ge 40, 3) := by decide +kernel
theorem dX11_readOne_100 : decode cX11_readOne 100 = .ok (.aload_n 0, 1) := by decide +kernel
theorem dX11_readOne_101 : decode cX11_readOne 101 = .ok (.getfield 72, 3) := by decide +kernel
theorem dX11_readOne_104 : decode cX11_readOne 104 = .ok (.aload_n 0, 1) := by decide +kernel
theorem dX11_readOne_105 : decode cX11_readOne 105 = .ok (.getfield 65, 3) := by decide +kernel
theorem dX11_readOne_108 : decode cX11_readOne 108 = .ok (.if_icmp .ge 29, 3) := by decide +kernel
theorem dX11_readOne_111 : decode cX11_readOne 111 = .ok (.aload_n 0, 1) := by decide +kernel
theorem dX11_readOne_112 : decode cX11_readOne 112 = .ok (.getfield 37, 3) := by decide +kernel
theorem dX11_readOne_115 : decode cX11_readOne 115 = .ok (.aload_n 0, 1) := by decide +kernel
theorem dX11_readOne_116 : decode cX11_readOne 116 = .ok (.getfield 72, 3) := by decide +kernel
theorem dX11_readOne_119 : decode cX11_readOne 119 = .ok (.iaload, 1) := by decide +kernel
theorem dX11_readOne_120 : decode cX11_readOne 120 = .ok (.i2l, 1) := by decide +kernel
theorem dX11_readOne_121 : decode cX11_readOne 121 = .ok (.ldc2_w 99, 3) := by decide +kernel
theorem dX11_readOne_124 : decode cX11_readOne 124 = .ok (.ldc2_w 101, 3) := by decide +kernel
theorem dX11_readOne_127 : decode cX11_readOne 127 = .ok (.invokestatic 61, 3) := by decide +kernel
theorem dX11_readOne_130 : decode cX11_readOne 130 = .ok (.ifCond .eq 7, 3) := by decide +kernel
theorem dX11_readOne_133 : decode cX11_readOne 133 = .ok (.iconst 1, 1) := by decide +kernel
theorem dX11_readOne_134 : decode cX11_readOne 134 = .ok (.goto 4, 3) := by decide +kernel
theorem dX11_readOne_137 : decode cX11_readOne 137 = .ok (.iconst 0, 1) := by decide +kernel
theorem dX11_readOne_138 : decode cX11_readOne 138 = .ok (.istore_n 3, 1) := by decide +kernel
theorem dX11_readOne_139 : decode cX11_readOne 139 = .ok (.goto (-92), 3) := by decide +kernel
theorem dX11_readOne_142 : decode cX11_readOne 142 = .ok (.aload_n 0, 1) := by decide +kernel
theorem dX11_readOne_143 : decode cX11_readOne 143 = .ok (.getfield 28, 3) := by decide +kernel
theorem dX11_readOne_146 : decode cX11_readOne 146 = .ok (.aload_n 0, 1) := by decide +kernel
theorem dX11_readOne_147 : decode cX11_readOne 147 = .ok (.getfield 79, 3) := by decide +kernel
theorem dX11_readOne_150 : decode cX11_readOne 150 = .ok (.iload_n 2, 1) := by decide +kernel
theorem dX11_readOne_151 : decode cX11_readOne 151 = .ok (.iastore, 1) := by decide +kernel
theorem dX11_readOne_152 : decode cX11_readOne 152 = .ok (.aload_n 0, 1) := by decide +kernel
theorem dX11_readOne_153 : decode cX11_readOne 153 = .ok (.dup, 1) := by decide +kernel
theorem dX11_readOne_154 : decode cX11_readOne 154 = .ok (.getfield 79, 3) := by decide +kernel
theorem dX11_readOne_157 : decode cX11_readOne 157 = .ok (.iconst 1, 1) := by decide +kernel
theorem dX11_readOne_158 : decode cX11_readOne 158 = .ok (.iadd, 1) := by decide +kernel
theorem dX11_readOne_159 : decode cX11_readOne 159 = .ok (.putfield 79, 3) := by decide +kernel
theorem dX11_readOne_162 : decode cX11_readOne 162 = .ok (.return_, 1) := by decide +kernel
theorem dX11_fault_0 : decode cX11_fault 0 = .ok (.aload_n 0, 1) := by decide +kernel
theorem dX11_fault_1 : decode cX11_fault 1 = .ok (.invokevirtual 103, 3) := by decide +kernel
theorem dX11_fault_4 : decode cX11_fault 4 = .ok (.ireturn, 1) := by decide +kernel
theorem dX11_hill_0 : decode cX11_hill 0 = .ok (.aload_n 0, 1) := by decide +kernel
theorem dX11_hill_1 : decode cX11_hill 1 = .ok (.invokevirtual 103, 3) := by decide +kernel
theorem dX11_hill_4 : decode cX11_hill 4 = .ok (.bipush (-9), 2) := by decide +kernel
theorem dX11_hill_6 : decode cX11_hill 6 = .ok (.if_icmp .eq 6, 3) := by decide +kernel
theorem dX11_hill_9 : decode cX11_hill 9 = .ok (.bipush (-3), 2) := by decide +kernel
theorem dX11_hill_11 : decode cX11_hill 11 = .ok (.ireturn, 1) := by decide +kernel
theorem dX11_hill_12 : decode cX11_hill 12 = .ok (.aload_n 0, 1) := by decide +kernel
theorem dX11_hill_13 : decode cX11_hill 13 = .ok (.aload_n 0, 1) := by decide +kernel
theorem dX11_hill_14 : decode cX11_hill 14 = .ok (.getfield 79, 3) := by decide +kernel
theorem dX11_hill_17 : decode cX11_hill 17 = .ok (.putfield 107, 3) := by decide +kernel
theorem dX11_hill_20 : decode cX11_hill 20 = .ok (.aload_n 0, 1) := by decide +kernel
theorem dX11_hill_21 : decode cX11_hill 21 = .ok (.aload_n 0, 1) := by decide +kernel
theorem dX11_hill_22 : decode cX11_hill 22 = .ok (.getfield 82, 3) := by decide +kernel
theorem dX11_hill_25 : decode cX11_hill 25 = .ok (.putfield 110, 3) := by decide +kernel
theorem dX11_hill_28 : decode cX11_hill 28 = .ok (.iconst 0, 1) := by decide +kernel
theorem dX11_hill_29 : decode cX11_hill 29 = .ok (.istore_n 1, 1) := by decide +kernel
theorem dX11_hill_30 : decode cX11_hill 30 = .ok (.iload_n 1, 1) := by decide +kernel
theorem dX11_hill_31 : decode cX11_hill 31 = .ok (.bipush 14, 2) := by decide +kernel
theorem dX11_hill_33 : decode cX11_hill 33 = .ok (.if_icmp .ge 16, 3) := by decide +kernel
theorem dX11_hill_36 : decode cX11_hill 36 = .ok (.aload_n 0, 1) := by decide +kernel
theorem dX11_hill_37 : decode cX11_hill 37 = .ok (.getfield 22, 3) := by decide +kernel
theorem dX11_hill_40 : decode cX11_hill 40 = .ok (.iload_n 1, 1) := by decide +kernel
theorem dX11_hill_41 : decode cX11_hill 41 = .ok (.iconst 0, 1) := by decide +kernel
theorem dX11_hill_42 : decode cX11_hill 42 = .ok (.iastore, 1) := by decide +kernel
theorem dX11_hill_43 : decode cX11_hill 43 = .ok (.iinc 1 1, 3) := by decide +kernel
theorem dX11_hill_46 : decode cX11_hill 46 = .ok (.goto (-16), 3) := by decide +kernel
theorem dX11_hill_49 : decode cX11_hill 49 = .ok (.iconst 0, 1) := by decide +kernel
theorem dX11_hill_50 : decode cX11_hill 50 = .ok (.istore_n 1, 1) := by decide +kernel
theorem dX11_hill_51 : decode cX11_hill 51 = .ok (.iload_n 1, 1) := by decide +kernel
theorem dX11_hill_52 : decode cX11_hill 52 = .ok (.aload_n 0, 1) := by decide +kernel
theorem dX11_hill_53 : decode cX11_hill 53 = .ok (.getfield 107, 3) := by decide +kernel
theorem dX11_hill_56 : decode cX11_hill 56 = .ok (.if_icmp .ge 33, 3) := by decide +kernel
theorem dX11_hill_59 : decode cX11_hill 59 = .ok (.aload_n 0, 1) := by decide +kernel
theorem dX11_hill_60 : decode cX11_hill 60 = .ok (.getfield 7, 3) := by decide +kernel
theorem dX11_hill_63 : decode cX11_hill 63 = .ok (.iload_n 1, 1) := by decide +kernel
theorem dX11_hill_64 : decode cX11_hill 64 = .ok (.aload_n 0, 1) := by decide +kernel
theorem dX11_hill_65 : decode cX11_hill 65 = .ok (.getfield 25, 3) := by decide +kernel
theorem dX11_hill_68 : decode cX11_hill 68 = .ok (.iload_n 1, 1) := by decide +kernel
theorem dX11_hill_69 : decode cX11_hill 69 = .ok (.iaload, 1) := by decide +kernel
theorem dX11_hill_70 : decode cX11_hill 70 = .ok (.iastore, 1) := by decide +kernel
theorem dX11_hill_71 : decode cX11_hill 71 = .ok (.aload_n 0, 1) := by decide +kernel
theorem dX11_hill_72 : decode cX11_hill 72 = .ok (.getfield 13, 3) := by decide +kernel
theorem dX11_hill_75 : decode cX11_hill 75 = .ok (.iload_n 1, 1) := by decide +kernel
theorem dX11_hill_76 : decode cX11_hill 76 = .ok (.aload_n 0, 1) := by decide +kernel
theorem dX11_hill_77 : decode cX11_hill 77 = .ok (.getfield 28, 3) := by decide +kernel
theorem dX11_hill_80 : decode cX11_hill 80 = .ok (.iload_n 1, 1) := by decide +kernel
theorem dX11_hill_81 : decode cX11_hill 81 = .ok (.iaload, 1) := by decide +kernel
theorem dX11_hill_82 : decode cX11_hill 82 = .ok (.iastore, 1) := by decide +kernel
theorem dX11_hill_83 : decode cX11_hill 83 = .ok (.iinc 1 1, 3) := by decide +kernel
theorem dX11_hill_86 : decode cX11_hill 86 = .ok (.goto (-35), 3) := by decide +kernel
theorem dX11_hill_89 : decode cX11_hill 89 = .ok (.iconst 0, 1) := by decide +kernel
theorem dX11_hill_90 : decode cX11_hill 90 = .ok (.istore_n 1, 1) := by decide +kernel
theorem dX11_hill_91 : decode cX11_hill 91 = .ok (.iload_n 1, 1) := by decide +kernel
theorem dX11_hill_92 : decode cX11_hill 92 = .ok (.bipush 16, 2) := by decide +kernel
theorem dX11_hill_94 : decode cX11_hill 94 = .ok (.if_icmp .ge 21, 3) := by decide +kernel
theorem dX11_hill_97 : decode cX11_hill 97 = .ok (.aload_n 0, 1) := by decide +kernel
theorem dX11_hill_98 : decode cX11_hill 98 = .ok (.getfield 16, 3) := by decide +kernel
theorem dX11_hill_101 : decode cX11_hill 101 = .ok (.iload_n 1, 1) := by decide +kernel
theorem dX11_hill_102 : decode cX11_hill 102 = .ok (.aload_n 0, 1) := by decide +kernel
theorem dX11_hill_103 : decode cX11_hill 103 = .ok (.getfield 31, 3) := by decide +kernel
theorem dX11_hill_106 : decode cX11_hill 106 = .ok (.iload_n 1, 1) := by decide +kernel
theorem dX11_hill_107 : decode cX11_hill 107 = .ok (.iaload, 1) := by decide +kernel
theorem dX11_hill_108 : decode cX11_hill 108 = .ok (.iastore, 1) := by decide +kernel
theorem dX11_hill_109 : decode cX11_hill 109 = .ok (.iinc 1 1, 3) := by decide +kernel
theorem dX11_hill_112 : decode cX11_hill 112 = .ok (.goto (-21), 3) := by decide +kernel
theorem dX11_hill_115 : decode cX11_hill 115 = .ok (.iconst 0, 1) := by decide +kernel
theorem dX11_hill_116 : decode cX11_hill 116 = .ok (.istore_n 1, 1) := by decide +kernel
theorem dX11_hill_117 : decode cX11_hill 117 = .ok (.iload_n 1, 1) := by decide +kernel
theorem dX11_hill_118 : decode cX11_hill 118 = .ok (.aload_n 0, 1) := by decide +kernel
theorem dX11_hill_119 : decode cX11_hill 119 = .ok (.getfield 110, 3) := by decide +kernel
theorem dX11_hill_122 : decode cX11_hill 122 = .ok (.if_icmp .ge 39, 3) := by decide +kernel
theorem dX11_hill_125 : decode cX11_hill 125 = .ok (.aload_n 0, 1) := by decide +kernel
theorem dX11_hill_126 : decode cX11_hill 126 = .ok (.getfield 22, 3) := by decide +kernel
theorem dX11_hill_129 : decode cX11_hill 129 = .ok (.iload_n 1, 1) := by decide +kernel
theorem dX11_hill_130 : decode cX11_hill 130 = .ok (.aload_n 0, 1) := by decide +kernel
theorem dX11_hill_131 : decode cX11_hill 131 = .ok (.getfield 34, 3) := by decide +kernel
theorem dX11_hill_134 : decode cX11_hill 134 = .ok (.iconst 2, 1) := by decide +kernel
theorem dX11_hill_135 : decode cX11_hill 135 = .ok (.iload_n 1, 1) := by decide +kernel
theorem dX11_hill_136 : decode cX11_hill 136 = .ok (.imul, 1) := by decide +kernel
theorem dX11_hill_137 : decode cX11_hill 137 = .ok (.iaload, 1) := by decide +kernel
theorem dX11_hill_138 : decode cX11_hill 138 = .ok (.iastore, 1) := by decide +kernel
theorem dX11_hill_139 : decode cX11_hill 139 = .ok (.aload_n 0, 1) := by decide +kernel
theorem dX11_hill_140 : decode cX11_hill 140 = .ok (.getfield 19, 3) := by decide +kernel
theorem dX11_hill_143 : decode cX11_hill 143 = .ok (.iload_n 1, 1) := by decide +kernel
theorem dX11_hill_144 : decode cX11_hill 144 = .ok (.aload_n 0, 1) := by decide +kernel
theorem dX11_hill_145 : decode cX11_hill 145 = .ok (.getfield 34, 3) := by decide +kernel
theorem dX11_hill_148 : decode cX11_hill 148 = .ok (.iconst 2, 1) := by decide +kernel
theorem dX11_hill_149 : decode cX11_hill 149 = .ok (.iload_n 1, 1) := by decide +kernel
theorem dX11_hill_150 : decode cX11_hill 150 = .ok (.imul, 1) := by decide +kernel
theorem dX11_hill_151 : decode cX11_hill 151 = .ok (.iconst 1, 1) := by decide +kernel
theorem dX11_hill_152 : decode cX11_hill 152 = .ok (.iadd, 1) := by decide +kernel
theorem dX11_hill_153 : decode cX11_hill 153 = .ok (.iaload, 1) := by decide +kernel
theorem dX11_hill_154 : decode cX11_hill 154 = .ok (.iastore, 1) := by decide +kernel
theorem dX11_hill_155 : decode cX11_hill 155 = .ok (.iinc 1 1, 3) := by decide +kernel
theorem dX11_hill_158 : decode cX11_hill 158 = .ok (.goto (-41), 3) := by decide +kernel
theorem dX11_hill_161 : decode cX11_hill 161 = .ok (.aload_n 0, 1) := by decide +kernel
theorem dX11_hill_162 : decode cX11_hill 162 = .ok (.iconst 0, 1) := by decide +kernel
theorem dX11_hill_163 : decode cX11_hill 163 = .ok (.putfield 113, 3) := by decide +kernel
theorem dX11_hill_166 : decode cX11_hill 166 = .ok (.aload_n 0, 1) := by decide +kernel
theorem dX11_hill_167 : decode cX11_hill 167 = .ok (.getfield 52, 3) := by decide +kernel
theorem dX11_hill_170 : decode cX11_hill 170 = .ok (.iconst 0, 1) := by decide +kernel
theorem dX11_hill_171 : decode cX11_hill 171 = .ok (.iconst 0, 1) := by decide +kernel
theorem dX11_hill_172 : decode cX11_hill 172 = .ok (.bastore, 1) := by decide +kernel
theorem dX11_hill_173 : decode cX11_hill 173 = .ok (.aload_n 0, 1) := by decide +kernel
theorem dX11_hill_174 : decode cX11_hill 174 = .ok (.getfield 52, 3) := by decide +kernel
theorem dX11_hill_177 : decode cX11_hill 177 = .ok (.iconst 1, 1) := by decide +kernel
theorem dX11_hill_178 : decode cX11_hill 178 = .ok (.iconst 0, 1) := by decide +kernel
theorem dX11_hill_179 : decode cX11_hill 179 = .ok (.bastore, 1) := by decide +kernel
theorem dX11_hill_180 : decode cX11_hill 180 = .ok (.bipush 10, 2) := by decide +kernel
theorem dX11_hill_182 : decode cX11_hill 182 = .ok (.aload_n 0, 1) := by decide +kernel
theorem dX11_hill_183 : decode cX11_hill 183 = .ok (.getfield 107, 3) := by decide +kernel
theorem dX11_hill_186 : decode cX11_hill 186 = .ok (.imul, 1) := by decide +kernel
theorem dX11_hill_187 : decode cX11_hill 187 = .ok (.aload_n 0, 1) := by decide +kernel
theorem dX11_hill_188 : decode cX11_hill 188 = .ok (.getfield 110, 3) := by decide +kernel
theorem dX11_hill_191 : decode cX11_hill 191 = .ok (.iadd, 1) := by decide +kernel
theorem dX11_hill_192 : decode cX11_hill 192 = .ok (.ireturn, 1) := by decide +kernel
theorem dX11_isKiln_0 : decode cX11_isKiln 0 = .ok (.iload_n 1, 1) := by decide +kernel
theorem dX11_isKiln_1 : decode cX11_isKiln 1 = .ok (.i2l, 1) := by decide +kernel
theorem dX11_isKiln_2 : decode cX11_isKiln 2 = .ok (.lconst 0, 1) := by decide +kernel
theorem dX11_isKiln_3 : decode cX11_isKiln 3 = .ok (.aload_n 0, 1) := by decide +kernel
theorem dX11_isKiln_4 : decode cX11_isKiln 4 = .ok (.getfield 107, 3) := by decide +kernel
theorem dX11_isKiln_7 : decode cX11_isKiln 7 = .ok (.iconst 1, 1) := by decide +kernel
theorem dX11_isKiln_8 : decode cX11_isKiln 8 = .ok (.isub, 1) := by decide +kernel
theorem dX11_isKiln_9 : decode cX11_isKiln 9 = .ok (.i2l, 1) := by decide +kernel
theorem dX11_isKiln_10 : decode cX11_isKiln 10 = .ok (.invokestatic 61, 3) := by decide +kernel
theorem dX11_isKiln_13 : decode cX11_isKiln 13 = .ok (.ireturn, 1) := by decide +kernel
theorem dX11_isTramp_0 : decode cX11_isTramp 0 = .ok (.iload_n 1, 1) := by decide +kernel
theorem dX11_isTramp_1 : decode cX11_isTramp 1 = .ok (.i2l, 1) := by decide +kernel
theorem dX11_isTramp_2 : decode cX11_isTramp 2 = .ok (.lconst 0, 1) := by decide +kernel
theorem dX11_isTramp_3 : decode cX11_isTramp 3 = .ok (.aload_n 0, 1) := by decide +kernel
theorem dX11_isTramp_4 : decode cX11_isTramp 4 = .ok (.getfield 110, 3) := by decide +kernel
theorem dX11_isTramp_7 : decode cX11_isTramp 7 = .ok (.iconst 1, 1) := by decide +kernel
theorem dX11_isTramp_8 : decode cX11_isTramp 8 = .ok (.isub, 1) := by decide +kernel
theorem dX11_isTramp_9 : decode cX11_isTramp 9 = .ok (.i2l, 1) := by decide +kernel
theorem dX11_isTramp_10 : decode cX11_isTramp 10 = .ok (.invokestatic 61, 3) := by decide +kernel
theorem dX11_isTramp_13 : decode cX11_isTramp 13 = .ok (.ireturn, 1) := by decide +kernel
theorem dX11_isPlace_0 : decode cX11_isPlace 0 = .ok (.iload_n 0, 1) := by decide +kernel
theorem dX11_isPlace_1 : decode cX11_isPlace 1 = .ok (.i2l, 1) := by decide +kernel
theorem dX11_isPlace_2 : decode cX11_isPlace 2 = .ok (.lconst 0, 1) := by decide +kernel
theorem dX11_isPlace_3 : decode cX11_isPlace 3 = .ok (.ldc2_w 116, 3) := by decide +kernel
theorem dX11_isPlace_6 : decode cX11_isPlace 6 = .ok (.invokestatic 61, 3) := by decide +kernel
theorem dX11_isPlace_9 : decode cX11_isPlace 9 = .ok (.ireturn, 1) := by decide +kernel
theorem dX11_kilnOf_0 : decode cX11_kilnOf 0 = .ok (.iconst 0, 1) := by decide +kernel
theorem dX11_kilnOf_1 : decode cX11_kilnOf 1 = .ok (.istore_n 2, 1) := by decide +kernel
theorem dX11_kilnOf_2 : decode cX11_kilnOf 2 = .ok (.iload_n 2, 1) := by decide +kernel
theorem dX11_kilnOf_3 : decode cX11_kilnOf 3 = .ok (.aload_n 0, 1) := by decide +kernel
theorem dX11_kilnOf_4 : decode cX11_kilnOf 4 = .ok (.getfield 107, 3) := by decide +kernel
theorem dX11_kilnOf_7 : decode cX11_kilnOf 7 = .ok (.if_icmp .ge 21, 3) := by decide +kernel
theorem dX11_kilnOf_10 : decode cX11_kilnOf 10 = .ok (.aload_n 0, 1) := by decide +kernel
theorem dX11_kilnOf_11 : decode cX11_kilnOf 11 = .ok (.getfield 7, 3) := by decide +kernel
theorem dX11_kilnOf_14 : decode cX11_kilnOf 14 = .ok (.iload_n 2, 1) := by decide +kernel
theorem dX11_kilnOf_15 : decode cX11_kilnOf 15 = .ok (.iaload, 1) := by decide +kernel
theorem dX11_kilnOf_16 : decode cX11_kilnOf 16 = .ok (.iload_n 1, 1) := by decide +kernel
theorem dX11_kilnOf_17 : decode cX11_kilnOf 17 = .ok (.if_icmp .ne 5, 3) := by decide +kernel
theorem dX11_kilnOf_20 : decode cX11_kilnOf 20 = .ok (.iload_n 2, 1) := by decide +kernel
theorem dX11_kilnOf_21 : decode cX11_kilnOf 21 = .ok (.ireturn, 1) := by decide +kernel
theorem dX11_kilnOf_22 : decode cX11_kilnOf 22 = .ok (.iinc 2 1, 3) := by decide +kernel
theorem dX11_kilnOf_25 : decode cX11_kilnOf 25 = .ok (.goto (-23), 3) := by decide +kernel
theorem dX11_kilnOf_28 : decode cX11_kilnOf 28 = .ok (.bipush (-9), 2) := by decide +kernel
theorem dX11_kilnOf_30 : decode cX11_kilnOf 30 = .ok (.ireturn, 1) := by decide +kernel
theorem dX11_setOf_0 : decode cX11_setOf 0 = .ok (.iconst 0, 1) := by decide +kernel
theorem dX11_setOf_1 : decode cX11_setOf 1 = .ok (.istore_n 2, 1) := by decide +kernel
theorem dX11_setOf_2 : decode cX11_setOf 2 = .ok (.iconst 0, 1) := by decide +kernel
theorem dX11_setOf_3 : decode cX11_setOf 3 = .ok (.istore_n 3, 1) := by decide +kernel
theorem dX11_setOf_4 : decode cX11_setOf 4 = .ok (.iload_n 3, 1) := by decide +kernel
theorem dX11_setOf_5 : decode cX11_setOf 5 = .ok (.aload_n 0, 1) := by decide +kernel
theorem dX11_setOf_6 : decode cX11_setOf 6 = .ok (.getfield 13, 3) := by decide +kernel
theorem dX11_setOf_9 : decode cX11_setOf 9 = .ok (.iload_n 1, 1) := by decide +kernel
theorem dX11_setOf_10 : decode cX11_setOf 10 = .ok (.iaload, 1) := by decide +kernel
theorem dX11_setOf_11 : decode cX11_setOf 11 = .ok (.if_icmp .ge 24, 3) := by decide +kernel
theorem dX11_setOf_14 : decode cX11_setOf 14 = .ok (.iload_n 2, 1) := by decide +kernel
theorem dX11_setOf_15 : decode cX11_setOf 15 = .ok (.iconst 1, 1) := by decide +kernel
theorem dX11_setOf_16 : decode cX11_setOf 16 = .ok (.aload_n 0, 1) := by decide +kernel
theorem dX11_setOf_17 : decode cX11_setOf 17 = .ok (.getfield 16, 3) := by decide +kernel
theorem dX11_setOf_20 : decode cX11_setOf 20 = .ok (.iconst 4, 1) := by decide +kernel
theorem dX11_setOf_21 : decode cX11_setOf 21 = .ok (.iload_n 1, 1) := by decide +kernel
theorem dX11_setOf_22 : decode cX11_setOf 22 = .ok (.imul, 1) := by decide +kernel
theorem dX11_setOf_23 : decode cX11_setOf 23 = .ok (.iload_n 3, 1) := by decide +kernel
theorem dX11_setOf_24 : decode cX11_setOf 24 = .ok (.iadd, 1) := by decide +kernel
theorem dX11_setOf_25 : decode cX11_setOf 25 = .ok (.iaload, 1) := by decide +kernel
theorem dX11_setOf_26 : decode cX11_setOf 26 = .ok (.ishl, 1) := by decide +kernel
theorem dX11_setOf_27 : decode cX11_setOf 27 = .ok (.ior, 1) := by decide +kernel
theorem dX11_setOf_28 : decode cX11_setOf 28 = .ok (.istore_n 2, 1) := by decide +kernel
theorem dX11_setOf_29 : decode cX11_setOf 29 = .ok (.iinc 3 1, 3) := by decide +kernel
theorem dX11_setOf_32 : decode cX11_setOf 32 = .ok (.goto (-28), 3) := by decide +kernel
theorem dX11_setOf_35 : decode cX11_setOf 35 = .ok (.iload_n 2, 1) := by decide +kernel
theorem dX11_setOf_36 : decode cX11_setOf 36 = .ok (.ireturn, 1) := by decide +kernel
theorem dX11_isHummock_0 : decode cX11_isHummock 0 = .ok (.aload_n 0, 1) := by decide +kernel
theorem dX11_isHummock_1 : decode cX11_isHummock 1 = .ok (.getfield 22, 3) := by decide +kernel
theorem dX11_isHummock_4 : decode cX11_isHummock 4 = .ok (.bipush 14, 2) := by decide +kernel
theorem dX11_isHummock_6 : decode cX11_isHummock 6 = .ok (.iload_n 1, 1) := by decide +kernel
theorem dX11_isHummock_7 : decode cX11_isHummock 7 = .ok (.imul, 1) := by decide +kernel
theorem dX11_isHummock_8 : decode cX11_isHummock 8 = .ok (.bipush 8, 2) := by decide +kernel
theorem dX11_isHummock_10 : decode cX11_isHummock 10 = .ok (.iadd, 1) := by decide +kernel
theorem dX11_isHummock_11 : decode cX11_isHummock 11 = .ok (.iload_n 2, 1) := by decide +kernel
theorem dX11_isHummock_12 : decode cX11_isHummock 12 = .ok (.iadd, 1) := by decide +kernel
theorem dX11_isHummock_13 : decode cX11_isHummock 13 = .ok (.iaload, 1) := by decide +kernel
theorem dX11_isHummock_14 : decode cX11_isHummock 14 = .ok (.bipush 9, 2) := by decide +kernel
theorem dX11_isHummock_16 : decode cX11_isHummock 16 = .ok (.if_icmp .ne 7, 3) := by decide +kernel
theorem dX11_isHummock_19 : decode cX11_isHummock 19 = .ok (.iconst 1, 1) := by decide +kernel
theorem dX11_isHummock_20 : decode cX11_isHummock 20 = .ok (.goto 4, 3) := by decide +kernel
theorem dX11_isHummock_23 : decode cX11_isHummock 23 = .ok (.iconst 0, 1) := by decide +kernel
theorem dX11_isHummock_24 : decode cX11_isHummock 24 = .ok (.ireturn, 1) := by decide +kernel
theorem dX11_speedOf_0 : decode cX11_speedOf 0 = .ok (.iconst 3, 1) := by decide +kernel
theorem dX11_speedOf_1 : decode cX11_speedOf 1 = .ok (.aload_n 0, 1) := by decide +kernel
theorem dX11_speedOf_2 : decode cX11_speedOf 2 = .ok (.getfield 22, 3) := by decide +kernel
theorem dX11_speedOf_5 : decode cX11_speedOf 5 = .ok (.bipush 14, 2) := by decide +kernel
theorem dX11_speedOf_7 : decode cX11_speedOf 7 = .ok (.iload_n 1, 1) := by decide +kernel
theorem dX11_speedOf_8 : decode cX11_speedOf 8 = .ok (.imul, 1) := by decide +kernel
theorem dX11_speedOf_9 : decode cX11_speedOf 9 = .ok (.bipush 8, 2) := by decide +kernel
theorem dX11_speedOf_11 : decode cX11_speedOf 11 = .ok (.iadd, 1) := by decide +kernel
theorem dX11_speedOf_12 : decode cX11_speedOf 12 = .ok (.iload_n 2, 1) := by decide +kernel
theorem dX11_speedOf_13 : decode cX11_speedOf 13 = .ok (.iadd, 1) := by decide +kernel
theorem dX11_speedOf_14 : decode cX11_speedOf 14 = .ok (.iaload, 1) := by decide +kernel
theorem dX11_speedOf_15 : decode cX11_speedOf 15 = .ok (.iconst 3, 1) := by decide +kernel
theorem dX11_speedOf_16 : decode cX11_speedOf 16 = .ok (.idiv, 1) := by decide +kernel
theorem dX11_speedOf_17 : decode cX11_speedOf 17 = .ok (.isub, 1) := by decide +kernel
theorem dX11_speedOf_18 : decode cX11_speedOf 18 = .ok (.ireturn, 1) := by decide +kernel
theorem dX11_takeOn_0 : decode cX11_takeOn 0 = .ok (.bipush 14, 2) := by decide +kernel
theorem dX11_takeOn_2 : decode cX11_takeOn 2 = .ok (.iload_n 1, 1) := by decide +kernel
theorem dX11_takeOn_3 : decode cX11_takeOn 3 = .ok (.imul, 1) := by decide +kernel
theorem dX11_takeOn_4 : decode cX11_takeOn 4 = .ok (.istore_n 3, 1) := by decide +kernel
theorem dX11_takeOn_5 : decode cX11_takeOn 5 = .ok (.aload_n 0, 1) := by decide +kernel
theorem dX11_takeOn_6 : decode cX11_takeOn 6 = .ok (.aload_n 0, 1) := by decide +kernel
theorem dX11_takeOn_7 : decode cX11_takeOn 7 = .ok (.getfield 22, 3) := by decide +kernel
theorem dX11_takeOn_10 : decode cX11_takeOn 10 = .ok (.iload_n 3, 1) := by decide +kernel
theorem dX11_takeOn_11 : decode cX11_takeOn 11 = .ok (.iload_n 2, 1) := by decide +kernel
theorem dX11_takeOn_12 : decode cX11_takeOn 12 = .ok (.iadd, 1) := by decide +kernel
theorem dX11_takeOn_13 : decode cX11_takeOn 13 = .ok (.iaload, 1) := by decide +kernel
theorem dX11_takeOn_14 : decode cX11_takeOn 14 = .ok (.invokevirtual 118, 3) := by decide +kernel
theorem dX11_takeOn_17 : decode cX11_takeOn 17 = .ok (.istore 4, 2) := by decide +kernel
theorem dX11_takeOn_19 : decode cX11_takeOn 19 = .ok (.aload_n 0, 1) := by decide +kernel
theorem dX11_takeOn_20 : decode cX11_takeOn 20 = .ok (.iload_n 1, 1) := by decide +kernel
theorem dX11_takeOn_21 : decode cX11_takeOn 21 = .ok (.iload_n 2, 1) := by decide +kernel
theorem dX11_takeOn_22 : decode cX11_takeOn 22 = .ok (.invokevirtual 122, 3) := by decide +kernel
theorem dX11_takeOn_25 : decode cX11_takeOn 25 = .ok (.ifCond .ne 22, 3) := by decide +kernel
theorem dX11_takeOn_28 : decode cX11_takeOn 28 = .ok (.iload 4, 2) := by decide +kernel
theorem dX11_takeOn_30 : decode cX11_takeOn 30 = .ok (.bipush (-9), 2) := by decide +kernel
theorem dX11_takeOn_32 : decode cX11_takeOn 32 = .ok (.if_icmp .eq 15, 3) := by decide +kernel
theorem dX11_takeOn_35 : decode cX11_takeOn 35 = .ok (.aload_n 0, 1) := by decide +kernel
theorem dX11_takeOn_36 : decode cX11_takeOn 36 = .ok (.getfield 125, 3) := by decide +kernel
theorem dX11_takeOn_39 : decode cX11_takeOn 39 = .ok (.iload 4, 2) := by decide +kernel
theorem dX11_takeOn_41 : decode cX11_takeOn 41 = .ok (.invokestatic 75, 3) := by decide +kernel
theorem dX11_takeOn_44 : decode cX11_takeOn 44 = .ok (.ifCond .eq 4, 3) := by decide +kernel
theorem dX11_takeOn_47 : decode cX11_takeOn 47 = .ok (.return_, 1) := by decide +kernel
theorem dX11_takeOn_48 : decode cX11_takeOn 48 = .ok (.aload_n 0, 1) := by decide +kernel
theorem dX11_takeOn_49 : decode cX11_takeOn 49 = .ok (.getfield 19, 3) := by decide +kernel
theorem dX11_takeOn_52 : decode cX11_takeOn 52 = .ok (.iload_n 2, 1) := by decide +kernel
theorem dX11_takeOn_53 : decode cX11_takeOn 53 = .ok (.iaload, 1) := by decide +kernel
theorem dX11_takeOn_54 : decode cX11_takeOn 54 = .ok (.iconst 2, 1) := by decide +kernel
theorem dX11_takeOn_55 : decode cX11_takeOn 55 = .ok (.if_icmp .ne 7, 3) := by decide +kernel
theorem dX11_takeOn_58 : decode cX11_takeOn 58 = .ok (.iconst 4, 1) := by decide +kernel
theorem dX11_takeOn_59 : decode cX11_takeOn 59 = .ok (.goto 18, 3) := by decide +kernel
theorem dX11_takeOn_62 : decode cX11_takeOn 62 = .ok (.aload_n 0, 1) := by decide +kernel
theorem dX11_takeOn_63 : decode cX11_takeOn 63 = .ok (.getfield 19, 3) := by decide +kernel
theorem dX11_takeOn_66 : decode cX11_takeOn 66 = .ok (.iload_n 2, 1) := by decide +kernel
theorem dX11_takeOn_67 : decode cX11_takeOn 67 = .ok (.iaload, 1) := by decide +kernel
theorem dX11_takeOn_68 : decode cX11_takeOn 68 = .ok (.iconst 1, 1) := by decide +kernel
theorem dX11_takeOn_69 : decode cX11_takeOn 69 = .ok (.if_icmp .ne 7, 3) := by decide +kernel
theorem dX11_takeOn_72 : decode cX11_takeOn 72 = .ok (.iconst 2, 1) := by decide +kernel
theorem dX11_takeOn_73 : decode cX11_takeOn 73 = .ok (.goto 4, 3) := by decide +kernel
theorem dX11_takeOn_76 : decode cX11_takeOn 76 = .ok (.iconst 1, 1) := by decide +kernel
theorem dX11_takeOn_77 : decode cX11_takeOn 77 = .ok (.istore 5, 2) := by decide +kernel
theorem dX11_takeOn_79 : decode cX11_takeOn 79 = .ok (.iconst 0, 1) := by decide +kernel
theorem dX11_takeOn_80 : decode cX11_takeOn 80 = .ok (.istore 6, 2) := by decide +kernel
theorem dX11_takeOn_82 : decode cX11_takeOn 82 = .ok (.iload 6, 2) := by decide +kernel
theorem dX11_takeOn_84 : decode cX11_takeOn 84 = .ok (.aload_n 0, 1) := by decide +kernel
theorem dX11_takeOn_85 : decode cX11_takeOn 85 = .ok (.getfield 13, 3) := by decide +kernel
theorem dX11_takeOn_88 : decode cX11_takeOn 88 = .ok (.iload 4, 2) := by decide +kernel
theorem dX11_takeOn_90 : decode cX11_takeOn 90 = .ok (.iaload, 1) := by decide +kernel
theorem dX11_takeOn_91 : decode cX11_takeOn 91 = .ok (.if_icmp .ge 73, 3) := by decide +kernel
theorem dX11_takeOn_94 : decode cX11_takeOn 94 = .ok (.iload 5, 2) := by decide +kernel
theorem dX11_takeOn_96 : decode cX11_takeOn 96 = .ok (.ifCond .le 68, 3) := by decide +kernel
theorem dX11_takeOn_99 : decode cX11_takeOn 99 = .ok (.aload_n 0, 1) := by decide +kernel
theorem dX11_takeOn_100 : decode cX11_takeOn 100 = .ok (.getfield 16, 3) := by decide +kernel
theorem dX11_takeOn_103 : decode cX11_takeOn 103 = .ok (.iconst 4, 1) := by decide +kernel
theorem dX11_takeOn_104 : decode cX11_takeOn 104 = .ok (.iload 4, 2) := by decide +kernel
theorem dX11_takeOn_106 : decode cX11_takeOn 106 = .ok (.imul, 1) := by decide +kernel
theorem dX11_takeOn_107 : decode cX11_takeOn 107 = .ok (.iload 6, 2) := by decide +kernel
theorem dX11_takeOn_109 : decode cX11_takeOn 109 = .ok (.iadd, 1) := by decide +kernel
theorem dX11_takeOn_110 : decode cX11_takeOn 110 = .ok (.iaload, 1) := by decide +kernel
theorem dX11_takeOn_111 : decode cX11_takeOn 111 = .ok (.istore 7, 2) := by decide +kernel
theorem dX11_takeOn_113 : decode cX11_takeOn 113 = .ok (.iload 5, 2) := by decide +kernel
theorem dX11_takeOn_115 : decode cX11_takeOn 115 = .ok (.aload_n 0, 1) := by decide +kernel
theorem dX11_takeOn_116 : decode cX11_takeOn 116 = .ok (.getfield 22, 3) := by decide +kernel
theorem dX11_takeOn_119 : decode cX11_takeOn 119 = .ok (.iload_n 3, 1) := by decide +kernel
theorem dX11_takeOn_120 : decode cX11_takeOn 120 = .ok (.iconst 4, 1) := by decide +kernel
theorem dX11_takeOn_121 : decode cX11_takeOn 121 = .ok (.iadd, 1) := by decide +kernel
theorem dX11_takeOn_122 : decode cX11_takeOn 122 = .ok (.iload_n 2, 1) := by decide +kernel
theorem dX11_takeOn_123 : decode cX11_takeOn 123 = .ok (.iadd, 1) := by decide +kernel
theorem dX11_takeOn_124 : decode cX11_takeOn 124 = .ok (.iaload, 1) := by decide +kernel
theorem dX11_takeOn_125 : decode cX11_takeOn 125 = .ok (.iload 7, 2) := by decide +kernel
theorem dX11_takeOn_127 : decode cX11_takeOn 127 = .ok (.invokestatic 75, 3) := by decide +kernel
theorem dX11_takeOn_130 : decode cX11_takeOn 130 = .ok (.ifCond .eq 7, 3) := by decide +kernel
theorem dX11_takeOn_133 : decode cX11_takeOn 133 = .ok (.iconst 0, 1) := by decide +kernel
theorem dX11_takeOn_134 : decode cX11_takeOn 134 = .ok (.goto 4, 3) := by decide +kernel
theorem dX11_takeOn_137 : decode cX11_takeOn 137 = .ok (.iconst 1, 1) := by decide +kernel
theorem dX11_takeOn_138 : decode cX11_takeOn 138 = .ok (.isub, 1) := by decide +kernel
theorem dX11_takeOn_139 : decode cX11_takeOn 139 = .ok (.istore 5, 2) := by decide +kernel
theorem dX11_takeOn_141 : decode cX11_takeOn 141 = .ok (.aload_n 0, 1) := by decide +kernel
theorem dX11_takeOn_142 : decode cX11_takeOn 142 = .ok (.getfield 22, 3) := by decide +kernel
theorem dX11_takeOn_145 : decode cX11_takeOn 145 = .ok (.iload_n 3, 1) := by decide +kernel
theorem dX11_takeOn_146 : decode cX11_takeOn 146 = .ok (.iconst 4, 1) := by decide +kernel
theorem dX11_takeOn_147 : decode cX11_takeOn 147 = .ok (.iadd, 1) := by decide +kernel
theorem dX11_takeOn_148 : decode cX11_takeOn 148 = .ok (.iload_n 2, 1) := by decide +kernel
theorem dX11_takeOn_149 : decode cX11_takeOn 149 = .ok (.iadd, 1) := by decide +kernel
theorem dX11_takeOn_150 : decode cX11_takeOn 150 = .ok (.dup2, 1) := by decide +kernel
theorem dX11_takeOn_151 : decode cX11_takeOn 151 = .ok (.iaload, 1) := by decide +kernel
theorem dX11_takeOn_152 : decode cX11_takeOn 152 = .ok (.iconst 1, 1) := by decide +kernel
theorem dX11_takeOn_153 : decode cX11_takeOn 153 = .ok (.iload 7, 2) := by decide +kernel
theorem dX11_takeOn_155 : decode cX11_takeOn 155 = .ok (.ishl, 1) := by decide +kernel
theorem dX11_takeOn_156 : decode cX11_takeOn 156 = .ok (.ior, 1) := by decide +kernel
theorem dX11_takeOn_157 : decode cX11_takeOn 157 = .ok (.iastore, 1) := by decide +kernel
theorem dX11_takeOn_158 : decode cX11_takeOn 158 = .ok (.iinc 6 1, 3) := by decide +kernel
theorem dX11_takeOn_161 : decode cX11_takeOn 161 = .ok (.goto (-79), 3) := by decide +kernel
theorem dX11_takeOn_164 : decode cX11_takeOn 164 = .ok (.aload_n 0, 1) := by decide +kernel
theorem dX11_takeOn_165 : decode cX11_takeOn 165 = .ok (.getfield 22, 3) := by decide +kernel
theorem dX11_takeOn_168 : decode cX11_takeOn 168 = .ok (.iload_n 3, 1) := by decide +kernel
theorem dX11_takeOn_169 : decode cX11_takeOn 169 = .ok (.bipush 8, 2) := by decide +kernel
theorem dX11_takeOn_171 : decode cX11_takeOn 171 = .ok (.iadd, 1) := by decide +kernel
theorem dX11_takeOn_172 : decode cX11_takeOn 172 = .ok (.iload_n 2, 1) := by decide +kernel
theorem dX11_takeOn_173 : decode cX11_takeOn 173 = .ok (.iadd, 1) := by decide +kernel
theorem dX11_takeOn_174 : decode cX11_takeOn 174 = .ok (.iaload, 1) := by decide +kernel
theorem dX11_takeOn_175 : decode cX11_takeOn 175 = .ok (.aload_n 0, 1) := by decide +kernel
theorem dX11_takeOn_176 : decode cX11_takeOn 176 = .ok (.getfield 19, 3) := by decide +kernel
theorem dX11_takeOn_179 : decode cX11_takeOn 179 = .ok (.iload_n 2, 1) := by decide +kernel
theorem dX11_takeOn_180 : decode cX11_takeOn 180 = .ok (.iaload, 1) := by decide +kernel
theorem dX11_takeOn_181 : decode cX11_takeOn 181 = .ok (.iconst 2, 1) := by decide +kernel
theorem dX11_takeOn_182 : decode cX11_takeOn 182 = .ok (.if_icmp .ne 7, 3) := by decide +kernel
theorem dX11_takeOn_185 : decode cX11_takeOn 185 = .ok (.iconst 2, 1) := by decide +kernel
theorem dX11_takeOn_186 : decode cX11_takeOn 186 = .ok (.goto 4, 3) := by decide +kernel
theorem dX11_takeOn_189 : decode cX11_takeOn 189 = .ok (.iconst 1, 1) := by decide +kernel
theorem dX11_takeOn_190 : decode cX11_takeOn 190 = .ok (.iadd, 1) := by decide +kernel
theorem dX11_takeOn_191 : decode cX11_takeOn 191 = .ok (.istore 6, 2) := by decide +kernel
theorem dX11_takeOn_193 : decode cX11_takeOn 193 = .ok (.aload_n 0, 1) := by decide +kernel
theorem dX11_takeOn_194 : decode cX11_takeOn 194 = .ok (.getfield 22, 3) := by decide +kernel
theorem dX11_takeOn_197 : decode cX11_takeOn 197 = .ok (.iload_n 3, 1) := by decide +kernel
theorem dX11_takeOn_198 : decode cX11_takeOn 198 = .ok (.bipush 8, 2) := by decide +kernel
theorem dX11_takeOn_200 : decode cX11_takeOn 200 = .ok (.iadd, 1) := by decide +kernel
theorem dX11_takeOn_201 : decode cX11_takeOn 201 = .ok (.iload_n 2, 1) := by decide +kernel
theorem dX11_takeOn_202 : decode cX11_takeOn 202 = .ok (.iadd, 1) := by decide +kernel
theorem dX11_takeOn_203 : decode cX11_takeOn 203 = .ok (.iload 6, 2) := by decide +kernel
theorem dX11_takeOn_205 : decode cX11_takeOn 205 = .ok (.bipush 9, 2) := by decide +kernel
theorem dX11_takeOn_207 : decode cX11_takeOn 207 = .ok (.if_icmp .le 8, 3) := by decide +kernel
theorem dX11_takeOn_210 : decode cX11_takeOn 210 = .ok (.bipush 9, 2) := by decide +kernel
theorem dX11_takeOn_212 : decode cX11_takeOn 212 = .ok (.goto 5, 3) := by decide +kernel
theorem dX11_takeOn_215 : decode cX11_takeOn 215 = .ok (.iload 6, 2) := by decide +kernel
theorem dX11_takeOn_217 : decode cX11_takeOn 217 = .ok (.iastore, 1) := by decide +kernel
theorem dX11_takeOn_218 : decode cX11_takeOn 218 = .ok (.return_, 1) := by decide +kernel
theorem dX11_knownAt_0 : decode cX11_knownAt 0 = .ok (.iconst 0, 1) := by decide +kernel
theorem dX11_knownAt_1 : decode cX11_knownAt 1 = .ok (.istore_n 3, 1) := by decide +kernel
theorem dX11_knownAt_2 : decode cX11_knownAt 2 = .ok (.iconst 0, 1) := by decide +kernel
theorem dX11_knownAt_3 : decode cX11_knownAt 3 = .ok (.istore 4, 2) := by decide +kernel
theorem dX11_knownAt_5 : decode cX11_knownAt 5 = .ok (.iload 4, 2) := by decide +kernel
theorem dX11_knownAt_7 : decode cX11_knownAt 7 = .ok (.aload_n 0, 1) := by decide +kernel
theorem dX11_knownAt_8 : decode cX11_knownAt 8 = .ok (.getfield 110, 3) := by decide +kernel
theorem dX11_knownAt_11 : decode cX11_knownAt 11 = .ok (.if_icmp .ge 46, 3) := by decide +kernel
theorem dX11_knownAt_14 : decode cX11_knownAt 14 = .ok (.iload_n 3, 1) := by decide +kernel
theorem dX11_knownAt_15 : decode cX11_knownAt 15 = .ok (.aload_n 0, 1) := by decide +kernel
theorem dX11_knownAt_16 : decode cX11_knownAt 16 = .ok (.getfield 22, 3) := by decide +kernel
theorem dX11_knownAt_19 : decode cX11_knownAt 19 = .ok (.bipush 14, 2) := by decide +kernel
theorem dX11_knownAt_21 : decode cX11_knownAt 21 = .ok (.iload_n 1, 1) := by decide +kernel
theorem dX11_knownAt_22 : decode cX11_knownAt 22 = .ok (.imul, 1) := by decide +kernel
theorem dX11_knownAt_23 : decode cX11_knownAt 23 = .ok (.iload 4, 2) := by decide +kernel
theorem dX11_knownAt_25 : decode cX11_knownAt 25 = .ok (.iadd, 1) := by decide +kernel
theorem dX11_knownAt_26 : decode cX11_knownAt 26 = .ok (.iaload, 1) := by decide +kernel
theorem dX11_knownAt_27 : decode cX11_knownAt 27 = .ok (.iload_n 2, 1) := by decide +kernel
theorem dX11_knownAt_28 : decode cX11_knownAt 28 = .ok (.if_icmp .ne 20, 3) := by decide +kernel
theorem dX11_knownAt_31 : decode cX11_knownAt 31 = .ok (.aload_n 0, 1) := by decide +kernel
theorem dX11_knownAt_32 : decode cX11_knownAt 32 = .ok (.getfield 22, 3) := by decide +kernel
theorem dX11_knownAt_35 : decode cX11_knownAt 35 = .ok (.bipush 14, 2) := by decide +kernel
theorem dX11_knownAt_37 : decode cX11_knownAt 37 = .ok (.iload_n 1, 1) := by decide +kernel
theorem dX11_knownAt_38 : decode cX11_knownAt 38 = .ok (.imul, 1) := by decide +kernel
theorem dX11_knownAt_39 : decode cX11_knownAt 39 = .ok (.iconst 4, 1) := by decide +kernel
theorem dX11_knownAt_40 : decode cX11_knownAt 40 = .ok (.iadd, 1) := by decide +kernel
theorem dX11_knownAt_41 : decode cX11_knownAt 41 = .ok (.iload 4, 2) := by decide +kernel
theorem dX11_knownAt_43 : decode cX11_knownAt 43 = .ok (.iadd, 1) := by decide +kernel
theorem dX11_knownAt_44 : decode cX11_knownAt 44 = .ok (.iaload, 1) := by decide +kernel
theorem dX11_knownAt_45 : decode cX11_knownAt 45 = .ok (.goto 4, 3) := by decide +kernel
theorem dX11_knownAt_48 : decode cX11_knownAt 48 = .ok (.iconst 0, 1) := by decide +kernel
theorem dX11_knownAt_49 : decode cX11_knownAt 49 = .ok (.ior, 1) := by decide +kernel
theorem dX11_knownAt_50 : decode cX11_knownAt 50 = .ok (.istore_n 3, 1) := by decide +kernel
theorem dX11_knownAt_51 : decode cX11_knownAt 51 = .ok (.iinc 4 1, 3) := by decide +kernel
theorem dX11_knownAt_54 : decode cX11_knownAt 54 = .ok (.goto (-49), 3) := by decide +kernel
theorem dX11_knownAt_57 : decode cX11_knownAt 57 = .ok (.iload_n 3, 1) := by decide +kernel
theorem dX11_knownAt_58 : decode cX11_knownAt 58 = .ok (.ireturn, 1) := by decide +kernel
theorem dX11_passOn_0 : decode cX11_passOn 0 = .ok (.bipush 14, 2) := by decide +kernel
theorem dX11_passOn_2 : decode cX11_passOn 2 = .ok (.iload_n 1, 1) := by decide +kernel
theorem dX11_passOn_3 : decode cX11_passOn 3 = .ok (.imul, 1) := by decide +kernel
theorem dX11_passOn_4 : decode cX11_passOn 4 = .ok (.istore_n 2, 1) := by decide +kernel
theorem dX11_passOn_5 : decode cX11_passOn 5 = .ok (.iconst 0, 1) := by decide +kernel
theorem dX11_passOn_6 : decode cX11_passOn 6 = .ok (.istore_n 3, 1) := by decide +kernel
theorem dX11_passOn_7 : decode cX11_passOn 7 = .ok (.iload_n 3, 1) := by decide +kernel
theorem dX11_passOn_8 : decode cX11_passOn 8 = .ok (.aload_n 0, 1) := by decide +kernel
theorem dX11_passOn_9 : decode cX11_passOn 9 = .ok (.getfield 110, 3) := by decide +kernel
theorem dX11_passOn_12 : decode cX11_passOn 12 = .ok (.if_icmp .ge 15, 3) := by decide +kernel
theorem dX11_passOn_15 : decode cX11_passOn 15 = .ok (.aload_n 0, 1) := by decide +kernel
theorem dX11_passOn_16 : decode cX11_passOn 16 = .ok (.iload_n 1, 1) := by decide +kernel
theorem dX11_passOn_17 : decode cX11_passOn 17 = .ok (.iload_n 3, 1) := by decide +kernel
theorem dX11_passOn_18 : decode cX11_passOn 18 = .ok (.invokevirtual 128, 3) := by decide +kernel
theorem dX11_passOn_21 : decode cX11_passOn 21 = .ok (.iinc 3 1, 3) := by decide +kernel
theorem dX11_passOn_24 : decode cX11_passOn 24 = .ok (.goto (-17), 3) := by decide +kernel
theorem dX11_passOn_27 : decode cX11_passOn 27 = .ok (.iconst 0, 1) := by decide +kernel
theorem dX11_passOn_28 : decode cX11_passOn 28 = .ok (.istore_n 3, 1) := by decide +kernel
theorem dX11_passOn_29 : decode cX11_passOn 29 = .ok (.iload_n 3, 1) := by decide +kernel
theorem dX11_passOn_30 : decode cX11_passOn 30 = .ok (.aload_n 0, 1) := by decide +kernel
theorem dX11_passOn_31 : decode cX11_passOn 31 = .ok (.getfield 110, 3) := by decide +kernel
theorem dX11_passOn_34 : decode cX11_passOn 34 = .ok (.if_icmp .ge 54, 3) := by decide +kernel
theorem dX11_passOn_37 : decode cX11_passOn 37 = .ok (.aload_n 0, 1) := by decide +kernel
theorem dX11_passOn_38 : decode cX11_passOn 38 = .ok (.getfield 19, 3) := by decide +kernel
theorem dX11_passOn_41 : decode cX11_passOn 41 = .ok (.iload_n 3, 1) := by decide +kernel
theorem dX11_passOn_42 : decode cX11_passOn 42 = .ok (.iaload, 1) := by decide +kernel
theorem dX11_passOn_43 : decode cX11_passOn 43 = .ok (.iconst 3, 1) := by decide +kernel
theorem dX11_passOn_44 : decode cX11_passOn 44 = .ok (.if_icmp .ne 38, 3) := by decide +kernel
theorem dX11_passOn_47 : decode cX11_passOn 47 = .ok (.aload_n 0, 1) := by decide +kernel
theorem dX11_passOn_48 : decode cX11_passOn 48 = .ok (.iload_n 1, 1) := by decide +kernel
theorem dX11_passOn_49 : decode cX11_passOn 49 = .ok (.iload_n 3, 1) := by decide +kernel
theorem dX11_passOn_50 : decode cX11_passOn 50 = .ok (.invokevirtual 122, 3) := by decide +kernel
theorem dX11_passOn_53 : decode cX11_passOn 53 = .ok (.ifCond .ne 29, 3) := by decide +kernel
theorem dX11_passOn_56 : decode cX11_passOn 56 = .ok (.aload_n 0, 1) := by decide +kernel
theorem dX11_passOn_57 : decode cX11_passOn 57 = .ok (.getfield 22, 3) := by decide +kernel
theorem dX11_passOn_60 : decode cX11_passOn 60 = .ok (.iload_n 2, 1) := by decide +kernel
theorem dX11_passOn_61 : decode cX11_passOn 61 = .ok (.iconst 4, 1) := by decide +kernel
theorem dX11_passOn_62 : decode cX11_passOn 62 = .ok (.iadd, 1) := by decide +kernel
theorem dX11_passOn_63 : decode cX11_passOn 63 = .ok (.iload_n 3, 1) := by decide +kernel
theorem dX11_passOn_64 : decode cX11_passOn 64 = .ok (.iadd, 1) := by decide +kernel
theorem dX11_passOn_65 : decode cX11_passOn 65 = .ok (.dup2, 1) := by decide +kernel
theorem dX11_passOn_66 : decode cX11_passOn 66 = .ok (.iaload, 1) := by decide +kernel
theorem dX11_passOn_67 : decode cX11_passOn 67 = .ok (.aload_n 0, 1) := by decide +kernel
theorem dX11_passOn_68 : decode cX11_passOn 68 = .ok (.iload_n 1, 1) := by decide +kernel
theorem dX11_passOn_69 : decode cX11_passOn 69 = .ok (.aload_n 0, 1) := by decide +kernel
theorem dX11_passOn_70 : decode cX11_passOn 70 = .ok (.getfield 22, 3) := by decide +kernel
theorem dX11_passOn_73 : decode cX11_passOn 73 = .ok (.iload_n 2, 1) := by decide +kernel
theorem dX11_passOn_74 : decode cX11_passOn 74 = .ok (.iload_n 3, 1) := by decide +kernel
theorem dX11_passOn_75 : decode cX11_passOn 75 = .ok (.iadd, 1) := by decide +kernel
theorem dX11_passOn_76 : decode cX11_passOn 76 = .ok (.iaload, 1) := by decide +kernel
theorem dX11_passOn_77 : decode cX11_passOn 77 = .ok (.invokevirtual 132, 3) := by decide +kernel
theorem dX11_passOn_80 : decode cX11_passOn 80 = .ok (.ior, 1) := by decide +kernel
theorem dX11_passOn_81 : decode cX11_passOn 81 = .ok (.iastore, 1) := by decide +kernel
theorem dX11_passOn_82 : decode cX11_passOn 82 = .ok (.iinc 3 1, 3) := by decide +kernel
theorem dX11_passOn_85 : decode cX11_passOn 85 = .ok (.goto (-56), 3) := by decide +kernel
theorem dX11_passOn_88 : decode cX11_passOn 88 = .ok (.aload_n 0, 1) := by decide +kernel
theorem dX11_passOn_89 : decode cX11_passOn 89 = .ok (.getfield 22, 3) := by decide +kernel
theorem dX11_passOn_92 : decode cX11_passOn 92 = .ok (.iload_n 2, 1) := by decide +kernel
theorem dX11_passOn_93 : decode cX11_passOn 93 = .ok (.bipush 12, 2) := by decide +kernel
theorem dX11_passOn_95 : decode cX11_passOn 95 = .ok (.iadd, 1) := by decide +kernel
theorem dX11_passOn_96 : decode cX11_passOn 96 = .ok (.iconst 0, 1) := by decide +kernel
theorem dX11_passOn_97 : decode cX11_passOn 97 = .ok (.iastore, 1) := by decide +kernel
theorem dX11_passOn_98 : decode cX11_passOn 98 = .ok (.aload_n 0, 1) := by decide +kernel
theorem dX11_passOn_99 : decode cX11_passOn 99 = .ok (.getfield 22, 3) := by decide +kernel
theorem dX11_passOn_102 : decode cX11_passOn 102 = .ok (.iload_n 2, 1) := by decide +kernel
theorem dX11_passOn_103 : decode cX11_passOn 103 = .ok (.bipush 13, 2) := by decide +kernel
theorem dX11_passOn_105 : decode cX11_passOn 105 = .ok (.iadd, 1) := by decide +kernel
theorem dX11_passOn_106 : decode cX11_passOn 106 = .ok (.dup2, 1) := by decide +kernel
theorem dX11_passOn_107 : decode cX11_passOn 107 = .ok (.iaload, 1) := by decide +kernel
theorem dX11_passOn_108 : decode cX11_passOn 108 = .ok (.iconst 1, 1) := by decide +kernel
theorem dX11_passOn_109 : decode cX11_passOn 109 = .ok (.iadd, 1) := by decide +kernel
theorem dX11_passOn_110 : decode cX11_passOn 110 = .ok (.iastore, 1) := by decide +kernel
theorem dX11_passOn_111 : decode cX11_passOn 111 = .ok (.return_, 1) := by decide +kernel
theorem dX11_far_0 : decode cX11_far 0 = .ok (.iload_n 0, 1) := by decide +kernel
theorem dX11_far_1 : decode cX11_far 1 = .ok (.iload_n 1, 1) := by decide +kernel
theorem dX11_far_2 : decode cX11_far 2 = .ok (.if_icmp .le 9, 3) := by decide +kernel
theorem dX11_far_5 : decode cX11_far 5 = .ok (.iload_n 0, 1) := by decide +kernel
theorem dX11_far_6 : decode cX11_far 6 = .ok (.iload_n 1, 1) := by decide +kernel
theorem dX11_far_7 : decode cX11_far 7 = .ok (.isub, 1) := by decide +kernel
theorem dX11_far_8 : decode cX11_far 8 = .ok (.goto 6, 3) := by decide +kernel
theorem dX11_far_11 : decode cX11_far 11 = .ok (.iload_n 1, 1) := by decide +kernel
theorem dX11_far_12 : decode cX11_far 12 = .ok (.iload_n 0, 1) := by decide +kernel
theorem dX11_far_13 : decode cX11_far 13 = .ok (.isub, 1) := by decide +kernel
theorem dX11_far_14 : decode cX11_far 14 = .ok (.ireturn, 1) := by decide +kernel
theorem dX11_canWalk_0 : decode cX11_canWalk 0 = .ok (.bipush 14, 2) := by decide +kernel
theorem dX11_canWalk_2 : decode cX11_canWalk 2 = .ok (.iload_n 1, 1) := by decide +kernel
theorem dX11_canWalk_3 : decode cX11_canWalk 3 = .ok (.imul, 1) := by decide +kernel
theorem dX11_canWalk_4 : decode cX11_canWalk 4 = .ok (.istore 4, 2) := by decide +kernel
theorem dX11_canWalk_6 : decode cX11_canWalk 6 = .ok (.aload_n 0, 1) := by decide +kernel
theorem dX11_canWalk_7 : decode cX11_canWalk 7 = .ok (.iload_n 2, 1) := by decide +kernel
theorem dX11_canWalk_8 : decode cX11_canWalk 8 = .ok (.invokevirtual 136, 3) := by decide +kernel
theorem dX11_canWalk_11 : decode cX11_canWalk 11 = .ok (.ifCond .eq 36, 3) := by decide +kernel
theorem dX11_canWalk_14 : decode cX11_canWalk 14 = .ok (.iload_n 3, 1) := by decide +kernel
theorem dX11_canWalk_15 : decode cX11_canWalk 15 = .ok (.invokestatic 140, 3) := by decide +kernel
theorem dX11_canWalk_18 : decode cX11_canWalk 18 = .ok (.ifCond .eq 29, 3) := by decide +kernel
theorem dX11_canWalk_21 : decode cX11_canWalk 21 = .ok (.aload_n 0, 1) := by decide +kernel
theorem dX11_canWalk_22 : decode cX11_canWalk 22 = .ok (.getfield 22, 3) := by decide +kernel
theorem dX11_canWalk_25 : decode cX11_canWalk 25 = .ok (.iload 4, 2) := by decide +kernel
theorem dX11_canWalk_27 : decode cX11_canWalk 27 = .ok (.bipush 12, 2) := by decide +kernel
theorem dX11_canWalk_29 : decode cX11_canWalk 29 = .ok (.iadd, 1) := by decide +kernel
theorem dX11_canWalk_30 : decode cX11_canWalk 30 = .ok (.iaload, 1) := by decide +kernel
theorem dX11_canWalk_31 : decode cX11_canWalk 31 = .ok (.iload_n 2, 1) := by decide +kernel
theorem dX11_canWalk_32 : decode cX11_canWalk 32 = .ok (.invokestatic 75, 3) := by decide +kernel
theorem dX11_canWalk_35 : decode cX11_canWalk 35 = .ok (.ifCond .ne 12, 3) := by decide +kernel
theorem dX11_canWalk_38 : decode cX11_canWalk 38 = .ok (.aload_n 0, 1) := by decide +kernel
theorem dX11_canWalk_39 : decode cX11_canWalk 39 = .ok (.iload_n 1, 1) := by decide +kernel
theorem dX11_canWalk_40 : decode cX11_canWalk 40 = .ok (.iload_n 2, 1) := by decide +kernel
theorem dX11_canWalk_41 : decode cX11_canWalk 41 = .ok (.invokevirtual 122, 3) := by decide +kernel
theorem dX11_canWalk_44 : decode cX11_canWalk 44 = .ok (.ifCond .eq 5, 3) := by decide +kernel
theorem dX11_canWalk_47 : decode cX11_canWalk 47 = .ok (.iconst 0, 1) := by decide +kernel
theorem dX11_canWalk_48 : decode cX11_canWalk 48 = .ok (.ireturn, 1) := by decide +kernel
theorem dX11_canWalk_49 : decode cX11_canWalk 49 = .ok (.aload_n 0, 1) := by decide +kernel
theorem dX11_canWalk_50 : decode cX11_canWalk 50 = .ok (.getfield 22, 3) := by decide +kernel
theorem dX11_canWalk_53 : decode cX11_canWalk 53 = .ok (.iload 4, 2) := by decide +kernel
theorem dX11_canWalk_55 : decode cX11_canWalk 55 = .ok (.iload_n 2, 1) := by decide +kernel
theorem dX11_canWalk_56 : decode cX11_canWalk 56 = .ok (.iadd, 1) := by decide +kernel
theorem dX11_canWalk_57 : decode cX11_canWalk 57 = .ok (.iaload, 1) := by decide +kernel
theorem dX11_canWalk_58 : decode cX11_canWalk 58 = .ok (.iload_n 3, 1) := by decide +kernel
theorem dX11_canWalk_59 : decode cX11_canWalk 59 = .ok (.if_icmp .eq 29, 3) := by decide +kernel
theorem dX11_canWalk_62 : decode cX11_canWalk 62 = .ok (.aload_n 0, 1) := by decide +kernel
theorem dX11_canWalk_63 : decode cX11_canWalk 63 = .ok (.getfield 22, 3) := by decide +kernel
theorem dX11_canWalk_66 : decode cX11_canWalk 66 = .ok (.iload 4, 2) := by decide +kernel
theorem dX11_canWalk_68 : decode cX11_canWalk 68 = .ok (.iload_n 2, 1) := by decide +kernel
theorem dX11_canWalk_69 : decode cX11_canWalk 69 = .ok (.iadd, 1) := by decide +kernel
theorem dX11_canWalk_70 : decode cX11_canWalk 70 = .ok (.iaload, 1) := by decide +kernel
theorem dX11_canWalk_71 : decode cX11_canWalk 71 = .ok (.iload_n 3, 1) := by decide +kernel
theorem dX11_canWalk_72 : decode cX11_canWalk 72 = .ok (.invokestatic 143, 3) := by decide +kernel
theorem dX11_canWalk_75 : decode cX11_canWalk 75 = .ok (.aload_n 0, 1) := by decide +kernel
theorem dX11_canWalk_76 : decode cX11_canWalk 76 = .ok (.iload_n 1, 1) := by decide +kernel
theorem dX11_canWalk_77 : decode cX11_canWalk 77 = .ok (.iload_n 2, 1) := by decide +kernel
theorem dX11_canWalk_78 : decode cX11_canWalk 78 = .ok (.invokevirtual 146, 3) := by decide +kernel
theorem dX11_canWalk_81 : decode cX11_canWalk 81 = .ok (.if_icmp .gt 7, 3) := by decide +kernel
theorem dX11_canWalk_84 : decode cX11_canWalk 84 = .ok (.iconst 1, 1) := by decide +kernel
theorem dX11_canWalk_85 : decode cX11_canWalk 85 = .ok (.goto 4, 3) := by decide +kernel
theorem dX11_canWalk_88 : decode cX11_canWalk 88 = .ok (.iconst 0, 1) := by decide +kernel
theorem dX11_canWalk_89 : decode cX11_canWalk 89 = .ok (.ireturn, 1) := by decide +kernel
theorem dX11_walkOn_0 : decode cX11_walkOn 0 = .ok (.aload_n 0, 1) := by decide +kernel
theorem dX11_walkOn_1 : decode cX11_walkOn 1 = .ok (.getfield 22, 3) := by decide +kernel
theorem dX11_walkOn_4 : decode cX11_walkOn 4 = .ok (.bipush 14, 2) := by decide +kernel
theorem dX11_walkOn_6 : decode cX11_walkOn 6 = .ok (.iload_n 1, 1) := by decide +kernel
theorem dX11_walkOn_7 : decode cX11_walkOn 7 = .ok (.imul, 1) := by decide +kernel
theorem dX11_walkOn_8 : decode cX11_walkOn 8 = .ok (.iload_n 2, 1) := by decide +kernel
theorem dX11_walkOn_9 : decode cX11_walkOn 9 = .ok (.iadd, 1) := by decide +kernel
theorem dX11_walkOn_10 : decode cX11_walkOn 10 = .ok (.iload_n 3, 1) := by decide +kernel
theorem dX11_walkOn_11 : decode cX11_walkOn 11 = .ok (.iastore, 1) := by decide +kernel
theorem dX11_walkOn_12 : decode cX11_walkOn 12 = .ok (.aload_n 0, 1) := by decide +kernel
theorem dX11_walkOn_13 : decode cX11_walkOn 13 = .ok (.getfield 22, 3) := by decide +kernel
theorem dX11_walkOn_16 : decode cX11_walkOn 16 = .ok (.bipush 14, 2) := by decide +kernel
theorem dX11_walkOn_18 : decode cX11_walkOn 18 = .ok (.iload_n 1, 1) := by decide +kernel
theorem dX11_walkOn_19 : decode cX11_walkOn 19 = .ok (.imul, 1) := by decide +kernel
theorem dX11_walkOn_20 : decode cX11_walkOn 20 = .ok (.bipush 12, 2) := by decide +kernel
theorem dX11_walkOn_22 : decode cX11_walkOn 22 = .ok (.iadd, 1) := by decide +kernel
theorem dX11_walkOn_23 : decode cX11_walkOn 23 = .ok (.dup2, 1) := by decide +kernel
theorem dX11_walkOn_24 : decode cX11_walkOn 24 = .ok (.iaload, 1) := by decide +kernel
theorem dX11_walkOn_25 : decode cX11_walkOn 25 = .ok (.iconst 1, 1) := by decide +kernel
theorem dX11_walkOn_26 : decode cX11_walkOn 26 = .ok (.iload_n 2, 1) := by decide +kernel
theorem dX11_walkOn_27 : decode cX11_walkOn 27 = .ok (.ishl, 1) := by decide +kernel
theorem dX11_walkOn_28 : decode cX11_walkOn 28 = .ok (.ior, 1) := by decide +kernel
theorem dX11_walkOn_29 : decode cX11_walkOn 29 = .ok (.iastore, 1) := by decide +kernel
theorem dX11_walkOn_30 : decode cX11_walkOn 30 = .ok (.return_, 1) := by decide +kernel
theorem dX11_canTell_0 : decode cX11_canTell 0 = .ok (.aload_n 0, 1) := by decide +kernel
theorem dX11_canTell_1 : decode cX11_canTell 1 = .ok (.iload_n 2, 1) := by decide +kernel
theorem dX11_canTell_2 : decode cX11_canTell 2 = .ok (.invokevirtual 136, 3) := by decide +kernel
theorem dX11_canTell_5 : decode cX11_canTell 5 = .ok (.ifCond .eq 54, 3) := by decide +kernel
theorem dX11_canTell_8 : decode cX11_canTell 8 = .ok (.aload_n 0, 1) := by decide +kernel
theorem dX11_canTell_9 : decode cX11_canTell 9 = .ok (.iload_n 3, 1) := by decide +kernel
theorem dX11_canTell_10 : decode cX11_canTell 10 = .ok (.invokevirtual 136, 3) := by decide +kernel
theorem dX11_canTell_13 : decode cX11_canTell 13 = .ok (.ifCond .eq 46, 3) := by decide +kernel
theorem dX11_canTell_16 : decode cX11_canTell 16 = .ok (.iload_n 2, 1) := by decide +kernel
theorem dX11_canTell_17 : decode cX11_canTell 17 = .ok (.iload_n 3, 1) := by decide +kernel
theorem dX11_canTell_18 : decode cX11_canTell 18 = .ok (.if_icmp .eq 41, 3) := by decide +kernel
theorem dX11_canTell_21 : decode cX11_canTell 21 = .ok (.aload_n 0, 1) := by decide +kernel
theorem dX11_canTell_22 : decode cX11_canTell 22 = .ok (.getfield 22, 3) := by decide +kernel
theorem dX11_canTell_25 : decode cX11_canTell 25 = .ok (.bipush 14, 2) := by decide +kernel
theorem dX11_canTell_27 : decode cX11_canTell 27 = .ok (.iload_n 1, 1) := by decide +kernel
theorem dX11_canTell_28 : decode cX11_canTell 28 = .ok (.imul, 1) := by decide +kernel
theorem dX11_canTell_29 : decode cX11_canTell 29 = .ok (.iload_n 2, 1) := by decide +kernel
theorem dX11_canTell_30 : decode cX11_canTell 30 = .ok (.iadd, 1) := by decide +kernel
theorem dX11_canTell_31 : decode cX11_canTell 31 = .ok (.iaload, 1) := by decide +kernel
theorem dX11_canTell_32 : decode cX11_canTell 32 = .ok (.aload_n 0, 1) := by decide +kernel
theorem dX11_canTell_33 : decode cX11_canTell 33 = .ok (.getfield 22, 3) := by decide +kernel
theorem dX11_canTell_36 : decode cX11_canTell 36 = .ok (.bipush 14, 2) := by decide +kernel
theorem dX11_canTell_38 : decode cX11_canTell 38 = .ok (.iload_n 1, 1) := by decide +kernel
theorem dX11_canTell_39 : decode cX11_canTell 39 = .ok (.imul, 1) := by decide +kernel
theorem dX11_canTell_40 : decode cX11_canTell 40 = .ok (.iload_n 3, 1) := by decide +kernel
theorem dX11_canTell_41 : decode cX11_canTell 41 = .ok (.iadd, 1) := by decide +kernel
theorem dX11_canTell_42 : decode cX11_canTell 42 = .ok (.iaload, 1) := by decide +kernel
theorem dX11_canTell_43 : decode cX11_canTell 43 = .ok (.if_icmp .ne 16, 3) := by decide +kernel
theorem dX11_canTell_46 : decode cX11_canTell 46 = .ok (.aload_n 0, 1) := by decide +kernel
theorem dX11_canTell_47 : decode cX11_canTell 47 = .ok (.iload_n 1, 1) := by decide +kernel
theorem dX11_canTell_48 : decode cX11_canTell 48 = .ok (.iload_n 3, 1) := by decide +kernel
theorem dX11_canTell_49 : decode cX11_canTell 49 = .ok (.invokevirtual 122, 3) := by decide +kernel
theorem dX11_canTell_52 : decode cX11_canTell 52 = .ok (.ifCond .ne 7, 3) := by decide +kernel
theorem dX11_canTell_55 : decode cX11_canTell 55 = .ok (.iconst 1, 1) := by decide +kernel
theorem dX11_canTell_56 : decode cX11_canTell 56 = .ok (.goto 4, 3) := by decide +kernel
theorem dX11_canTell_59 : decode cX11_canTell 59 = .ok (.iconst 0, 1) := by decide +kernel
theorem dX11_canTell_60 : decode cX11_canTell 60 = .ok (.ireturn, 1) := by decide +kernel
theorem dX11_tellOn_0 : decode cX11_tellOn 0 = .ok (.aload_n 0, 1) := by decide +kernel
theorem dX11_tellOn_1 : decode cX11_tellOn 1 = .ok (.getfield 22, 3) := by decide +kernel
theorem dX11_tellOn_4 : decode cX11_tellOn 4 = .ok (.bipush 14, 2) := by decide +kernel
theorem dX11_tellOn_6 : decode cX11_tellOn 6 = .ok (.iload_n 1, 1) := by decide +kernel
theorem dX11_tellOn_7 : decode cX11_tellOn 7 = .ok (.imul, 1) := by decide +kernel
theorem dX11_tellOn_8 : decode cX11_tellOn 8 = .ok (.iconst 4, 1) := by decide +kernel
theorem dX11_tellOn_9 : decode cX11_tellOn 9 = .ok (.iadd, 1) := by decide +kernel
theorem dX11_tellOn_10 : decode cX11_tellOn 10 = .ok (.iload_n 3, 1) := by decide +kernel
theorem dX11_tellOn_11 : decode cX11_tellOn 11 = .ok (.iadd, 1) := by decide +kernel
theorem dX11_tellOn_12 : decode cX11_tellOn 12 = .ok (.dup2, 1) := by decide +kernel
theorem dX11_tellOn_13 : decode cX11_tellOn 13 = .ok (.iaload, 1) := by decide +kernel
theorem dX11_tellOn_14 : decode cX11_tellOn 14 = .ok (.aload_n 0, 1) := by decide +kernel
theorem dX11_tellOn_15 : decode cX11_tellOn 15 = .ok (.getfield 22, 3) := by decide +kernel
theorem dX11_tellOn_18 : decode cX11_tellOn 18 = .ok (.bipush 14, 2) := by decide +kernel
theorem dX11_tellOn_20 : decode cX11_tellOn 20 = .ok (.iload_n 1, 1) := by decide +kernel
theorem dX11_tellOn_21 : decode cX11_tellOn 21 = .ok (.imul, 1) := by decide +kernel
theorem dX11_tellOn_22 : decode cX11_tellOn 22 = .ok (.iconst 4, 1) := by decide +kernel
theorem dX11_tellOn_23 : decode cX11_tellOn 23 = .ok (.iadd, 1) := by decide +kernel
theorem dX11_tellOn_24 : decode cX11_tellOn 24 = .ok (.iload_n 2, 1) := by decide +kernel
theorem dX11_tellOn_25 : decode cX11_tellOn 25 = .ok (.iadd, 1) := by decide +kernel
theorem dX11_tellOn_26 : decode cX11_tellOn 26 = .ok (.iaload, 1) := by decide +kernel
theorem dX11_tellOn_27 : decode cX11_tellOn 27 = .ok (.ior, 1) := by decide +kernel
theorem dX11_tellOn_28 : decode cX11_tellOn 28 = .ok (.iastore, 1) := by decide +kernel
theorem dX11_tellOn_29 : decode cX11_tellOn 29 = .ok (.return_, 1) := by decide +kernel
theorem dX11_washOn_0 : decode cX11_washOn 0 = .ok (.aload_n 0, 1) := by decide +kernel
theorem dX11_washOn_1 : decode cX11_washOn 1 = .ok (.getfield 22, 3) := by decide +kernel
theorem dX11_washOn_4 : decode cX11_washOn 4 = .ok (.bipush 14, 2) := by decide +kernel
theorem dX11_washOn_6 : decode cX11_washOn 6 = .ok (.iload_n 1, 1) := by decide +kernel
theorem dX11_washOn_7 : decode cX11_washOn 7 = .ok (.imul, 1) := by decide +kernel
theorem dX11_washOn_8 : decode cX11_washOn 8 = .ok (.iconst 4, 1) := by decide +kernel
theorem dX11_washOn_9 : decode cX11_washOn 9 = .ok (.iadd, 1) := by decide +kernel
theorem dX11_washOn_10 : decode cX11_washOn 10 = .ok (.iload_n 2, 1) := by decide +kernel
theorem dX11_washOn_11 : decode cX11_washOn 11 = .ok (.iadd, 1) := by decide +kernel
theorem dX11_washOn_12 : decode cX11_washOn 12 = .ok (.iconst 0, 1) := by decide +kernel
theorem dX11_washOn_13 : decode cX11_washOn 13 = .ok (.iastore, 1) := by decide +kernel
theorem dX11_washOn_14 : decode cX11_washOn 14 = .ok (.aload_n 0, 1) := by decide +kernel
theorem dX11_washOn_15 : decode cX11_washOn 15 = .ok (.getfield 22, 3) := by decide +kernel
theorem dX11_washOn_18 : decode cX11_washOn 18 = .ok (.bipush 14, 2) := by decide +kernel
theorem dX11_washOn_20 : decode cX11_washOn 20 = .ok (.iload_n 1, 1) := by decide +kernel
theorem dX11_washOn_21 : decode cX11_washOn 21 = .ok (.imul, 1) := by decide +kernel
theorem dX11_washOn_22 : decode cX11_washOn 22 = .ok (.bipush 8, 2) := by decide +kernel
theorem dX11_washOn_24 : decode cX11_washOn 24 = .ok (.iadd, 1) := by decide +kernel
theorem dX11_washOn_25 : decode cX11_washOn 25 = .ok (.iload_n 2, 1) := by decide +kernel
theorem dX11_washOn_26 : decode cX11_washOn 26 = .ok (.iadd, 1) := by decide +kernel
theorem dX11_washOn_27 : decode cX11_washOn 27 = .ok (.iconst 0, 1) := by decide +kernel
theorem dX11_washOn_28 : decode cX11_washOn 28 = .ok (.iastore, 1) := by decide +kernel
theorem dX11_washOn_29 : decode cX11_washOn 29 = .ok (.return_, 1) := by decide +kernel
theorem dX11_hummocksOn_0 : decode cX11_hummocksOn 0 = .ok (.iconst 0, 1) := by decide +kernel
theorem dX11_hummocksOn_1 : decode cX11_hummocksOn 1 = .ok (.istore_n 2, 1) := by decide +kernel
theorem dX11_hummocksOn_2 : decode cX11_hummocksOn 2 = .ok (.iconst 0, 1) := by decide +kernel
theorem dX11_hummocksOn_3 : decode cX11_hummocksOn 3 = .ok (.istore_n 3, 1) := by decide +kernel
theorem dX11_hummocksOn_4 : decode cX11_hummocksOn 4 = .ok (.iload_n 3, 1) := by decide +kernel
theorem dX11_hummocksOn_5 : decode cX11_hummocksOn 5 = .ok (.aload_n 0, 1) := by decide +kernel
theorem dX11_hummocksOn_6 : decode cX11_hummocksOn 6 = .ok (.getfield 110, 3) := by decide +kernel
theorem dX11_hummocksOn_9 : decode cX11_hummocksOn 9 = .ok (.if_icmp .ge 28, 3) := by decide +kernel
theorem dX11_hummocksOn_12 : decode cX11_hummocksOn 12 = .ok (.iload_n 2, 1) := by decide +kernel
theorem dX11_hummocksOn_13 : decode cX11_hummocksOn 13 = .ok (.aload_n 0, 1) := by decide +kernel
theorem dX11_hummocksOn_14 : decode cX11_hummocksOn 14 = .ok (.iload_n 1, 1) := by decide +kernel
theorem dX11_hummocksOn_15 : decode cX11_hummocksOn 15 = .ok (.iload_n 3, 1) := by decide +kernel
theorem dX11_hummocksOn_16 : decode cX11_hummocksOn 16 = .ok (.invokevirtual 122, 3) := by decide +kernel
theorem dX11_hummocksOn_19 : decode cX11_hummocksOn 19 = .ok (.ifCond .eq 9, 3) := by decide +kernel
theorem dX11_hummocksOn_22 : decode cX11_hummocksOn 22 = .ok (.iconst 1, 1) := by decide +kernel
theorem dX11_hummocksOn_23 : decode cX11_hummocksOn 23 = .ok (.iload_n 3, 1) := by decide +kernel
theorem dX11_hummocksOn_24 : decode cX11_hummocksOn 24 = .ok (.ishl, 1) := by decide +kernel
theorem dX11_hummocksOn_25 : decode cX11_hummocksOn 25 = .ok (.goto 4, 3) := by decide +kernel
theorem dX11_hummocksOn_28 : decode cX11_hummocksOn 28 = .ok (.iconst 0, 1) := by decide +kernel
theorem dX11_hummocksOn_29 : decode cX11_hummocksOn 29 = .ok (.ior, 1) := by decide +kernel
theorem dX11_hummocksOn_30 : decode cX11_hummocksOn 30 = .ok (.istore_n 2, 1) := by decide +kernel
theorem dX11_hummocksOn_31 : decode cX11_hummocksOn 31 = .ok (.iinc 3 1, 3) := by decide +kernel
theorem dX11_hummocksOn_34 : decode cX11_hummocksOn 34 = .ok (.goto (-30), 3) := by decide +kernel
theorem dX11_hummocksOn_37 : decode cX11_hummocksOn 37 = .ok (.iload_n 2, 1) := by decide +kernel
theorem dX11_hummocksOn_38 : decode cX11_hummocksOn 38 = .ok (.ireturn, 1) := by decide +kernel
theorem dX11_figuresOf_0 : decode cX11_figuresOf 0 = .ok (.iconst 0, 1) := by decide +kernel
theorem dX11_figuresOf_1 : decode cX11_figuresOf 1 = .ok (.istore_n 2, 1) := by decide +kernel
theorem dX11_figuresOf_2 : decode cX11_figuresOf 2 = .ok (.iconst 0, 1) := by decide +kernel
theorem dX11_figuresOf_3 : decode cX11_figuresOf 3 = .ok (.istore_n 3, 1) := by decide +kernel
theorem dX11_figuresOf_4 : decode cX11_figuresOf 4 = .ok (.iload_n 3, 1) := by decide +kernel
theorem dX11_figuresOf_5 : decode cX11_figuresOf 5 = .ok (.aload_n 0, 1) := by decide +kernel
theorem dX11_figuresOf_6 : decode cX11_figuresOf 6 = .ok (.getfield 13, 3) := by decide +kernel
theorem dX11_figuresOf_9 : decode cX11_figuresOf 9 = .ok (.iload_n 1, 1) := by decide +kernel
theorem dX11_figuresOf_10 : decode cX11_figuresOf 10 = .ok (.iaload, 1) := by decide +kernel
theorem dX11_figuresOf_11 : decode cX11_figuresOf 11 = .ok (.if_icmp .ge 27, 3) := by decide +kernel
theorem dX11_figuresOf_14 : decode cX11_figuresOf 14 = .ok (.bipush 10, 2) := by decide +kernel
theorem dX11_figuresOf_16 : decode cX11_figuresOf 16 = .ok (.iload_n 2, 1) := by decide +kernel
theorem dX11_figuresOf_17 : decode cX11_figuresOf 17 = .ok (.imul, 1) := by decide +kernel
theorem dX11_figuresOf_18 : decode cX11_figuresOf 18 = .ok (.aload_n 0, 1) := by decide +kernel
theorem dX11_figuresOf_19 : decode cX11_figuresOf 19 = .ok (.getfield 16, 3) := by decide +kernel
theorem dX11_figuresOf_22 : decode cX11_figuresOf 22 = .ok (.iconst 4, 1) := by decide +kernel
theorem dX11_figuresOf_23 : decode cX11_figuresOf 23 = .ok (.iload_n 1, 1) := by decide +kernel
theorem dX11_figuresOf_24 : decode cX11_figuresOf 24 = .ok (.imul, 1) := by decide +kernel
theorem dX11_figuresOf_25 : decode cX11_figuresOf 25 = .ok (.iload_n 3, 1) := by decide +kernel
theorem dX11_figuresOf_26 : decode cX11_figuresOf 26 = .ok (.iadd, 1) := by decide +kernel
theorem dX11_figuresOf_27 : decode cX11_figuresOf 27 = .ok (.iaload, 1) := by decide +kernel
theorem dX11_figuresOf_28 : decode cX11_figuresOf 28 = .ok (.iadd, 1) := by decide +kernel
theorem dX11_figuresOf_29 : decode cX11_figuresOf 29 = .ok (.iconst 1, 1) := by decide +kernel
theorem dX11_figuresOf_30 : decode cX11_figuresOf 30 = .ok (.iadd, 1) := by decide +kernel
theorem dX11_figuresOf_31 : decode cX11_figuresOf 31 = .ok (.istore_n 2, 1) := by decide +kernel
theorem dX11_figuresOf_32 : decode cX11_figuresOf 32 = .ok (.iinc 3 1, 3) := by decide +kernel
theorem dX11_figuresOf_35 : decode cX11_figuresOf 35 = .ok (.goto (-31), 3) := by decide +kernel
theorem dX11_figuresOf_38 : decode cX11_figuresOf 38 = .ok (.iload_n 2, 1) := by decide +kernel
theorem dX11_figuresOf_39 : decode cX11_figuresOf 39 = .ok (.ireturn, 1) := by decide +kernel
theorem dX11_trampsAt_0 : decode cX11_trampsAt 0 = .ok (.iconst 0, 1) := by decide +kernel
theorem dX11_trampsAt_1 : decode cX11_trampsAt 1 = .ok (.istore_n 2, 1) := by decide +kernel
theorem dX11_trampsAt_2 : decode cX11_trampsAt 2 = .ok (.iconst 0, 1) := by decide +kernel
theorem dX11_trampsAt_3 : decode cX11_trampsAt 3 = .ok (.istore_n 3, 1) := by decide +kernel
theorem dX11_trampsAt_4 : decode cX11_trampsAt 4 = .ok (.iload_n 3, 1) := by decide +kernel
theorem dX11_trampsAt_5 : decode cX11_trampsAt 5 = .ok (.aload_n 0, 1) := by decide +kernel
theorem dX11_trampsAt_6 : decode cX11_trampsAt 6 = .ok (.getfield 110, 3) := by decide +kernel
theorem dX11_trampsAt_9 : decode cX11_trampsAt 9 = .ok (.if_icmp .ge 29, 3) := by decide +kernel
theorem dX11_trampsAt_12 : decode cX11_trampsAt 12 = .ok (.iload_n 2, 1) := by decide +kernel
theorem dX11_trampsAt_13 : decode cX11_trampsAt 13 = .ok (.aload_n 0, 1) := by decide +kernel
theorem dX11_trampsAt_14 : decode cX11_trampsAt 14 = .ok (.getfield 22, 3) := by decide +kernel
theorem dX11_trampsAt_17 : decode cX11_trampsAt 17 = .ok (.iload_n 3, 1) := by decide +kernel
theorem dX11_trampsAt_18 : decode cX11_trampsAt 18 = .ok (.iaload, 1) := by decide +kernel
theorem dX11_trampsAt_19 : decode cX11_trampsAt 19 = .ok (.iload_n 1, 1) := by decide +kernel
theorem dX11_trampsAt_20 : decode cX11_trampsAt 20 = .ok (.if_icmp .ne 9, 3) := by decide +kernel
theorem dX11_trampsAt_23 : decode cX11_trampsAt 23 = .ok (.iconst 1, 1) := by decide +kernel
theorem dX11_trampsAt_24 : decode cX11_trampsAt 24 = .ok (.iload_n 3, 1) := by decide +kernel
theorem dX11_trampsAt_25 : decode cX11_trampsAt 25 = .ok (.ishl, 1) := by decide +kernel
theorem dX11_trampsAt_26 : decode cX11_trampsAt 26 = .ok (.goto 4, 3) := by decide +kernel
theorem dX11_trampsAt_29 : decode cX11_trampsAt 29 = .ok (.iconst 0, 1) := by decide +kernel
theorem dX11_trampsAt_30 : decode cX11_trampsAt 30 = .ok (.ior, 1) := by decide +kernel
theorem dX11_trampsAt_31 : decode cX11_trampsAt 31 = .ok (.istore_n 2, 1) := by decide +kernel
theorem dX11_trampsAt_32 : decode cX11_trampsAt 32 = .ok (.iinc 3 1, 3) := by decide +kernel
theorem dX11_trampsAt_35 : decode cX11_trampsAt 35 = .ok (.goto (-31), 3) := by decide +kernel
theorem dX11_trampsAt_38 : decode cX11_trampsAt 38 = .ok (.iload_n 2, 1) := by decide +kernel
theorem dX11_trampsAt_39 : decode cX11_trampsAt 39 = .ok (.ireturn, 1) := by decide +kernel
theorem dX11_kiln_0 : decode cX11_kiln 0 = .ok (.aload_n 0, 1) := by decide +kernel
theorem dX11_kiln_1 : decode cX11_kiln 1 = .ok (.iload_n 1, 1) := by decide +kernel
theorem dX11_kiln_2 : decode cX11_kiln 2 = .ok (.invokevirtual 149, 3) := by decide +kernel
theorem dX11_kiln_5 : decode cX11_kiln 5 = .ok (.ifCond .ne 5, 3) := by decide +kernel
theorem dX11_kiln_8 : decode cX11_kiln 8 = .ok (.iconst (-1), 1) := by decide +kernel
theorem dX11_kiln_9 : decode cX11_kiln 9 = .ok (.ireturn, 1) := by decide +kernel
theorem dX11_kiln_10 : decode cX11_kiln 10 = .ok (.iload_n 2, 1) := by decide +kernel
theorem dX11_kiln_11 : decode cX11_kiln 11 = .ok (.tableswitch 70 0 4 #[33, 40, 47, 53, 59], 33) := by decide +kernel
theorem dX11_kiln_44 : decode cX11_kiln 44 = .ok (.aload_n 0, 1) := by decide +kernel
theorem dX11_kiln_45 : decode cX11_kiln 45 = .ok (.getfield 7, 3) := by decide +kernel
theorem dX11_kiln_48 : decode cX11_kiln 48 = .ok (.iload_n 1, 1) := by decide +kernel
theorem dX11_kiln_49 : decode cX11_kiln 49 = .ok (.iaload, 1) := by decide +kernel
theorem dX11_kiln_50 : decode cX11_kiln 50 = .ok (.ireturn, 1) := by decide +kernel
theorem dX11_kiln_51 : decode cX11_kiln 51 = .ok (.aload_n 0, 1) := by decide +kernel
theorem dX11_kiln_52 : decode cX11_kiln 52 = .ok (.getfield 13, 3) := by decide +kernel
theorem dX11_kiln_55 : decode cX11_kiln 55 = .ok (.iload_n 1, 1) := by decide +kernel
theorem dX11_kiln_56 : decode cX11_kiln 56 = .ok (.iaload, 1) := by decide +kernel
theorem dX11_kiln_57 : decode cX11_kiln 57 = .ok (.ireturn, 1) := by decide +kernel
theorem dX11_kiln_58 : decode cX11_kiln 58 = .ok (.aload_n 0, 1) := by decide +kernel
theorem dX11_kiln_59 : decode cX11_kiln 59 = .ok (.iload_n 1, 1) := by decide +kernel
theorem dX11_kiln_60 : decode cX11_kiln 60 = .ok (.invokevirtual 152, 3) := by decide +kernel
theorem dX11_kiln_63 : decode cX11_kiln 63 = .ok (.ireturn, 1) := by decide +kernel
theorem dX11_kiln_64 : decode cX11_kiln 64 = .ok (.aload_n 0, 1) := by decide +kernel
theorem dX11_kiln_65 : decode cX11_kiln 65 = .ok (.iload_n 1, 1) := by decide +kernel
theorem dX11_kiln_66 : decode cX11_kiln 66 = .ok (.invokevirtual 155, 3) := by decide +kernel
theorem dX11_kiln_69 : decode cX11_kiln 69 = .ok (.ireturn, 1) := by decide +kernel
theorem dX11_kiln_70 : decode cX11_kiln 70 = .ok (.aload_n 0, 1) := by decide +kernel
theorem dX11_kiln_71 : decode cX11_kiln 71 = .ok (.aload_n 0, 1) := by decide +kernel
theorem dX11_kiln_72 : decode cX11_kiln 72 = .ok (.getfield 7, 3) := by decide +kernel
theorem dX11_kiln_75 : decode cX11_kiln 75 = .ok (.iload_n 1, 1) := by decide +kernel
theorem dX11_kiln_76 : decode cX11_kiln 76 = .ok (.iaload, 1) := by decide +kernel
theorem dX11_kiln_77 : decode cX11_kiln 77 = .ok (.invokevirtual 158, 3) := by decide +kernel
theorem dX11_kiln_80 : decode cX11_kiln 80 = .ok (.ireturn, 1) := by decide +kernel
theorem dX11_kiln_81 : decode cX11_kiln 81 = .ok (.bipush (-2), 2) := by decide +kernel
theorem dX11_kiln_83 : decode cX11_kiln 83 = .ok (.ireturn, 1) := by decide +kernel
theorem dX11_tramp_0 : decode cX11_tramp 0 = .ok (.aload_n 0, 1) := by decide +kernel
theorem dX11_tramp_1 : decode cX11_tramp 1 = .ok (.iload_n 1, 1) := by decide +kernel
theorem dX11_tramp_2 : decode cX11_tramp 2 = .ok (.invokevirtual 136, 3) := by decide +kernel
theorem dX11_tramp_5 : decode cX11_tramp 5 = .ok (.ifCond .ne 5, 3) := by decide +kernel
theorem dX11_tramp_8 : decode cX11_tramp 8 = .ok (.iconst (-1), 1) := by decide +kernel
theorem dX11_tramp_9 : decode cX11_tramp 9 = .ok (.ireturn, 1) := by decide +kernel
theorem dX11_tramp_10 : decode cX11_tramp 10 = .ok (.iload_n 2, 1) := by decide +kernel
theorem dX11_tramp_11 : decode cX11_tramp 11 = .ok (.tableswitch 108 0 6 #[41, 48, 55, 64, 74, 81, 93], 41) := by decide +kernel
theorem dX11_tramp_52 : decode cX11_tramp 52 = .ok (.aload_n 0, 1) := by decide +kernel
theorem dX11_tramp_53 : decode cX11_tramp 53 = .ok (.getfield 22, 3) := by decide +kernel
theorem dX11_tramp_56 : decode cX11_tramp 56 = .ok (.iload_n 1, 1) := by decide +kernel
theorem dX11_tramp_57 : decode cX11_tramp 57 = .ok (.iaload, 1) := by decide +kernel
theorem dX11_tramp_58 : decode cX11_tramp 58 = .ok (.ireturn, 1) := by decide +kernel
theorem dX11_tramp_59 : decode cX11_tramp 59 = .ok (.aload_n 0, 1) := by decide +kernel
theorem dX11_tramp_60 : decode cX11_tramp 60 = .ok (.getfield 19, 3) := by decide +kernel
theorem dX11_tramp_63 : decode cX11_tramp 63 = .ok (.iload_n 1, 1) := by decide +kernel
theorem dX11_tramp_64 : decode cX11_tramp 64 = .ok (.iaload, 1) := by decide +kernel
theorem dX11_tramp_65 : decode cX11_tramp 65 = .ok (.ireturn, 1) := by decide +kernel
theorem dX11_tramp_66 : decode cX11_tramp 66 = .ok (.aload_n 0, 1) := by decide +kernel
theorem dX11_tramp_67 : decode cX11_tramp 67 = .ok (.getfield 22, 3) := by decide +kernel
theorem dX11_tramp_70 : decode cX11_tramp 70 = .ok (.iconst 4, 1) := by decide +kernel
theorem dX11_tramp_71 : decode cX11_tramp 71 = .ok (.iload_n 1, 1) := by decide +kernel
theorem dX11_tramp_72 : decode cX11_tramp 72 = .ok (.iadd, 1) := by decide +kernel
theorem dX11_tramp_73 : decode cX11_tramp 73 = .ok (.iaload, 1) := by decide +kernel
theorem dX11_tramp_74 : decode cX11_tramp 74 = .ok (.ireturn, 1) := by decide +kernel
theorem dX11_tramp_75 : decode cX11_tramp 75 = .ok (.aload_n 0, 1) := by decide +kernel
theorem dX11_tramp_76 : decode cX11_tramp 76 = .ok (.getfield 22, 3) := by decide +kernel
theorem dX11_tramp_79 : decode cX11_tramp 79 = .ok (.bipush 8, 2) := by decide +kernel
theorem dX11_tramp_81 : decode cX11_tramp 81 = .ok (.iload_n 1, 1) := by decide +kernel
theorem dX11_tramp_82 : decode cX11_tramp 82 = .ok (.iadd, 1) := by decide +kernel
theorem dX11_tramp_83 : decode cX11_tramp 83 = .ok (.iaload, 1) := by decide +kernel
theorem dX11_tramp_84 : decode cX11_tramp 84 = .ok (.ireturn, 1) := by decide +kernel
theorem dX11_tramp_85 : decode cX11_tramp 85 = .ok (.aload_n 0, 1) := by decide +kernel
theorem dX11_tramp_86 : decode cX11_tramp 86 = .ok (.iconst 0, 1) := by decide +kernel
theorem dX11_tramp_87 : decode cX11_tramp 87 = .ok (.iload_n 1, 1) := by decide +kernel
theorem dX11_tramp_88 : decode cX11_tramp 88 = .ok (.invokevirtual 146, 3) := by decide +kernel
theorem dX11_tramp_91 : decode cX11_tramp 91 = .ok (.ireturn, 1) := by decide +kernel
theorem dX11_tramp_92 : decode cX11_tramp 92 = .ok (.aload_n 0, 1) := by decide +kernel
theorem dX11_tramp_93 : decode cX11_tramp 93 = .ok (.getfield 22, 3) := by decide +kernel
theorem dX11_tramp_96 : decode cX11_tramp 96 = .ok (.bipush 12, 2) := by decide +kernel
theorem dX11_tramp_98 : decode cX11_tramp 98 = .ok (.iaload, 1) := by decide +kernel
theorem dX11_tramp_99 : decode cX11_tramp 99 = .ok (.iload_n 1, 1) := by decide +kernel
theorem dX11_tramp_100 : decode cX11_tramp 100 = .ok (.ishr, 1) := by decide +kernel
theorem dX11_tramp_101 : decode cX11_tramp 101 = .ok (.iconst 1, 1) := by decide +kernel
theorem dX11_tramp_102 : decode cX11_tramp 102 = .ok (.iand, 1) := by decide +kernel
theorem dX11_tramp_103 : decode cX11_tramp 103 = .ok (.ireturn, 1) := by decide +kernel
theorem dX11_tramp_104 : decode cX11_tramp 104 = .ok (.aload_n 0, 1) := by decide +kernel
theorem dX11_tramp_105 : decode cX11_tramp 105 = .ok (.iconst 0, 1) := by decide +kernel
theorem dX11_tramp_106 : decode cX11_tramp 106 = .ok (.iload_n 1, 1) := by decide +kernel
theorem dX11_tramp_107 : decode cX11_tramp 107 = .ok (.invokevirtual 122, 3) := by decide +kernel
theorem dX11_tramp_110 : decode cX11_tramp 110 = .ok (.ifCond .eq 7, 3) := by decide +kernel
theorem dX11_tramp_113 : decode cX11_tramp 113 = .ok (.iconst 1, 1) := by decide +kernel
theorem dX11_tramp_114 : decode cX11_tramp 114 = .ok (.goto 4, 3) := by decide +kernel
theorem dX11_tramp_117 : decode cX11_tramp 117 = .ok (.iconst 0, 1) := by decide +kernel
theorem dX11_tramp_118 : decode cX11_tramp 118 = .ok (.ireturn, 1) := by decide +kernel
theorem dX11_tramp_119 : decode cX11_tramp 119 = .ok (.bipush (-2), 2) := by decide +kernel
theorem dX11_tramp_121 : decode cX11_tramp 121 = .ok (.ireturn, 1) := by decide +kernel
theorem dX11_at_0 : decode cX11_at 0 = .ok (.iload_n 1, 1) := by decide +kernel
theorem dX11_at_1 : decode cX11_at 1 = .ok (.invokestatic 140, 3) := by decide +kernel
theorem dX11_at_4 : decode cX11_at 4 = .ok (.ifCond .eq 11, 3) := by decide +kernel
theorem dX11_at_7 : decode cX11_at 7 = .ok (.aload_n 0, 1) := by decide +kernel
theorem dX11_at_8 : decode cX11_at 8 = .ok (.iload_n 1, 1) := by decide +kernel
theorem dX11_at_9 : decode cX11_at 9 = .ok (.invokevirtual 118, 3) := by decide +kernel
theorem dX11_at_12 : decode cX11_at 12 = .ok (.goto 4, 3) := by decide +kernel
theorem dX11_at_15 : decode cX11_at 15 = .ok (.iconst (-1), 1) := by decide +kernel
theorem dX11_at_16 : decode cX11_at 16 = .ok (.ireturn, 1) := by decide +kernel
theorem dX11_keepAct_0 : decode cX11_keepAct 0 = .ok (.iconst 0, 1) := by decide +kernel
theorem dX11_keepAct_1 : decode cX11_keepAct 1 = .ok (.istore_n 1, 1) := by decide +kernel
theorem dX11_keepAct_2 : decode cX11_keepAct 2 = .ok (.iload_n 1, 1) := by decide +kernel
theorem dX11_keepAct_3 : decode cX11_keepAct 3 = .ok (.bipush 14, 2) := by decide +kernel
theorem dX11_keepAct_5 : decode cX11_keepAct 5 = .ok (.if_icmp .ge 29, 3) := by decide +kernel
theorem dX11_keepAct_8 : decode cX11_keepAct 8 = .ok (.aload_n 0, 1) := by decide +kernel
theorem dX11_keepAct_9 : decode cX11_keepAct 9 = .ok (.getfield 40, 3) := by decide +kernel
theorem dX11_keepAct_12 : decode cX11_keepAct 12 = .ok (.bipush 14, 2) := by decide +kernel
theorem dX11_keepAct_14 : decode cX11_keepAct 14 = .ok (.aload_n 0, 1) := by decide +kernel
theorem dX11_keepAct_15 : decode cX11_keepAct 15 = .ok (.getfield 161, 3) := by decide +kernel
theorem dX11_keepAct_18 : decode cX11_keepAct 18 = .ok (.imul, 1) := by decide +kernel
theorem dX11_keepAct_19 : decode cX11_keepAct 19 = .ok (.iload_n 1, 1) := by decide +kernel
theorem dX11_keepAct_20 : decode cX11_keepAct 20 = .ok (.iadd, 1) := by decide +kernel
theorem dX11_keepAct_21 : decode cX11_keepAct 21 = .ok (.aload_n 0, 1) := by decide +kernel
theorem dX11_keepAct_22 : decode cX11_keepAct 22 = .ok (.getfield 22, 3) := by decide +kernel
theorem dX11_keepAct_25 : decode cX11_keepAct 25 = .ok (.iload_n 1, 1) := by decide +kernel
theorem dX11_keepAct_26 : decode cX11_keepAct 26 = .ok (.iaload, 1) := by decide +kernel
theorem dX11_keepAct_27 : decode cX11_keepAct 27 = .ok (.iastore, 1) := by decide +kernel
theorem dX11_keepAct_28 : decode cX11_keepAct 28 = .ok (.iinc 1 1, 3) := by decide +kernel
theorem dX11_keepAct_31 : decode cX11_keepAct 31 = .ok (.goto (-29), 3) := by decide +kernel
theorem dX11_keepAct_34 : decode cX11_keepAct 34 = .ok (.aload_n 0, 1) := by decide +kernel
theorem dX11_keepAct_35 : decode cX11_keepAct 35 = .ok (.aload_n 0, 1) := by decide +kernel
theorem dX11_keepAct_36 : decode cX11_keepAct 36 = .ok (.getfield 161, 3) := by decide +kernel
theorem dX11_keepAct_39 : decode cX11_keepAct 39 = .ok (.iconst 1, 1) := by decide +kernel
theorem dX11_keepAct_40 : decode cX11_keepAct 40 = .ok (.iadd, 1) := by decide +kernel
theorem dX11_keepAct_41 : decode cX11_keepAct 41 = .ok (.bipush 14, 2) := by decide +kernel
theorem dX11_keepAct_43 : decode cX11_keepAct 43 = .ok (.irem, 1) := by decide +kernel
theorem dX11_keepAct_44 : decode cX11_keepAct 44 = .ok (.putfield 161, 3) := by decide +kernel
theorem dX11_keepAct_47 : decode cX11_keepAct 47 = .ok (.aload_n 0, 1) := by decide +kernel
theorem dX11_keepAct_48 : decode cX11_keepAct 48 = .ok (.aload_n 0, 1) := by decide +kernel
theorem dX11_keepAct_49 : decode cX11_keepAct 49 = .ok (.getfield 113, 3) := by decide +kernel
theorem dX11_keepAct_52 : decode cX11_keepAct 52 = .ok (.bipush 14, 2) := by decide +kernel
theorem dX11_keepAct_54 : decode cX11_keepAct 54 = .ok (.if_icmp .ge 12, 3) := by decide +kernel
theorem dX11_keepAct_57 : decode cX11_keepAct 57 = .ok (.aload_n 0, 1) := by decide +kernel
theorem dX11_keepAct_58 : decode cX11_keepAct 58 = .ok (.getfield 113, 3) := by decide +kernel
theorem dX11_keepAct_61 : decode cX11_keepAct 61 = .ok (.iconst 1, 1) := by decide +kernel
theorem dX11_keepAct_62 : decode cX11_keepAct 62 = .ok (.iadd, 1) := by decide +kernel
theorem dX11_keepAct_63 : decode cX11_keepAct 63 = .ok (.goto 5, 3) := by decide +kernel
theorem dX11_keepAct_66 : decode cX11_keepAct 66 = .ok (.bipush 14, 2) := by decide +kernel
theorem dX11_keepAct_68 : decode cX11_keepAct 68 = .ok (.putfield 113, 3) := by decide +kernel
theorem dX11_keepAct_71 : decode cX11_keepAct 71 = .ok (.return_, 1) := by decide +kernel
theorem dX11_night_0 : decode cX11_night 0 = .ok (.aload_n 0, 1) := by decide +kernel
theorem dX11_night_1 : decode cX11_night 1 = .ok (.invokevirtual 164, 3) := by decide +kernel
theorem dX11_night_4 : decode cX11_night 4 = .ok (.aload_n 0, 1) := by decide +kernel
theorem dX11_night_5 : decode cX11_night 5 = .ok (.iconst 0, 1) := by decide +kernel
theorem dX11_night_6 : decode cX11_night 6 = .ok (.invokevirtual 167, 3) := by decide +kernel
theorem dX11_night_9 : decode cX11_night 9 = .ok (.aload_n 0, 1) := by decide +kernel
theorem dX11_night_10 : decode cX11_night 10 = .ok (.iconst 0, 1) := by decide +kernel
theorem dX11_night_11 : decode cX11_night 11 = .ok (.invokevirtual 170, 3) := by decide +kernel
theorem dX11_night_14 : decode cX11_night 14 = .ok (.invokestatic 173, 3) := by decide +kernel
theorem dX11_night_17 : decode cX11_night 17 = .ok (.ireturn, 1) := by decide +kernel
theorem dX11_walk_0 : decode cX11_walk 0 = .ok (.aload_n 0, 1) := by decide +kernel
theorem dX11_walk_1 : decode cX11_walk 1 = .ok (.iload_n 1, 1) := by decide +kernel
theorem dX11_walk_2 : decode cX11_walk 2 = .ok (.invokevirtual 136, 3) := by decide +kernel
theorem dX11_walk_5 : decode cX11_walk 5 = .ok (.ifCond .eq 10, 3) := by decide +kernel
theorem dX11_walk_8 : decode cX11_walk 8 = .ok (.iload_n 2, 1) := by decide +kernel
theorem dX11_walk_9 : decode cX11_walk 9 = .ok (.invokestatic 140, 3) := by decide +kernel
theorem dX11_walk_12 : decode cX11_walk 12 = .ok (.ifCond .ne 5, 3) := by decide +kernel
theorem dX11_walk_15 : decode cX11_walk 15 = .ok (.iconst (-1), 1) := by decide +kernel
theorem dX11_walk_16 : decode cX11_walk 16 = .ok (.ireturn, 1) := by decide +kernel
theorem dX11_walk_17 : decode cX11_walk 17 = .ok (.aload_n 0, 1) := by decide +kernel
theorem dX11_walk_18 : decode cX11_walk 18 = .ok (.iconst 0, 1) := by decide +kernel
theorem dX11_walk_19 : decode cX11_walk 19 = .ok (.iload_n 1, 1) := by decide +kernel
theorem dX11_walk_20 : decode cX11_walk 20 = .ok (.iload_n 2, 1) := by decide +kernel
theorem dX11_walk_21 : decode cX11_walk 21 = .ok (.invokevirtual 176, 3) := by decide +kernel
theorem dX11_walk_24 : decode cX11_walk 24 = .ok (.ifCond .ne 6, 3) := by decide +kernel
theorem dX11_walk_27 : decode cX11_walk 27 = .ok (.bipush (-3), 2) := by decide +kernel
theorem dX11_walk_29 : decode cX11_walk 29 = .ok (.ireturn, 1) := by decide +kernel
theorem dX11_walk_30 : decode cX11_walk 30 = .ok (.aload_n 0, 1) := by decide +kernel
theorem dX11_walk_31 : decode cX11_walk 31 = .ok (.invokevirtual 164, 3) := by decide +kernel
theorem dX11_walk_34 : decode cX11_walk 34 = .ok (.aload_n 0, 1) := by decide +kernel
theorem dX11_walk_35 : decode cX11_walk 35 = .ok (.getfield 22, 3) := by decide +kernel
theorem dX11_walk_38 : decode cX11_walk 38 = .ok (.iload_n 1, 1) := by decide +kernel
theorem dX11_walk_39 : decode cX11_walk 39 = .ok (.iaload, 1) := by decide +kernel
theorem dX11_walk_40 : decode cX11_walk 40 = .ok (.iload_n 2, 1) := by decide +kernel
theorem dX11_walk_41 : decode cX11_walk 41 = .ok (.invokestatic 143, 3) := by decide +kernel
theorem dX11_walk_44 : decode cX11_walk 44 = .ok (.istore_n 3, 1) := by decide +kernel
theorem dX11_walk_45 : decode cX11_walk 45 = .ok (.aload_n 0, 1) := by decide +kernel
theorem dX11_walk_46 : decode cX11_walk 46 = .ok (.iconst 0, 1) := by decide +kernel
theorem dX11_walk_47 : decode cX11_walk 47 = .ok (.iload_n 1, 1) := by decide +kernel
theorem dX11_walk_48 : decode cX11_walk 48 = .ok (.iload_n 2, 1) := by decide +kernel
theorem dX11_walk_49 : decode cX11_walk 49 = .ok (.invokevirtual 180, 3) := by decide +kernel
theorem dX11_walk_52 : decode cX11_walk 52 = .ok (.iload_n 3, 1) := by decide +kernel
theorem dX11_walk_53 : decode cX11_walk 53 = .ok (.ireturn, 1) := by decide +kernel
theorem dX11_tell_0 : decode cX11_tell 0 = .ok (.aload_n 0, 1) := by decide +kernel
theorem dX11_tell_1 : decode cX11_tell 1 = .ok (.iload_n 1, 1) := by decide +kernel
theorem dX11_tell_2 : decode cX11_tell 2 = .ok (.invokevirtual 136, 3) := by decide +kernel
theorem dX11_tell_5 : decode cX11_tell 5 = .ok (.ifCond .eq 11, 3) := by decide +kernel
theorem dX11_tell_8 : decode cX11_tell 8 = .ok (.aload_n 0, 1) := by decide +kernel
theorem dX11_tell_9 : decode cX11_tell 9 = .ok (.iload_n 2, 1) := by decide +kernel
theorem dX11_tell_10 : decode cX11_tell 10 = .ok (.invokevirtual 136, 3) := by decide +kernel
theorem dX11_tell_13 : decode cX11_tell 13 = .ok (.ifCond .ne 5, 3) := by decide +kernel
theorem dX11_tell_16 : decode cX11_tell 16 = .ok (.iconst (-1), 1) := by decide +kernel
theorem dX11_tell_17 : decode cX11_tell 17 = .ok (.ireturn, 1) := by decide +kernel
theorem dX11_tell_18 : decode cX11_tell 18 = .ok (.iload_n 1, 1) := by decide +kernel
theorem dX11_tell_19 : decode cX11_tell 19 = .ok (.iload_n 2, 1) := by decide +kernel
theorem dX11_tell_20 : decode cX11_tell 20 = .ok (.if_icmp .ne 6, 3) := by decide +kernel
theorem dX11_tell_23 : decode cX11_tell 23 = .ok (.bipush (-2), 2) := by decide +kernel
theorem dX11_tell_25 : decode cX11_tell 25 = .ok (.ireturn, 1) := by decide +kernel
theorem dX11_tell_26 : decode cX11_tell 26 = .ok (.aload_n 0, 1) := by decide +kernel
theorem dX11_tell_27 : decode cX11_tell 27 = .ok (.iconst 0, 1) := by decide +kernel
theorem dX11_tell_28 : decode cX11_tell 28 = .ok (.iload_n 1, 1) := by decide +kernel
theorem dX11_tell_29 : decode cX11_tell 29 = .ok (.iload_n 2, 1) := by decide +kernel
theorem dX11_tell_30 : decode cX11_tell 30 = .ok (.invokevirtual 184, 3) := by decide +kernel
theorem dX11_tell_33 : decode cX11_tell 33 = .ok (.ifCond .ne 6, 3) := by decide +kernel
theorem dX11_tell_36 : decode cX11_tell 36 = .ok (.bipush (-3), 2) := by decide +kernel
theorem dX11_tell_38 : decode cX11_tell 38 = .ok (.ireturn, 1) := by decide +kernel
theorem dX11_tell_39 : decode cX11_tell 39 = .ok (.aload_n 0, 1) := by decide +kernel
theorem dX11_tell_40 : decode cX11_tell 40 = .ok (.invokevirtual 164, 3) := by decide +kernel
theorem dX11_tell_43 : decode cX11_tell 43 = .ok (.aload_n 0, 1) := by decide +kernel
theorem dX11_tell_44 : decode cX11_tell 44 = .ok (.iconst 0, 1) := by decide +kernel
theorem dX11_tell_45 : decode cX11_tell 45 = .ok (.iload_n 1, 1) := by decide +kernel
theorem dX11_tell_46 : decode cX11_tell 46 = .ok (.iload_n 2, 1) := by decide +kernel
theorem dX11_tell_47 : decode cX11_tell 47 = .ok (.invokevirtual 187, 3) := by decide +kernel
theorem dX11_tell_50 : decode cX11_tell 50 = .ok (.aload_n 0, 1) := by decide +kernel
theorem dX11_tell_51 : decode cX11_tell 51 = .ok (.getfield 22, 3) := by decide +kernel
theorem dX11_tell_54 : decode cX11_tell 54 = .ok (.iconst 4, 1) := by decide +kernel
theorem dX11_tell_55 : decode cX11_tell 55 = .ok (.iload_n 2, 1) := by decide +kernel
theorem dX11_tell_56 : decode cX11_tell 56 = .ok (.iadd, 1) := by decide +kernel
theorem dX11_tell_57 : decode cX11_tell 57 = .ok (.iaload, 1) := by decide +kernel
theorem dX11_tell_58 : decode cX11_tell 58 = .ok (.invokestatic 173, 3) := by decide +kernel
theorem dX11_tell_61 : decode cX11_tell 61 = .ok (.ireturn, 1) := by decide +kernel
theorem dX11_wash_0 : decode cX11_wash 0 = .ok (.aload_n 0, 1) := by decide +kernel
theorem dX11_wash_1 : decode cX11_wash 1 = .ok (.iload_n 1, 1) := by decide +kernel
theorem dX11_wash_2 : decode cX11_wash 2 = .ok (.invokevirtual 136, 3) := by decide +kernel
theorem dX11_wash_5 : decode cX11_wash 5 = .ok (.ifCond .ne 5, 3) := by decide +kernel
theorem dX11_wash_8 : decode cX11_wash 8 = .ok (.iconst (-1), 1) := by decide +kernel
theorem dX11_wash_9 : decode cX11_wash 9 = .ok (.ireturn, 1) := by decide +kernel
theorem dX11_wash_10 : decode cX11_wash 10 = .ok (.aload_n 0, 1) := by decide +kernel
theorem dX11_wash_11 : decode cX11_wash 11 = .ok (.iconst 0, 1) := by decide +kernel
theorem dX11_wash_12 : decode cX11_wash 12 = .ok (.iload_n 1, 1) := by decide +kernel
theorem dX11_wash_13 : decode cX11_wash 13 = .ok (.invokevirtual 122, 3) := by decide +kernel
theorem dX11_wash_16 : decode cX11_wash 16 = .ok (.ifCond .eq 6, 3) := by decide +kernel
theorem dX11_wash_19 : decode cX11_wash 19 = .ok (.bipush (-3), 2) := by decide +kernel
theorem dX11_wash_21 : decode cX11_wash 21 = .ok (.ireturn, 1) := by decide +kernel
theorem dX11_wash_22 : decode cX11_wash 22 = .ok (.aload_n 0, 1) := by decide +kernel
theorem dX11_wash_23 : decode cX11_wash 23 = .ok (.invokevirtual 164, 3) := by decide +kernel
theorem dX11_wash_26 : decode cX11_wash 26 = .ok (.aload_n 0, 1) := by decide +kernel
theorem dX11_wash_27 : decode cX11_wash 27 = .ok (.getfield 22, 3) := by decide +kernel
theorem dX11_wash_30 : decode cX11_wash 30 = .ok (.iconst 4, 1) := by decide +kernel
theorem dX11_wash_31 : decode cX11_wash 31 = .ok (.iload_n 1, 1) := by decide +kernel
theorem dX11_wash_32 : decode cX11_wash 32 = .ok (.iadd, 1) := by decide +kernel
theorem dX11_wash_33 : decode cX11_wash 33 = .ok (.iaload, 1) := by decide +kernel
theorem dX11_wash_34 : decode cX11_wash 34 = .ok (.invokestatic 173, 3) := by decide +kernel
theorem dX11_wash_37 : decode cX11_wash 37 = .ok (.istore_n 2, 1) := by decide +kernel
theorem dX11_wash_38 : decode cX11_wash 38 = .ok (.aload_n 0, 1) := by decide +kernel
theorem dX11_wash_39 : decode cX11_wash 39 = .ok (.iconst 0, 1) := by decide +kernel
theorem dX11_wash_40 : decode cX11_wash 40 = .ok (.iload_n 1, 1) := by decide +kernel
theorem dX11_wash_41 : decode cX11_wash 41 = .ok (.invokevirtual 190, 3) := by decide +kernel
theorem dX11_wash_44 : decode cX11_wash 44 = .ok (.iload_n 2, 1) := by decide +kernel
theorem dX11_wash_45 : decode cX11_wash 45 = .ok (.ireturn, 1) := by decide +kernel
theorem dX11_undo_0 : decode cX11_undo 0 = .ok (.aload_n 0, 1) := by decide +kernel
theorem dX11_undo_1 : decode cX11_undo 1 = .ok (.getfield 113, 3) := by decide +kernel
theorem dX11_undo_4 : decode cX11_undo 4 = .ok (.ifCond .ne 6, 3) := by decide +kernel
theorem dX11_undo_7 : decode cX11_undo 7 = .ok (.bipush (-3), 2) := by decide +kernel
theorem dX11_undo_9 : decode cX11_undo 9 = .ok (.ireturn, 1) := by decide +kernel
theorem dX11_undo_10 : decode cX11_undo 10 = .ok (.aload_n 0, 1) := by decide +kernel
theorem dX11_undo_11 : decode cX11_undo 11 = .ok (.dup, 1) := by decide +kernel
theorem dX11_undo_12 : decode cX11_undo 12 = .ok (.getfield 113, 3) := by decide +kernel
theorem dX11_undo_15 : decode cX11_undo 15 = .ok (.iconst 1, 1) := by decide +kernel
theorem dX11_undo_16 : decode cX11_undo 16 = .ok (.isub, 1) := by decide +kernel
theorem dX11_undo_17 : decode cX11_undo 17 = .ok (.putfield 113, 3) := by decide +kernel
theorem dX11_undo_20 : decode cX11_undo 20 = .ok (.aload_n 0, 1) := by decide +kernel
theorem dX11_undo_21 : decode cX11_undo 21 = .ok (.aload_n 0, 1) := by decide +kernel
theorem dX11_undo_22 : decode cX11_undo 22 = .ok (.getfield 161, 3) := by decide +kernel
theorem dX11_undo_25 : decode cX11_undo 25 = .ok (.bipush 13, 2) := by decide +kernel
theorem dX11_undo_27 : decode cX11_undo 27 = .ok (.iadd, 1) := by decide +kernel
theorem dX11_undo_28 : decode cX11_undo 28 = .ok (.bipush 14, 2) := by decide +kernel
theorem dX11_undo_30 : decode cX11_undo 30 = .ok (.irem, 1) := by decide +kernel
theorem dX11_undo_31 : decode cX11_undo 31 = .ok (.putfield 161, 3) := by decide +kernel
theorem dX11_undo_34 : decode cX11_undo 34 = .ok (.iconst 0, 1) := by decide +kernel
theorem dX11_undo_35 : decode cX11_undo 35 = .ok (.istore_n 1, 1) := by decide +kernel
theorem dX11_undo_36 : decode cX11_undo 36 = .ok (.iload_n 1, 1) := by decide +kernel
theorem dX11_undo_37 : decode cX11_undo 37 = .ok (.bipush 14, 2) := by decide +kernel
theorem dX11_undo_39 : decode cX11_undo 39 = .ok (.if_icmp .ge 29, 3) := by decide +kernel
theorem dX11_undo_42 : decode cX11_undo 42 = .ok (.aload_n 0, 1) := by decide +kernel
theorem dX11_undo_43 : decode cX11_undo 43 = .ok (.getfield 22, 3) := by decide +kernel
theorem dX11_undo_46 : decode cX11_undo 46 = .ok (.iload_n 1, 1) := by decide +kernel
theorem dX11_undo_47 : decode cX11_undo 47 = .ok (.aload_n 0, 1) := by decide +kernel
theorem dX11_undo_48 : decode cX11_undo 48 = .ok (.getfield 40, 3) := by decide +kernel
theorem dX11_undo_51 : decode cX11_undo 51 = .ok (.bipush 14, 2) := by decide +kernel
theorem dX11_undo_53 : decode cX11_undo 53 = .ok (.aload_n 0, 1) := by decide +kernel
theorem dX11_undo_54 : decode cX11_undo 54 = .ok (.getfield 161, 3) := by decide +kernel
theorem dX11_undo_57 : decode cX11_undo 57 = .ok (.imul, 1) := by decide +kernel
theorem dX11_undo_58 : decode cX11_undo 58 = .ok (.iload_n 1, 1) := by decide +kernel
theorem dX11_undo_59 : decode cX11_undo 59 = .ok (.iadd, 1) := by decide +kernel
theorem dX11_undo_60 : decode cX11_undo 60 = .ok (.iaload, 1) := by decide +kernel
theorem dX11_undo_61 : decode cX11_undo 61 = .ok (.iastore, 1) := by decide +kernel
theorem dX11_undo_62 : decode cX11_undo 62 = .ok (.iinc 1 1, 3) := by decide +kernel
theorem dX11_undo_65 : decode cX11_undo 65 = .ok (.goto (-29), 3) := by decide +kernel
theorem dX11_undo_68 : decode cX11_undo 68 = .ok (.aload_n 0, 1) := by decide +kernel
theorem dX11_undo_69 : decode cX11_undo 69 = .ok (.getfield 113, 3) := by decide +kernel
theorem dX11_undo_72 : decode cX11_undo 72 = .ok (.ireturn, 1) := by decide +kernel
theorem dX11_layTrial_0 : decode cX11_layTrial 0 = .ok (.iconst 0, 1) := by decide +kernel
theorem dX11_layTrial_1 : decode cX11_layTrial 1 = .ok (.istore_n 1, 1) := by decide +kernel
theorem dX11_layTrial_2 : decode cX11_layTrial 2 = .ok (.iload_n 1, 1) := by decide +kernel
theorem dX11_layTrial_3 : decode cX11_layTrial 3 = .ok (.bipush 14, 2) := by decide +kernel
theorem dX11_layTrial_5 : decode cX11_layTrial 5 = .ok (.if_icmp .ge 24, 3) := by decide +kernel
theorem dX11_layTrial_8 : decode cX11_layTrial 8 = .ok (.aload_n 0, 1) := by decide +kernel
theorem dX11_layTrial_9 : decode cX11_layTrial 9 = .ok (.getfield 22, 3) := by decide +kernel
theorem dX11_layTrial_12 : decode cX11_layTrial 12 = .ok (.bipush 14, 2) := by decide +kernel
theorem dX11_layTrial_14 : decode cX11_layTrial 14 = .ok (.iload_n 1, 1) := by decide +kernel
theorem dX11_layTrial_15 : decode cX11_layTrial 15 = .ok (.iadd, 1) := by decide +kernel
theorem dX11_layTrial_16 : decode cX11_layTrial 16 = .ok (.aload_n 0, 1) := by decide +kernel
theorem dX11_layTrial_17 : decode cX11_layTrial 17 = .ok (.getfield 22, 3) := by decide +kernel
theorem dX11_layTrial_20 : decode cX11_layTrial 20 = .ok (.iload_n 1, 1) := by decide +kernel
theorem dX11_layTrial_21 : decode cX11_layTrial 21 = .ok (.iaload, 1) := by decide +kernel
theorem dX11_layTrial_22 : decode cX11_layTrial 22 = .ok (.iastore, 1) := by decide +kernel
theorem dX11_layTrial_23 : decode cX11_layTrial 23 = .ok (.iinc 1 1, 3) := by decide +kernel
theorem dX11_layTrial_26 : decode cX11_layTrial 26 = .ok (.goto (-24), 3) := by decide +kernel
theorem dX11_layTrial_29 : decode cX11_layTrial 29 = .ok (.return_, 1) := by decide +kernel
theorem dX11_later_0 : decode cX11_later 0 = .ok (.aload_n 0, 1) := by decide +kernel
theorem dX11_later_1 : decode cX11_later 1 = .ok (.iload_n 1, 1) := by decide +kernel
theorem dX11_later_2 : decode cX11_later 2 = .ok (.invokevirtual 136, 3) := by decide +kernel
theorem dX11_later_5 : decode cX11_later 5 = .ok (.ifCond .ne 5, 3) := by decide +kernel
theorem dX11_later_8 : decode cX11_later 8 = .ok (.iconst (-1), 1) := by decide +kernel
theorem dX11_later_9 : decode cX11_later 9 = .ok (.ireturn, 1) := by decide +kernel
theorem dX11_later_10 : decode cX11_later 10 = .ok (.iload_n 2, 1) := by decide +kernel
theorem dX11_later_11 : decode cX11_later 11 = .ok (.i2l, 1) := by decide +kernel
theorem dX11_later_12 : decode cX11_later 12 = .ok (.lconst 0, 1) := by decide +kernel
theorem dX11_later_13 : decode cX11_later 13 = .ok (.ldc2_w 193, 3) := by decide +kernel
theorem dX11_later_16 : decode cX11_later 16 = .ok (.invokestatic 61, 3) := by decide +kernel
theorem dX11_later_19 : decode cX11_later 19 = .ok (.ifCond .eq 13, 3) := by decide +kernel
theorem dX11_later_22 : decode cX11_later 22 = .ok (.iload_n 3, 1) := by decide +kernel
theorem dX11_later_23 : decode cX11_later 23 = .ok (.i2l, 1) := by decide +kernel
theorem dX11_later_24 : decode cX11_later 24 = .ok (.lconst 0, 1) := by decide +kernel
theorem dX11_later_25 : decode cX11_later 25 = .ok (.lconst 1, 1) := by decide +kernel
theorem dX11_later_26 : decode cX11_later 26 = .ok (.invokestatic 61, 3) := by decide +kernel
theorem dX11_later_29 : decode cX11_later 29 = .ok (.ifCond .ne 6, 3) := by decide +kernel
theorem dX11_later_32 : decode cX11_later 32 = .ok (.bipush (-2), 2) := by decide +kernel
theorem dX11_later_34 : decode cX11_later 34 = .ok (.ireturn, 1) := by decide +kernel
theorem dX11_later_35 : decode cX11_later 35 = .ok (.aload_n 0, 1) := by decide +kernel
theorem dX11_later_36 : decode cX11_later 36 = .ok (.invokevirtual 195, 3) := by decide +kernel
theorem dX11_later_39 : decode cX11_later 39 = .ok (.iconst 0, 1) := by decide +kernel
theorem dX11_later_40 : decode cX11_later 40 = .ok (.istore 4, 2) := by decide +kernel
theorem dX11_later_42 : decode cX11_later 42 = .ok (.iload 4, 2) := by decide +kernel
theorem dX11_later_44 : decode cX11_later 44 = .ok (.iload_n 2, 1) := by decide +kernel
theorem dX11_later_45 : decode cX11_later 45 = .ok (.if_icmp .ge 14, 3) := by decide +kernel
theorem dX11_later_48 : decode cX11_later 48 = .ok (.aload_n 0, 1) := by decide +kernel
theorem dX11_later_49 : decode cX11_later 49 = .ok (.iconst 1, 1) := by decide +kernel
theorem dX11_later_50 : decode cX11_later 50 = .ok (.invokevirtual 167, 3) := by decide +kernel
theorem dX11_later_53 : decode cX11_later 53 = .ok (.iinc 4 1, 3) := by decide +kernel
theorem dX11_later_56 : decode cX11_later 56 = .ok (.goto (-14), 3) := by decide +kernel
theorem dX11_later_59 : decode cX11_later 59 = .ok (.aload_n 0, 1) := by decide +kernel
theorem dX11_later_60 : decode cX11_later 60 = .ok (.getfield 22, 3) := by decide +kernel
theorem dX11_later_63 : decode cX11_later 63 = .ok (.bipush 14, 2) := by decide +kernel
theorem dX11_later_65 : decode cX11_later 65 = .ok (.iload_n 3, 1) := by decide +kernel
theorem dX11_later_66 : decode cX11_later 66 = .ok (.ifCond .ne 7, 3) := by decide +kernel
theorem dX11_later_69 : decode cX11_later 69 = .ok (.iconst 4, 1) := by decide +kernel
theorem dX11_later_70 : decode cX11_later 70 = .ok (.goto 5, 3) := by decide +kernel
theorem dX11_later_73 : decode cX11_later 73 = .ok (.bipush 8, 2) := by decide +kernel
theorem dX11_later_75 : decode cX11_later 75 = .ok (.iadd, 1) := by decide +kernel
theorem dX11_later_76 : decode cX11_later 76 = .ok (.iload_n 1, 1) := by decide +kernel
theorem dX11_later_77 : decode cX11_later 77 = .ok (.iadd, 1) := by decide +kernel
theorem dX11_later_78 : decode cX11_later 78 = .ok (.iaload, 1) := by decide +kernel
theorem dX11_later_79 : decode cX11_later 79 = .ok (.ireturn, 1) := by decide +kernel
theorem dX11_hummock_0 : decode cX11_hummock 0 = .ok (.aload_n 0, 1) := by decide +kernel
theorem dX11_hummock_1 : decode cX11_hummock 1 = .ok (.iload_n 1, 1) := by decide +kernel
theorem dX11_hummock_2 : decode cX11_hummock 2 = .ok (.invokevirtual 136, 3) := by decide +kernel
theorem dX11_hummock_5 : decode cX11_hummock 5 = .ok (.ifCond .ne 5, 3) := by decide +kernel
theorem dX11_hummock_8 : decode cX11_hummock 8 = .ok (.iconst (-1), 1) := by decide +kernel
theorem dX11_hummock_9 : decode cX11_hummock 9 = .ok (.ireturn, 1) := by decide +kernel
theorem dX11_hummock_10 : decode cX11_hummock 10 = .ok (.aload_n 0, 1) := by decide +kernel
theorem dX11_hummock_11 : decode cX11_hummock 11 = .ok (.invokevirtual 195, 3) := by decide +kernel
theorem dX11_hummock_14 : decode cX11_hummock 14 = .ok (.iconst 0, 1) := by decide +kernel
theorem dX11_hummock_15 : decode cX11_hummock 15 = .ok (.istore_n 2, 1) := by decide +kernel
theorem dX11_hummock_16 : decode cX11_hummock 16 = .ok (.iload_n 2, 1) := by decide +kernel
theorem dX11_hummock_17 : decode cX11_hummock 17 = .ok (.bipush 21, 2) := by decide +kernel
theorem dX11_hummock_19 : decode cX11_hummock 19 = .ok (.if_icmp .ge 25, 3) := by decide +kernel
theorem dX11_hummock_22 : decode cX11_hummock 22 = .ok (.aload_n 0, 1) := by decide +kernel
theorem dX11_hummock_23 : decode cX11_hummock 23 = .ok (.iconst 1, 1) := by decide +kernel
theorem dX11_hummock_24 : decode cX11_hummock 24 = .ok (.iload_n 1, 1) := by decide +kernel
theorem dX11_hummock_25 : decode cX11_hummock 25 = .ok (.invokevirtual 122, 3) := by decide +kernel
theorem dX11_hummock_28 : decode cX11_hummock 28 = .ok (.ifCond .eq 5, 3) := by decide +kernel
theorem dX11_hummock_31 : decode cX11_hummock 31 = .ok (.iload_n 2, 1) := by decide +kernel
theorem dX11_hummock_32 : decode cX11_hummock 32 = .ok (.ireturn, 1) := by decide +kernel
theorem dX11_hummock_33 : decode cX11_hummock 33 = .ok (.aload_n 0, 1) := by decide +kernel
theorem dX11_hummock_34 : decode cX11_hummock 34 = .ok (.iconst 1, 1) := by decide +kernel
theorem dX11_hummock_35 : decode cX11_hummock 35 = .ok (.invokevirtual 167, 3) := by decide +kernel
theorem dX11_hummock_38 : decode cX11_hummock 38 = .ok (.iinc 2 1, 3) := by decide +kernel
theorem dX11_hummock_41 : decode cX11_hummock 41 = .ok (.goto (-25), 3) := by decide +kernel
theorem dX11_hummock_44 : decode cX11_hummock 44 = .ok (.bipush (-9), 2) := by decide +kernel
theorem dX11_hummock_46 : decode cX11_hummock 46 = .ok (.ireturn, 1) := by decide +kernel
theorem dX11_tenTo_0 : decode cX11_tenTo 0 = .ok (.iconst 1, 1) := by decide +kernel
theorem dX11_tenTo_1 : decode cX11_tenTo 1 = .ok (.istore_n 1, 1) := by decide +kernel
theorem dX11_tenTo_2 : decode cX11_tenTo 2 = .ok (.iconst 0, 1) := by decide +kernel
theorem dX11_tenTo_3 : decode cX11_tenTo 3 = .ok (.istore_n 2, 1) := by decide +kernel
theorem dX11_tenTo_4 : decode cX11_tenTo 4 = .ok (.iload_n 2, 1) := by decide +kernel
theorem dX11_tenTo_5 : decode cX11_tenTo 5 = .ok (.iload_n 0, 1) := by decide +kernel
theorem dX11_tenTo_6 : decode cX11_tenTo 6 = .ok (.if_icmp .ge 14, 3) := by decide +kernel
theorem dX11_tenTo_9 : decode cX11_tenTo 9 = .ok (.iload_n 1, 1) := by decide +kernel
theorem dX11_tenTo_10 : decode cX11_tenTo 10 = .ok (.bipush 10, 2) := by decide +kernel
theorem dX11_tenTo_12 : decode cX11_tenTo 12 = .ok (.imul, 1) := by decide +kernel
theorem dX11_tenTo_13 : decode cX11_tenTo 13 = .ok (.istore_n 1, 1) := by decide +kernel
theorem dX11_tenTo_14 : decode cX11_tenTo 14 = .ok (.iinc 2 1, 3) := by decide +kernel
theorem dX11_tenTo_17 : decode cX11_tenTo 17 = .ok (.goto (-13), 3) := by decide +kernel
theorem dX11_tenTo_20 : decode cX11_tenTo 20 = .ok (.iload_n 1, 1) := by decide +kernel
theorem dX11_tenTo_21 : decode cX11_tenTo 21 = .ok (.ireturn, 1) := by decide +kernel
theorem dX11_knowsBy_0 : decode cX11_knowsBy 0 = .ok (.aload_n 0, 1) := by decide +kernel
theorem dX11_knowsBy_1 : decode cX11_knowsBy 1 = .ok (.invokevirtual 195, 3) := by decide +kernel
theorem dX11_knowsBy_4 : decode cX11_knowsBy 4 = .ok (.iconst 0, 1) := by decide +kernel
theorem dX11_knowsBy_5 : decode cX11_knowsBy 5 = .ok (.istore 5, 2) := by decide +kernel
theorem dX11_knowsBy_7 : decode cX11_knowsBy 7 = .ok (.iload 5, 2) := by decide +kernel
theorem dX11_knowsBy_9 : decode cX11_knowsBy 9 = .ok (.iload 4, 2) := by decide +kernel
theorem dX11_knowsBy_11 : decode cX11_knowsBy 11 = .ok (.if_icmp .ge 69, 3) := by decide +kernel
theorem dX11_knowsBy_14 : decode cX11_knowsBy 14 = .ok (.iload_n 3, 1) := by decide +kernel
theorem dX11_knowsBy_15 : decode cX11_knowsBy 15 = .ok (.iload 4, 2) := by decide +kernel
theorem dX11_knowsBy_17 : decode cX11_knowsBy 17 = .ok (.iconst 1, 1) := by decide +kernel
theorem dX11_knowsBy_18 : decode cX11_knowsBy 18 = .ok (.isub, 1) := by decide +kernel
theorem dX11_knowsBy_19 : decode cX11_knowsBy 19 = .ok (.iload 5, 2) := by decide +kernel
theorem dX11_knowsBy_21 : decode cX11_knowsBy 21 = .ok (.isub, 1) := by decide +kernel
theorem dX11_knowsBy_22 : decode cX11_knowsBy 22 = .ok (.invokestatic 198, 3) := by decide +kernel
theorem dX11_knowsBy_25 : decode cX11_knowsBy 25 = .ok (.idiv, 1) := by decide +kernel
theorem dX11_knowsBy_26 : decode cX11_knowsBy 26 = .ok (.bipush 10, 2) := by decide +kernel
theorem dX11_knowsBy_28 : decode cX11_knowsBy 28 = .ok (.irem, 1) := by decide +kernel
theorem dX11_knowsBy_29 : decode cX11_knowsBy 29 = .ok (.istore 6, 2) := by decide +kernel
theorem dX11_knowsBy_31 : decode cX11_knowsBy 31 = .ok (.aload_n 0, 1) := by decide +kernel
theorem dX11_knowsBy_32 : decode cX11_knowsBy 32 = .ok (.iconst 1, 1) := by decide +kernel
theorem dX11_knowsBy_33 : decode cX11_knowsBy 33 = .ok (.iload_n 1, 1) := by decide +kernel
theorem dX11_knowsBy_34 : decode cX11_knowsBy 34 = .ok (.iload 6, 2) := by decide +kernel
theorem dX11_knowsBy_36 : decode cX11_knowsBy 36 = .ok (.invokevirtual 176, 3) := by decide +kernel
theorem dX11_knowsBy_39 : decode cX11_knowsBy 39 = .ok (.ifCond .eq 14, 3) := by decide +kernel
theorem dX11_knowsBy_42 : decode cX11_knowsBy 42 = .ok (.aload_n 0, 1) := by decide +kernel
theorem dX11_knowsBy_43 : decode cX11_knowsBy 43 = .ok (.iconst 1, 1) := by decide +kernel
theorem dX11_knowsBy_44 : decode cX11_knowsBy 44 = .ok (.iload_n 1, 1) := by decide +kernel
theorem dX11_knowsBy_45 : decode cX11_knowsBy 45 = .ok (.iload 6, 2) := by decide +kernel
theorem dX11_knowsBy_47 : decode cX11_knowsBy 47 = .ok (.invokevirtual 180, 3) := by decide +kernel
theorem dX11_knowsBy_50 : decode cX11_knowsBy 50 = .ok (.goto 19, 3) := by decide +kernel
theorem dX11_knowsBy_53 : decode cX11_knowsBy 53 = .ok (.aload_n 0, 1) := by decide +kernel
theorem dX11_knowsBy_54 : decode cX11_knowsBy 54 = .ok (.getfield 22, 3) := by decide +kernel
theorem dX11_knowsBy_57 : decode cX11_knowsBy 57 = .ok (.bipush 14, 2) := by decide +kernel
theorem dX11_knowsBy_59 : decode cX11_knowsBy 59 = .ok (.iload_n 1, 1) := by decide +kernel
theorem dX11_knowsBy_60 : decode cX11_knowsBy 60 = .ok (.iadd, 1) := by decide +kernel
theorem dX11_knowsBy_61 : decode cX11_knowsBy 61 = .ok (.iaload, 1) := by decide +kernel
theorem dX11_knowsBy_62 : decode cX11_knowsBy 62 = .ok (.iload 6, 2) := by decide +kernel
theorem dX11_knowsBy_64 : decode cX11_knowsBy 64 = .ok (.if_icmp .eq 5, 3) := by decide +kernel
theorem dX11_knowsBy_67 : decode cX11_knowsBy 67 = .ok (.iconst 0, 1) := by decide +kernel
theorem dX11_knowsBy_68 : decode cX11_knowsBy 68 = .ok (.ireturn, 1) := by decide +kernel
theorem dX11_knowsBy_69 : decode cX11_knowsBy 69 = .ok (.aload_n 0, 1) := by decide +kernel
theorem dX11_knowsBy_70 : decode cX11_knowsBy 70 = .ok (.iconst 1, 1) := by decide +kernel
theorem dX11_knowsBy_71 : decode cX11_knowsBy 71 = .ok (.invokevirtual 167, 3) := by decide +kernel
theorem dX11_knowsBy_74 : decode cX11_knowsBy 74 = .ok (.iinc 5 1, 3) := by decide +kernel
theorem dX11_knowsBy_77 : decode cX11_knowsBy 77 = .ok (.goto (-70), 3) := by decide +kernel
theorem dX11_knowsBy_80 : decode cX11_knowsBy 80 = .ok (.iload_n 2, 1) := by decide +kernel
theorem dX11_knowsBy_81 : decode cX11_knowsBy 81 = .ok (.aload_n 0, 1) := by decide +kernel
theorem dX11_knowsBy_82 : decode cX11_knowsBy 82 = .ok (.getfield 22, 3) := by decide +kernel
theorem dX11_knowsBy_85 : decode cX11_knowsBy 85 = .ok (.bipush 18, 2) := by decide +kernel
theorem dX11_knowsBy_87 : decode cX11_knowsBy 87 = .ok (.iload_n 1, 1) := by decide +kernel
theorem dX11_knowsBy_88 : decode cX11_knowsBy 88 = .ok (.iadd, 1) := by decide +kernel
theorem dX11_knowsBy_89 : decode cX11_knowsBy 89 = .ok (.iaload, 1) := by decide +kernel
theorem dX11_knowsBy_90 : decode cX11_knowsBy 90 = .ok (.iconst (-1), 1) := by decide +kernel
theorem dX11_knowsBy_91 : decode cX11_knowsBy 91 = .ok (.ixor, 1) := by decide +kernel
theorem dX11_knowsBy_92 : decode cX11_knowsBy 92 = .ok (.iand, 1) := by decide +kernel
theorem dX11_knowsBy_93 : decode cX11_knowsBy 93 = .ok (.ifCond .ne 7, 3) := by decide +kernel
theorem dX11_knowsBy_96 : decode cX11_knowsBy 96 = .ok (.iconst 1, 1) := by decide +kernel
theorem dX11_knowsBy_97 : decode cX11_knowsBy 97 = .ok (.goto 4, 3) := by decide +kernel
theorem dX11_knowsBy_100 : decode cX11_knowsBy 100 = .ok (.iconst 0, 1) := by decide +kernel
theorem dX11_knowsBy_101 : decode cX11_knowsBy 101 = .ok (.ireturn, 1) := by decide +kernel
theorem dX11_soon_0 : decode cX11_soon 0 = .ok (.aload_n 0, 1) := by decide +kernel
theorem dX11_soon_1 : decode cX11_soon 1 = .ok (.iload_n 1, 1) := by decide +kernel
theorem dX11_soon_2 : decode cX11_soon 2 = .ok (.invokevirtual 136, 3) := by decide +kernel
theorem dX11_soon_5 : decode cX11_soon 5 = .ok (.ifCond .ne 5, 3) := by decide +kernel
theorem dX11_soon_8 : decode cX11_soon 8 = .ok (.iconst (-1), 1) := by decide +kernel
theorem dX11_soon_9 : decode cX11_soon 9 = .ok (.ireturn, 1) := by decide +kernel
theorem dX11_soon_10 : decode cX11_soon 10 = .ok (.iload_n 2, 1) := by decide +kernel
theorem dX11_soon_11 : decode cX11_soon 11 = .ok (.i2l, 1) := by decide +kernel
theorem dX11_soon_12 : decode cX11_soon 12 = .ok (.lconst 0, 1) := by decide +kernel
theorem dX11_soon_13 : decode cX11_soon 13 = .ok (.ldc2_w 201, 3) := by decide +kernel
theorem dX11_soon_16 : decode cX11_soon 16 = .ok (.invokestatic 61, 3) := by decide +kernel
theorem dX11_soon_19 : decode cX11_soon 19 = .ok (.ifCond .eq 13, 3) := by decide +kernel
theorem dX11_soon_22 : decode cX11_soon 22 = .ok (.iload_n 3, 1) := by decide +kernel
theorem dX11_soon_23 : decode cX11_soon 23 = .ok (.i2l, 1) := by decide +kernel
theorem dX11_soon_24 : decode cX11_soon 24 = .ok (.lconst 0, 1) := by decide +kernel
theorem dX11_soon_25 : decode cX11_soon 25 = .ok (.lconst 1, 1) := by decide +kernel
theorem dX11_soon_26 : decode cX11_soon 26 = .ok (.invokestatic 61, 3) := by decide +kernel
theorem dX11_soon_29 : decode cX11_soon 29 = .ok (.ifCond .ne 6, 3) := by decide +kernel
theorem dX11_soon_32 : decode cX11_soon 32 = .ok (.bipush (-2), 2) := by decide +kernel
theorem dX11_soon_34 : decode cX11_soon 34 = .ok (.ireturn, 1) := by decide +kernel
theorem dX11_soon_35 : decode cX11_soon 35 = .ok (.iconst 0, 1) := by decide +kernel
theorem dX11_soon_36 : decode cX11_soon 36 = .ok (.istore 4, 2) := by decide +kernel
theorem dX11_soon_38 : decode cX11_soon 38 = .ok (.iload 4, 2) := by decide +kernel
theorem dX11_soon_40 : decode cX11_soon 40 = .ok (.iconst 5, 1) := by decide +kernel
theorem dX11_soon_41 : decode cX11_soon 41 = .ok (.if_icmp .ge 53, 3) := by decide +kernel
theorem dX11_soon_44 : decode cX11_soon 44 = .ok (.iconst 0, 1) := by decide +kernel
theorem dX11_soon_45 : decode cX11_soon 45 = .ok (.istore 5, 2) := by decide +kernel
theorem dX11_soon_47 : decode cX11_soon 47 = .ok (.iload 5, 2) := by decide +kernel
theorem dX11_soon_49 : decode cX11_soon 49 = .ok (.iload 4, 2) := by decide +kernel
theorem dX11_soon_51 : decode cX11_soon 51 = .ok (.invokestatic 198, 3) := by decide +kernel
theorem dX11_soon_54 : decode cX11_soon 54 = .ok (.if_icmp .ge 34, 3) := by decide +kernel
theorem dX11_soon_57 : decode cX11_soon 57 = .ok (.aload_n 0, 1) := by decide +kernel
theorem dX11_soon_58 : decode cX11_soon 58 = .ok (.iload_n 1, 1) := by decide +kernel
theorem dX11_soon_59 : decode cX11_soon 59 = .ok (.iload_n 2, 1) := by decide +kernel
theorem dX11_soon_60 : decode cX11_soon 60 = .ok (.iload 5, 2) := by decide +kernel
theorem dX11_soon_62 : decode cX11_soon 62 = .ok (.iload 4, 2) := by decide +kernel
theorem dX11_soon_64 : decode cX11_soon 64 = .ok (.invokevirtual 203, 3) := by decide +kernel
theorem dX11_soon_67 : decode cX11_soon 67 = .ok (.ifCond .eq 15, 3) := by decide +kernel
theorem dX11_soon_70 : decode cX11_soon 70 = .ok (.iload_n 3, 1) := by decide +kernel
theorem dX11_soon_71 : decode cX11_soon 71 = .ok (.ifCond .ne 8, 3) := by decide +kernel
theorem dX11_soon_74 : decode cX11_soon 74 = .ok (.iload 4, 2) := by decide +kernel
theorem dX11_soon_76 : decode cX11_soon 76 = .ok (.goto 5, 3) := by decide +kernel
theorem dX11_soon_79 : decode cX11_soon 79 = .ok (.iload 5, 2) := by decide +kernel
theorem dX11_soon_81 : decode cX11_soon 81 = .ok (.ireturn, 1) := by decide +kernel
theorem dX11_soon_82 : decode cX11_soon 82 = .ok (.iinc 5 1, 3) := by decide +kernel
theorem dX11_soon_85 : decode cX11_soon 85 = .ok (.goto (-38), 3) := by decide +kernel
theorem dX11_soon_88 : decode cX11_soon 88 = .ok (.iinc 4 1, 3) := by decide +kernel
theorem dX11_soon_91 : decode cX11_soon 91 = .ok (.goto (-53), 3) := by decide +kernel
theorem dX11_soon_94 : decode cX11_soon 94 = .ok (.bipush (-9), 2) := by decide +kernel
theorem dX11_soon_96 : decode cX11_soon 96 = .ok (.ireturn, 1) := by decide +kernel
theorem dX11_allLayers_0 : decode cX11_allLayers 0 = .ok (.iconst 0, 1) := by decide +kernel
theorem dX11_allLayers_1 : decode cX11_allLayers 1 = .ok (.istore_n 1, 1) := by decide +kernel
theorem dX11_allLayers_2 : decode cX11_allLayers 2 = .ok (.iconst 0, 1) := by decide +kernel
theorem dX11_allLayers_3 : decode cX11_allLayers 3 = .ok (.istore_n 2, 1) := by decide +kernel
theorem dX11_allLayers_4 : decode cX11_allLayers 4 = .ok (.iload_n 2, 1) := by decide +kernel
theorem dX11_allLayers_5 : decode cX11_allLayers 5 = .ok (.aload_n 0, 1) := by decide +kernel
theorem dX11_allLayers_6 : decode cX11_allLayers 6 = .ok (.getfield 107, 3) := by decide +kernel
theorem dX11_allLayers_9 : decode cX11_allLayers 9 = .ok (.if_icmp .ge 17, 3) := by decide +kernel
theorem dX11_allLayers_12 : decode cX11_allLayers 12 = .ok (.iload_n 1, 1) := by decide +kernel
theorem dX11_allLayers_13 : decode cX11_allLayers 13 = .ok (.aload_n 0, 1) := by decide +kernel
theorem dX11_allLayers_14 : decode cX11_allLayers 14 = .ok (.iload_n 2, 1) := by decide +kernel
theorem dX11_allLayers_15 : decode cX11_allLayers 15 = .ok (.invokevirtual 152, 3) := by decide +kernel
theorem dX11_allLayers_18 : decode cX11_allLayers 18 = .ok (.ior, 1) := by decide +kernel
theorem dX11_allLayers_19 : decode cX11_allLayers 19 = .ok (.istore_n 1, 1) := by decide +kernel
theorem dX11_allLayers_20 : decode cX11_allLayers 20 = .ok (.iinc 2 1, 3) := by decide +kernel
theorem dX11_allLayers_23 : decode cX11_allLayers 23 = .ok (.goto (-19), 3) := by decide +kernel
theorem dX11_allLayers_26 : decode cX11_allLayers 26 = .ok (.iload_n 1, 1) := by decide +kernel
theorem dX11_allLayers_27 : decode cX11_allLayers 27 = .ok (.ireturn, 1) := by decide +kernel
theorem dX11_isOrder_0 : decode cX11_isOrder 0 = .ok (.aload_n 0, 1) := by decide +kernel
theorem dX11_isOrder_1 : decode cX11_isOrder 1 = .ok (.invokevirtual 207, 3) := by decide +kernel
theorem dX11_isOrder_4 : decode cX11_isOrder 4 = .ok (.istore_n 3, 1) := by decide +kernel
theorem dX11_isOrder_5 : decode cX11_isOrder 5 = .ok (.iconst 0, 1) := by decide +kernel
theorem dX11_isOrder_6 : decode cX11_isOrder 6 = .ok (.istore 4, 2) := by decide +kernel
theorem dX11_isOrder_8 : decode cX11_isOrder 8 = .ok (.iload_n 1, 1) := by decide +kernel
theorem dX11_isOrder_9 : decode cX11_isOrder 9 = .ok (.istore 5, 2) := by decide +kernel
theorem dX11_isOrder_11 : decode cX11_isOrder 11 = .ok (.iload_n 2, 1) := by decide +kernel
theorem dX11_isOrder_12 : decode cX11_isOrder 12 = .ok (.iconst 1, 1) := by decide +kernel
theorem dX11_isOrder_13 : decode cX11_isOrder 13 = .ok (.isub, 1) := by decide +kernel
theorem dX11_isOrder_14 : decode cX11_isOrder 14 = .ok (.istore 6, 2) := by decide +kernel
theorem dX11_isOrder_16 : decode cX11_isOrder 16 = .ok (.iload 6, 2) := by decide +kernel
theorem dX11_isOrder_18 : decode cX11_isOrder 18 = .ok (.ifCond .lt 77, 3) := by decide +kernel
theorem dX11_isOrder_21 : decode cX11_isOrder 21 = .ok (.iload 5, 2) := by decide +kernel
theorem dX11_isOrder_23 : decode cX11_isOrder 23 = .ok (.bipush 10, 2) := by decide +kernel
theorem dX11_isOrder_25 : decode cX11_isOrder 25 = .ok (.irem, 1) := by decide +kernel
theorem dX11_isOrder_26 : decode cX11_isOrder 26 = .ok (.iconst 1, 1) := by decide +kernel
theorem dX11_isOrder_27 : decode cX11_isOrder 27 = .ok (.isub, 1) := by decide +kernel
theorem dX11_isOrder_28 : decode cX11_isOrder 28 = .ok (.istore 7, 2) := by decide +kernel
theorem dX11_isOrder_30 : decode cX11_isOrder 30 = .ok (.iload 5, 2) := by decide +kernel
theorem dX11_isOrder_32 : decode cX11_isOrder 32 = .ok (.bipush 10, 2) := by decide +kernel
theorem dX11_isOrder_34 : decode cX11_isOrder 34 = .ok (.idiv, 1) := by decide +kernel
theorem dX11_isOrder_35 : decode cX11_isOrder 35 = .ok (.istore 5, 2) := by decide +kernel
theorem dX11_isOrder_37 : decode cX11_isOrder 37 = .ok (.iload 7, 2) := by decide +kernel
theorem dX11_isOrder_39 : decode cX11_isOrder 39 = .ok (.i2l, 1) := by decide +kernel
theorem dX11_isOrder_40 : decode cX11_isOrder 40 = .ok (.lconst 0, 1) := by decide +kernel
theorem dX11_isOrder_41 : decode cX11_isOrder 41 = .ok (.ldc2_w 210, 3) := by decide +kernel
theorem dX11_isOrder_44 : decode cX11_isOrder 44 = .ok (.invokestatic 61, 3) := by decide +kernel
theorem dX11_isOrder_47 : decode cX11_isOrder 47 = .ok (.ifCond .eq 22, 3) := by decide +kernel
theorem dX11_isOrder_50 : decode cX11_isOrder 50 = .ok (.iload_n 3, 1) := by decide +kernel
theorem dX11_isOrder_51 : decode cX11_isOrder 51 = .ok (.iload 7, 2) := by decide +kernel
theorem dX11_isOrder_53 : decode cX11_isOrder 53 = .ok (.invokestatic 75, 3) := by decide +kernel
theorem dX11_isOrder_56 : decode cX11_isOrder 56 = .ok (.ifCond .eq 13, 3) := by decide +kernel
theorem dX11_isOrder_59 : decode cX11_isOrder 59 = .ok (.iload 4, 2) := by decide +kernel
theorem dX11_isOrder_61 : decode cX11_isOrder 61 = .ok (.iload 7, 2) := by decide +kernel
theorem dX11_isOrder_63 : decode cX11_isOrder 63 = .ok (.invokestatic 75, 3) := by decide +kernel
theorem dX11_isOrder_66 : decode cX11_isOrder 66 = .ok (.ifCond .eq 5, 3) := by decide +kernel
theorem dX11_isOrder_69 : decode cX11_isOrder 69 = .ok (.iconst 0, 1) := by decide +kernel
theorem dX11_isOrder_70 : decode cX11_isOrder 70 = .ok (.ireturn, 1) := by decide +kernel
theorem dX11_isOrder_71 : decode cX11_isOrder 71 = .ok (.iload 4, 2) := by decide +kernel
theorem dX11_isOrder_73 : decode cX11_isOrder 73 = .ok (.iconst 1, 1) := by decide +kernel
theorem dX11_isOrder_74 : decode cX11_isOrder 74 = .ok (.iload 7, 2) := by decide +kernel
theorem dX11_isOrder_76 : decode cX11_isOrder 76 = .ok (.ishl, 1) := by decide +kernel
theorem dX11_isOrder_77 : decode cX11_isOrder 77 = .ok (.ior, 1) := by decide +kernel
theorem dX11_isOrder_78 : decode cX11_isOrder 78 = .ok (.istore 4, 2) := by decide +kernel
theorem dX11_isOrder_80 : decode cX11_isOrder 80 = .ok (.aload_n 0, 1) := by decide +kernel
theorem dX11_isOrder_81 : decode cX11_isOrder 81 = .ok (.getfield 43, 3) := by decide +kernel
theorem dX11_isOrder_84 : decode cX11_isOrder 84 = .ok (.iload 7, 2) := by decide +kernel
theorem dX11_isOrder_86 : decode cX11_isOrder 86 = .ok (.iload 6, 2) := by decide +kernel
theorem dX11_isOrder_88 : decode cX11_isOrder 88 = .ok (.iastore, 1) := by decide +kernel
theorem dX11_isOrder_89 : decode cX11_isOrder 89 = .ok (.iinc 6 (-1), 3) := by decide +kernel
theorem dX11_isOrder_92 : decode cX11_isOrder 92 = .ok (.goto (-76), 3) := by decide +kernel
theorem dX11_isOrder_95 : decode cX11_isOrder 95 = .ok (.iconst 1, 1) := by decide +kernel
theorem dX11_isOrder_96 : decode cX11_isOrder 96 = .ok (.istore 6, 2) := by decide +kernel
theorem dX11_isOrder_98 : decode cX11_isOrder 98 = .ok (.iconst 0, 1) := by decide +kernel
theorem dX11_isOrder_99 : decode cX11_isOrder 99 = .ok (.istore 7, 2) := by decide +kernel
theorem dX11_isOrder_101 : decode cX11_isOrder 101 = .ok (.iload 7, 2) := by decide +kernel
theorem dX11_isOrder_103 : decode cX11_isOrder 103 = .ok (.aload_n 0, 1) := by decide +kernel
theorem dX11_isOrder_104 : decode cX11_isOrder 104 = .ok (.getfield 107, 3) := by decide +kernel
theorem dX11_isOrder_107 : decode cX11_isOrder 107 = .ok (.if_icmp .ge 81, 3) := by decide +kernel
theorem dX11_isOrder_110 : decode cX11_isOrder 110 = .ok (.iconst 1, 1) := by decide +kernel
theorem dX11_isOrder_111 : decode cX11_isOrder 111 = .ok (.istore 8, 2) := by decide +kernel
theorem dX11_isOrder_113 : decode cX11_isOrder 113 = .ok (.iload 8, 2) := by decide +kernel
theorem dX11_isOrder_115 : decode cX11_isOrder 115 = .ok (.aload_n 0, 1) := by decide +kernel
theorem dX11_isOrder_116 : decode cX11_isOrder 116 = .ok (.getfield 13, 3) := by decide +kernel
theorem dX11_isOrder_119 : decode cX11_isOrder 119 = .ok (.iload 7, 2) := by decide +kernel
theorem dX11_isOrder_121 : decode cX11_isOrder 121 = .ok (.iaload, 1) := by decide +kernel
theorem dX11_isOrder_122 : decode cX11_isOrder 122 = .ok (.if_icmp .ge 60, 3) := by decide +kernel
theorem dX11_isOrder_125 : decode cX11_isOrder 125 = .ok (.iload 6, 2) := by decide +kernel
theorem dX11_isOrder_127 : decode cX11_isOrder 127 = .ok (.ifCond .eq 46, 3) := by decide +kernel
theorem dX11_isOrder_130 : decode cX11_isOrder 130 = .ok (.aload_n 0, 1) := by decide +kernel
theorem dX11_isOrder_131 : decode cX11_isOrder 131 = .ok (.getfield 43, 3) := by decide +kernel
theorem dX11_isOrder_134 : decode cX11_isOrder 134 = .ok (.aload_n 0, 1) := by decide +kernel
theorem dX11_isOrder_135 : decode cX11_isOrder 135 = .ok (.getfield 16, 3) := by decide +kernel
theorem dX11_isOrder_138 : decode cX11_isOrder 138 = .ok (.iconst 4, 1) := by decide +kernel
theorem dX11_isOrder_139 : decode cX11_isOrder 139 = .ok (.iload 7, 2) := by decide +kernel
theorem dX11_isOrder_141 : decode cX11_isOrder 141 = .ok (.imul, 1) := by decide +kernel
theorem dX11_isOrder_142 : decode cX11_isOrder 142 = .ok (.iload 8, 2) := by decide +kernel
theorem dX11_isOrder_144 : decode cX11_isOrder 144 = .ok (.iadd, 1) := by decide +kernel
theorem dX11_isOrder_145 : decode cX11_isOrder 145 = .ok (.iconst 1, 1) := by decide +kernel
theorem dX11_isOrder_146 : decode cX11_isOrder 146 = .ok (.isub, 1) := by decide +kernel
theorem dX11_isOrder_147 : decode cX11_isOrder 147 = .ok (.iaload, 1) := by decide +kernel
theorem dX11_isOrder_148 : decode cX11_isOrder 148 = .ok (.iaload, 1) := by decide +kernel
theorem dX11_isOrder_149 : decode cX11_isOrder 149 = .ok (.aload_n 0, 1) := by decide +kernel
theorem dX11_isOrder_150 : decode cX11_isOrder 150 = .ok (.getfield 43, 3) := by decide +kernel
theorem dX11_isOrder_153 : decode cX11_isOrder 153 = .ok (.aload_n 0, 1) := by decide +kernel
theorem dX11_isOrder_154 : decode cX11_isOrder 154 = .ok (.getfield 16, 3) := by decide +kernel
theorem dX11_isOrder_157 : decode cX11_isOrder 157 = .ok (.iconst 4, 1) := by decide +kernel
theorem dX11_isOrder_158 : decode cX11_isOrder 158 = .ok (.iload 7, 2) := by decide +kernel
theorem dX11_isOrder_160 : decode cX11_isOrder 160 = .ok (.imul, 1) := by decide +kernel
theorem dX11_isOrder_161 : decode cX11_isOrder 161 = .ok (.iload 8, 2) := by decide +kernel
theorem dX11_isOrder_163 : decode cX11_isOrder 163 = .ok (.iadd, 1) := by decide +kernel
theorem dX11_isOrder_164 : decode cX11_isOrder 164 = .ok (.iaload, 1) := by decide +kernel
theorem dX11_isOrder_165 : decode cX11_isOrder 165 = .ok (.iaload, 1) := by decide +kernel
theorem dX11_isOrder_166 : decode cX11_isOrder 166 = .ok (.if_icmp .ge 7, 3) := by decide +kernel
theorem dX11_isOrder_169 : decode cX11_isOrder 169 = .ok (.iconst 1, 1) := by decide +kernel
theorem dX11_isOrder_170 : decode cX11_isOrder 170 = .ok (.goto 4, 3) := by decide +kernel
theorem dX11_isOrder_173 : decode cX11_isOrder 173 = .ok (.iconst 0, 1) := by decide +kernel
theorem dX11_isOrder_174 : decode cX11_isOrder 174 = .ok (.istore 6, 2) := by decide +kernel
theorem dX11_isOrder_176 : decode cX11_isOrder 176 = .ok (.iinc 8 1, 3) := by decide +kernel
theorem dX11_isOrder_179 : decode cX11_isOrder 179 = .ok (.goto (-66), 3) := by decide +kernel
theorem dX11_isOrder_182 : decode cX11_isOrder 182 = .ok (.iinc 7 1, 3) := by decide +kernel
theorem dX11_isOrder_185 : decode cX11_isOrder 185 = .ok (.goto (-84), 3) := by decide +kernel
theorem dX11_isOrder_188 : decode cX11_isOrder 188 = .ok (.iload 6, 2) := by decide +kernel
theorem dX11_isOrder_190 : decode cX11_isOrder 190 = .ok (.ireturn, 1) := by decide +kernel
theorem dX11_countOrders_0 : decode cX11_countOrders 0 = .ok (.aload_n 0, 1) := by decide +kernel
theorem dX11_countOrders_1 : decode cX11_countOrders 1 = .ok (.invokevirtual 207, 3) := by decide +kernel
theorem dX11_countOrders_4 : decode cX11_countOrders 4 = .ok (.istore_n 1, 1) := by decide +kernel
theorem dX11_countOrders_5 : decode cX11_countOrders 5 = .ok (.iload_n 1, 1) := by decide +kernel
theorem dX11_countOrders_6 : decode cX11_countOrders 6 = .ok (.invokestatic 173, 3) := by decide +kernel
theorem dX11_countOrders_9 : decode cX11_countOrders 9 = .ok (.istore_n 2, 1) := by decide +kernel
theorem dX11_countOrders_10 : decode cX11_countOrders 10 = .ok (.aload_n 0, 1) := by decide +kernel
theorem dX11_countOrders_11 : decode cX11_countOrders 11 = .ok (.iconst 0, 1) := by decide +kernel
theorem dX11_countOrders_12 : decode cX11_countOrders 12 = .ok (.putfield 212, 3) := by decide +kernel
theorem dX11_countOrders_15 : decode cX11_countOrders 15 = .ok (.aload_n 0, 1) := by decide +kernel
theorem dX11_countOrders_16 : decode cX11_countOrders 16 = .ok (.bipush (-9), 2) := by decide +kernel
theorem dX11_countOrders_18 : decode cX11_countOrders 18 = .ok (.putfield 215, 3) := by decide +kernel
theorem dX11_countOrders_21 : decode cX11_countOrders 21 = .ok (.iconst 1, 1) := by decide +kernel
theorem dX11_countOrders_22 : decode cX11_countOrders 22 = .ok (.istore_n 3, 1) := by decide +kernel
theorem dX11_countOrders_23 : decode cX11_countOrders 23 = .ok (.iconst 2, 1) := by decide +kernel
theorem dX11_countOrders_24 : decode cX11_countOrders 24 = .ok (.istore 4, 2) := by decide +kernel
theorem dX11_countOrders_26 : decode cX11_countOrders 26 = .ok (.iload 4, 2) := by decide +kernel
theorem dX11_countOrders_28 : decode cX11_countOrders 28 = .ok (.iload_n 2, 1) := by decide +kernel
theorem dX11_countOrders_29 : decode cX11_countOrders 29 = .ok (.if_icmp .gt 14, 3) := by decide +kernel
theorem dX11_countOrders_32 : decode cX11_countOrders 32 = .ok (.iload_n 3, 1) := by decide +kernel
theorem dX11_countOrders_33 : decode cX11_countOrders 33 = .ok (.iload 4, 2) := by decide +kernel
theorem dX11_countOrders_35 : decode cX11_countOrders 35 = .ok (.imul, 1) := by decide +kernel
theorem dX11_countOrders_36 : decode cX11_countOrders 36 = .ok (.istore_n 3, 1) := by decide +kernel
theorem dX11_countOrders_37 : decode cX11_countOrders 37 = .ok (.iinc 4 1, 3) := by decide +kernel
theorem dX11_countOrders_40 : decode cX11_countOrders 40 = .ok (.goto (-14), 3) := by decide +kernel
theorem dX11_countOrders_43 : decode cX11_countOrders 43 = .ok (.iconst 0, 1) := by decide +kernel
theorem dX11_countOrders_44 : decode cX11_countOrders 44 = .ok (.istore 4, 2) := by decide +kernel
theorem dX11_countOrders_46 : decode cX11_countOrders 46 = .ok (.iload 4, 2) := by decide +kernel
theorem dX11_countOrders_48 : decode cX11_countOrders 48 = .ok (.iload_n 3, 1) := by decide +kernel
theorem dX11_countOrders_49 : decode cX11_countOrders 49 = .ok (.if_icmp .ge 60, 3) := by decide +kernel
theorem dX11_countOrders_52 : decode cX11_countOrders 52 = .ok (.aload_n 0, 1) := by decide +kernel
theorem dX11_countOrders_53 : decode cX11_countOrders 53 = .ok (.iload 4, 2) := by decide +kernel
theorem dX11_countOrders_55 : decode cX11_countOrders 55 = .ok (.iload_n 1, 1) := by decide +kernel
theorem dX11_countOrders_56 : decode cX11_countOrders 56 = .ok (.iload_n 2, 1) := by decide +kernel
theorem dX11_countOrders_57 : decode cX11_countOrders 57 = .ok (.iload_n 3, 1) := by decide +kernel
theorem dX11_countOrders_58 : decode cX11_countOrders 58 = .ok (.invokevirtual 218, 3) := by decide +kernel
theorem dX11_countOrders_61 : decode cX11_countOrders 61 = .ok (.istore 5, 2) := by decide +kernel
theorem dX11_countOrders_63 : decode cX11_countOrders 63 = .ok (.aload_n 0, 1) := by decide +kernel
theorem dX11_countOrders_64 : decode cX11_countOrders 64 = .ok (.iload 5, 2) := by decide +kernel
theorem dX11_countOrders_66 : decode cX11_countOrders 66 = .ok (.iload_n 2, 1) := by decide +kernel
theorem dX11_countOrders_67 : decode cX11_countOrders 67 = .ok (.invokevirtual 222, 3) := by decide +kernel
theorem dX11_countOrders_70 : decode cX11_countOrders 70 = .ok (.ifCond .eq 33, 3) := by decide +kernel
theorem dX11_countOrders_73 : decode cX11_countOrders 73 = .ok (.aload_n 0, 1) := by decide +kernel
theorem dX11_countOrders_74 : decode cX11_countOrders 74 = .ok (.aload_n 0, 1) := by decide +kernel
theorem dX11_countOrders_75 : decode cX11_countOrders 75 = .ok (.getfield 212, 3) := by decide +kernel
theorem dX11_countOrders_78 : decode cX11_countOrders 78 = .ok (.ifCond .ne 8, 3) := by decide +kernel
theorem dX11_countOrders_81 : decode cX11_countOrders 81 = .ok (.iload 5, 2) := by decide +kernel
theorem dX11_countOrders_83 : decode cX11_countOrders 83 = .ok (.goto 7, 3) := by decide +kernel
theorem dX11_countOrders_86 : decode cX11_countOrders 86 = .ok (.aload_n 0, 1) := by decide +kernel
theorem dX11_countOrders_87 : decode cX11_countOrders 87 = .ok (.getfield 215, 3) := by decide +kernel
theorem dX11_countOrders_90 : decode cX11_countOrders 90 = .ok (.putfield 215, 3) := by decide +kernel
theorem dX11_countOrders_93 : decode cX11_countOrders 93 = .ok (.aload_n 0, 1) := by decide +kernel
theorem dX11_countOrders_94 : decode cX11_countOrders 94 = .ok (.dup, 1) := by decide +kernel
theorem dX11_countOrders_95 : decode cX11_countOrders 95 = .ok (.getfield 212, 3) := by decide +kernel
theorem dX11_countOrders_98 : decode cX11_countOrders 98 = .ok (.iconst 1, 1) := by decide +kernel
theorem dX11_countOrders_99 : decode cX11_countOrders 99 = .ok (.iadd, 1) := by decide +kernel
theorem dX11_countOrders_100 : decode cX11_countOrders 100 = .ok (.putfield 212, 3) := by decide +kernel
theorem dX11_countOrders_103 : decode cX11_countOrders 103 = .ok (.iinc 4 1, 3) := by decide +kernel
theorem dX11_countOrders_106 : decode cX11_countOrders 106 = .ok (.goto (-60), 3) := by decide +kernel
theorem dX11_countOrders_109 : decode cX11_countOrders 109 = .ok (.return_, 1) := by decide +kernel
theorem dX11_orderOf_0 : decode cX11_orderOf 0 = .ok (.iload_n 2, 1) := by decide +kernel
theorem dX11_orderOf_1 : decode cX11_orderOf 1 = .ok (.istore 5, 2) := by decide +kernel
theorem dX11_orderOf_3 : decode cX11_orderOf 3 = .ok (.iload 4, 2) := by decide +kernel
theorem dX11_orderOf_5 : decode cX11_orderOf 5 = .ok (.istore 6, 2) := by decide +kernel
theorem dX11_orderOf_7 : decode cX11_orderOf 7 = .ok (.iload_n 1, 1) := by decide +kernel
theorem dX11_orderOf_8 : decode cX11_orderOf 8 = .ok (.istore 7, 2) := by decide +kernel
theorem dX11_orderOf_10 : decode cX11_orderOf 10 = .ok (.iconst 0, 1) := by decide +kernel
theorem dX11_orderOf_11 : decode cX11_orderOf 11 = .ok (.istore 8, 2) := by decide +kernel
theorem dX11_orderOf_13 : decode cX11_orderOf 13 = .ok (.iload_n 3, 1) := by decide +kernel
theorem dX11_orderOf_14 : decode cX11_orderOf 14 = .ok (.istore 9, 2) := by decide +kernel
theorem dX11_orderOf_16 : decode cX11_orderOf 16 = .ok (.iload 9, 2) := by decide +kernel
theorem dX11_orderOf_18 : decode cX11_orderOf 18 = .ok (.ifCond .le 97, 3) := by decide +kernel
theorem dX11_orderOf_21 : decode cX11_orderOf 21 = .ok (.iload 6, 2) := by decide +kernel
theorem dX11_orderOf_23 : decode cX11_orderOf 23 = .ok (.iload 9, 2) := by decide +kernel
theorem dX11_orderOf_25 : decode cX11_orderOf 25 = .ok (.idiv, 1) := by decide +kernel
theorem dX11_orderOf_26 : decode cX11_orderOf 26 = .ok (.istore 6, 2) := by decide +kernel
theorem dX11_orderOf_28 : decode cX11_orderOf 28 = .ok (.iload 7, 2) := by decide +kernel
theorem dX11_orderOf_30 : decode cX11_orderOf 30 = .ok (.iload 6, 2) := by decide +kernel
theorem dX11_orderOf_32 : decode cX11_orderOf 32 = .ok (.idiv, 1) := by decide +kernel
theorem dX11_orderOf_33 : decode cX11_orderOf 33 = .ok (.istore 10, 2) := by decide +kernel
theorem dX11_orderOf_35 : decode cX11_orderOf 35 = .ok (.iload 7, 2) := by decide +kernel
theorem dX11_orderOf_37 : decode cX11_orderOf 37 = .ok (.iload 6, 2) := by decide +kernel
theorem dX11_orderOf_39 : decode cX11_orderOf 39 = .ok (.irem, 1) := by decide +kernel
theorem dX11_orderOf_40 : decode cX11_orderOf 40 = .ok (.istore 7, 2) := by decide +kernel
theorem dX11_orderOf_42 : decode cX11_orderOf 42 = .ok (.iconst 0, 1) := by decide +kernel
theorem dX11_orderOf_43 : decode cX11_orderOf 43 = .ok (.istore 11, 2) := by decide +kernel
theorem dX11_orderOf_45 : decode cX11_orderOf 45 = .ok (.iload 5, 2) := by decide +kernel
theorem dX11_orderOf_47 : decode cX11_orderOf 47 = .ok (.iload 11, 2) := by decide +kernel
theorem dX11_orderOf_49 : decode cX11_orderOf 49 = .ok (.invokestatic 75, 3) := by decide +kernel
theorem dX11_orderOf_52 : decode cX11_orderOf 52 = .ok (.ifCond .eq 8, 3) := by decide +kernel
theorem dX11_orderOf_55 : decode cX11_orderOf 55 = .ok (.iload 10, 2) := by decide +kernel
theorem dX11_orderOf_57 : decode cX11_orderOf 57 = .ok (.ifCond .le 29, 3) := by decide +kernel
theorem dX11_orderOf_60 : decode cX11_orderOf 60 = .ok (.iload 10, 2) := by decide +kernel
theorem dX11_orderOf_62 : decode cX11_orderOf 62 = .ok (.iload 5, 2) := by decide +kernel
theorem dX11_orderOf_64 : decode cX11_orderOf 64 = .ok (.iload 11, 2) := by decide +kernel
theorem dX11_orderOf_66 : decode cX11_orderOf 66 = .ok (.invokestatic 75, 3) := by decide +kernel
theorem dX11_orderOf_69 : decode cX11_orderOf 69 = .ok (.ifCond .eq 7, 3) := by decide +kernel
theorem dX11_orderOf_72 : decode cX11_orderOf 72 = .ok (.iconst 1, 1) := by decide +kernel
theorem dX11_orderOf_73 : decode cX11_orderOf 73 = .ok (.goto 4, 3) := by decide +kernel
theorem dX11_orderOf_76 : decode cX11_orderOf 76 = .ok (.iconst 0, 1) := by decide +kernel
theorem dX11_orderOf_77 : decode cX11_orderOf 77 = .ok (.isub, 1) := by decide +kernel
theorem dX11_orderOf_78 : decode cX11_orderOf 78 = .ok (.istore 10, 2) := by decide +kernel
theorem dX11_orderOf_80 : decode cX11_orderOf 80 = .ok (.iinc 11 1, 3) := by decide +kernel
theorem dX11_orderOf_83 : decode cX11_orderOf 83 = .ok (.goto (-38), 3) := by decide +kernel
theorem dX11_orderOf_86 : decode cX11_orderOf 86 = .ok (.iload 5, 2) := by decide +kernel
theorem dX11_orderOf_88 : decode cX11_orderOf 88 = .ok (.iconst 1, 1) := by decide +kernel
theorem dX11_orderOf_89 : decode cX11_orderOf 89 = .ok (.iload 11, 2) := by decide +kernel
theorem dX11_orderOf_91 : decode cX11_orderOf 91 = .ok (.ishl, 1) := by decide +kernel
theorem dX11_orderOf_92 : decode cX11_orderOf 92 = .ok (.iconst (-1), 1) := by decide +kernel
theorem dX11_orderOf_93 : decode cX11_orderOf 93 = .ok (.ixor, 1) := by decide +kernel
theorem dX11_orderOf_94 : decode cX11_orderOf 94 = .ok (.iand, 1) := by decide +kernel
theorem dX11_orderOf_95 : decode cX11_orderOf 95 = .ok (.istore 5, 2) := by decide +kernel
theorem dX11_orderOf_97 : decode cX11_orderOf 97 = .ok (.bipush 10, 2) := by decide +kernel
theorem dX11_orderOf_99 : decode cX11_orderOf 99 = .ok (.iload 8, 2) := by decide +kernel
theorem dX11_orderOf_101 : decode cX11_orderOf 101 = .ok (.imul, 1) := by decide +kernel
theorem dX11_orderOf_102 : decode cX11_orderOf 102 = .ok (.iload 11, 2) := by decide +kernel
theorem dX11_orderOf_104 : decode cX11_orderOf 104 = .ok (.iadd, 1) := by decide +kernel
theorem dX11_orderOf_105 : decode cX11_orderOf 105 = .ok (.iconst 1, 1) := by decide +kernel
theorem dX11_orderOf_106 : decode cX11_orderOf 106 = .ok (.iadd, 1) := by decide +kernel
theorem dX11_orderOf_107 : decode cX11_orderOf 107 = .ok (.istore 8, 2) := by decide +kernel
theorem dX11_orderOf_109 : decode cX11_orderOf 109 = .ok (.iinc 9 (-1), 3) := by decide +kernel
theorem dX11_orderOf_112 : decode cX11_orderOf 112 = .ok (.goto (-96), 3) := by decide +kernel
theorem dX11_orderOf_115 : decode cX11_orderOf 115 = .ok (.iload 8, 2) := by decide +kernel
theorem dX11_orderOf_117 : decode cX11_orderOf 117 = .ok (.ireturn, 1) := by decide +kernel
theorem dX11_beneath_0 : decode cX11_beneath 0 = .ok (.iload_n 1, 1) := by decide +kernel
theorem dX11_beneath_1 : decode cX11_beneath 1 = .ok (.i2l, 1) := by decide +kernel
theorem dX11_beneath_2 : decode cX11_beneath 2 = .ok (.lconst 0, 1) := by decide +kernel
theorem dX11_beneath_3 : decode cX11_beneath 3 = .ok (.lconst 1, 1) := by decide +kernel
theorem dX11_beneath_4 : decode cX11_beneath 4 = .ok (.invokestatic 61, 3) := by decide +kernel
theorem dX11_beneath_7 : decode cX11_beneath 7 = .ok (.ifCond .ne 6, 3) := by decide +kernel
theorem dX11_beneath_10 : decode cX11_beneath 10 = .ok (.bipush (-2), 2) := by decide +kernel
theorem dX11_beneath_12 : decode cX11_beneath 12 = .ok (.ireturn, 1) := by decide +kernel
theorem dX11_beneath_13 : decode cX11_beneath 13 = .ok (.aload_n 0, 1) := by decide +kernel
theorem dX11_beneath_14 : decode cX11_beneath 14 = .ok (.invokevirtual 225, 3) := by decide +kernel
theorem dX11_beneath_17 : decode cX11_beneath 17 = .ok (.iload_n 1, 1) := by decide +kernel
theorem dX11_beneath_18 : decode cX11_beneath 18 = .ok (.ifCond .ne 10, 3) := by decide +kernel
theorem dX11_beneath_21 : decode cX11_beneath 21 = .ok (.aload_n 0, 1) := by decide +kernel
theorem dX11_beneath_22 : decode cX11_beneath 22 = .ok (.getfield 212, 3) := by decide +kernel
theorem dX11_beneath_25 : decode cX11_beneath 25 = .ok (.goto 7, 3) := by decide +kernel
theorem dX11_beneath_28 : decode cX11_beneath 28 = .ok (.aload_n 0, 1) := by decide +kernel
theorem dX11_beneath_29 : decode cX11_beneath 29 = .ok (.getfield 215, 3) := by decide +kernel
theorem dX11_beneath_32 : decode cX11_beneath 32 = .ok (.ireturn, 1) := by decide +kernel
theorem dX11_tryThing_0 : decode cX11_tryThing 0 = .ok (.iload_n 1, 1) := by decide +kernel
theorem dX11_tryThing_1 : decode cX11_tryThing 1 = .ok (.tableswitch 219 0 5 #[39, 58, 82, 106, 148, 192], 39) := by decide +kernel
theorem dX11_tryThing_40 : decode cX11_tryThing 40 = .ok (.aload_n 0, 1) := by decide +kernel
theorem dX11_tryThing_41 : decode cX11_tryThing 41 = .ok (.iconst 1, 1) := by decide +kernel
theorem dX11_tryThing_42 : decode cX11_tryThing 42 = .ok (.invokevirtual 167, 3) := by decide +kernel
theorem dX11_tryThing_45 : decode cX11_tryThing 45 = .ok (.iload_n 2, 1) := by decide +kernel
theorem dX11_tryThing_46 : decode cX11_tryThing 46 = .ok (.ifCond .ne 11, 3) := by decide +kernel
theorem dX11_tryThing_49 : decode cX11_tryThing 49 = .ok (.iload_n 3, 1) := by decide +kernel
theorem dX11_tryThing_50 : decode cX11_tryThing 50 = .ok (.ifCond .ne 7, 3) := by decide +kernel
theorem dX11_tryThing_53 : decode cX11_tryThing 53 = .ok (.iconst 1, 1) := by decide +kernel
theorem dX11_tryThing_54 : decode cX11_tryThing 54 = .ok (.goto 4, 3) := by decide +kernel
theorem dX11_tryThing_57 : decode cX11_tryThing 57 = .ok (.iconst 0, 1) := by decide +kernel
theorem dX11_tryThing_58 : decode cX11_tryThing 58 = .ok (.ireturn, 1) := by decide +kernel
theorem dX11_tryThing_59 : decode cX11_tryThing 59 = .ok (.aload_n 0, 1) := by decide +kernel
theorem dX11_tryThing_60 : decode cX11_tryThing 60 = .ok (.iconst 1, 1) := by decide +kernel
theorem dX11_tryThing_61 : decode cX11_tryThing 61 = .ok (.iload_n 2, 1) := by decide +kernel
theorem dX11_tryThing_62 : decode cX11_tryThing 62 = .ok (.iload_n 3, 1) := by decide +kernel
theorem dX11_tryThing_63 : decode cX11_tryThing 63 = .ok (.invokevirtual 176, 3) := by decide +kernel
theorem dX11_tryThing_66 : decode cX11_tryThing 66 = .ok (.istore 4, 2) := by decide +kernel
theorem dX11_tryThing_68 : decode cX11_tryThing 68 = .ok (.iload 4, 2) := by decide +kernel
theorem dX11_tryThing_70 : decode cX11_tryThing 70 = .ok (.ifCond .eq 10, 3) := by decide +kernel
theorem dX11_tryThing_73 : decode cX11_tryThing 73 = .ok (.aload_n 0, 1) := by decide +kernel
theorem dX11_tryThing_74 : decode cX11_tryThing 74 = .ok (.iconst 1, 1) := by decide +kernel
theorem dX11_tryThing_75 : decode cX11_tryThing 75 = .ok (.iload_n 2, 1) := by decide +kernel
theorem dX11_tryThing_76 : decode cX11_tryThing 76 = .ok (.iload_n 3, 1) := by decide +kernel
theorem dX11_tryThing_77 : decode cX11_tryThing 77 = .ok (.invokevirtual 180, 3) := by decide +kernel
theorem dX11_tryThing_80 : decode cX11_tryThing 80 = .ok (.iload 4, 2) := by decide +kernel
theorem dX11_tryThing_82 : decode cX11_tryThing 82 = .ok (.ireturn, 1) := by decide +kernel
theorem dX11_tryThing_83 : decode cX11_tryThing 83 = .ok (.aload_n 0, 1) := by decide +kernel
theorem dX11_tryThing_84 : decode cX11_tryThing 84 = .ok (.iconst 1, 1) := by decide +kernel
theorem dX11_tryThing_85 : decode cX11_tryThing 85 = .ok (.iload_n 2, 1) := by decide +kernel
theorem dX11_tryThing_86 : decode cX11_tryThing 86 = .ok (.iload_n 3, 1) := by decide +kernel
theorem dX11_tryThing_87 : decode cX11_tryThing 87 = .ok (.invokevirtual 184, 3) := by decide +kernel
theorem dX11_tryThing_90 : decode cX11_tryThing 90 = .ok (.istore 5, 2) := by decide +kernel
theorem dX11_tryThing_92 : decode cX11_tryThing 92 = .ok (.iload 5, 2) := by decide +kernel
theorem dX11_tryThing_94 : decode cX11_tryThing 94 = .ok (.ifCond .eq 10, 3) := by decide +kernel
theorem dX11_tryThing_97 : decode cX11_tryThing 97 = .ok (.aload_n 0, 1) := by decide +kernel
theorem dX11_tryThing_98 : decode cX11_tryThing 98 = .ok (.iconst 1, 1) := by decide +kernel
theorem dX11_tryThing_99 : decode cX11_tryThing 99 = .ok (.iload_n 2, 1) := by decide +kernel
theorem dX11_tryThing_100 : decode cX11_tryThing 100 = .ok (.iload_n 3, 1) := by decide +kernel
theorem dX11_tryThing_101 : decode cX11_tryThing 101 = .ok (.invokevirtual 187, 3) := by decide +kernel
theorem dX11_tryThing_104 : decode cX11_tryThing 104 = .ok (.iload 5, 2) := by decide +kernel
theorem dX11_tryThing_106 : decode cX11_tryThing 106 = .ok (.ireturn, 1) := by decide +kernel
theorem dX11_tryThing_107 : decode cX11_tryThing 107 = .ok (.iload_n 2, 1) := by decide +kernel
theorem dX11_tryThing_108 : decode cX11_tryThing 108 = .ok (.ifCond .ne 24, 3) := by decide +kernel
theorem dX11_tryThing_111 : decode cX11_tryThing 111 = .ok (.aload_n 0, 1) := by decide +kernel
theorem dX11_tryThing_112 : decode cX11_tryThing 112 = .ok (.iload_n 3, 1) := by decide +kernel
theorem dX11_tryThing_113 : decode cX11_tryThing 113 = .ok (.invokevirtual 136, 3) := by decide +kernel
theorem dX11_tryThing_116 : decode cX11_tryThing 116 = .ok (.ifCond .eq 16, 3) := by decide +kernel
theorem dX11_tryThing_119 : decode cX11_tryThing 119 = .ok (.aload_n 0, 1) := by decide +kernel
theorem dX11_tryThing_120 : decode cX11_tryThing 120 = .ok (.iconst 1, 1) := by decide +kernel
theorem dX11_tryThing_121 : decode cX11_tryThing 121 = .ok (.iload_n 3, 1) := by decide +kernel
theorem dX11_tryThing_122 : decode cX11_tryThing 122 = .ok (.invokevirtual 122, 3) := by decide +kernel
theorem dX11_tryThing_125 : decode cX11_tryThing 125 = .ok (.ifCond .ne 7, 3) := by decide +kernel
theorem dX11_tryThing_128 : decode cX11_tryThing 128 = .ok (.iconst 1, 1) := by decide +kernel
theorem dX11_tryThing_129 : decode cX11_tryThing 129 = .ok (.goto 4, 3) := by decide +kernel
theorem dX11_tryThing_132 : decode cX11_tryThing 132 = .ok (.iconst 0, 1) := by decide +kernel
theorem dX11_tryThing_133 : decode cX11_tryThing 133 = .ok (.istore 6, 2) := by decide +kernel
theorem dX11_tryThing_135 : decode cX11_tryThing 135 = .ok (.iload 6, 2) := by decide +kernel
theorem dX11_tryThing_137 : decode cX11_tryThing 137 = .ok (.ifCond .eq 9, 3) := by decide +kernel
theorem dX11_tryThing_140 : decode cX11_tryThing 140 = .ok (.aload_n 0, 1) := by decide +kernel
theorem dX11_tryThing_141 : decode cX11_tryThing 141 = .ok (.iconst 1, 1) := by decide +kernel
theorem dX11_tryThing_142 : decode cX11_tryThing 142 = .ok (.iload_n 3, 1) := by decide +kernel
theorem dX11_tryThing_143 : decode cX11_tryThing 143 = .ok (.invokevirtual 190, 3) := by decide +kernel
theorem dX11_tryThing_146 : decode cX11_tryThing 146 = .ok (.iload 6, 2) := by decide +kernel
theorem dX11_tryThing_148 : decode cX11_tryThing 148 = .ok (.ireturn, 1) := by decide +kernel
theorem dX11_tryThing_149 : decode cX11_tryThing 149 = .ok (.aload_n 0, 1) := by decide +kernel
theorem dX11_tryThing_150 : decode cX11_tryThing 150 = .ok (.iload_n 2, 1) := by decide +kernel
theorem dX11_tryThing_151 : decode cX11_tryThing 151 = .ok (.invokevirtual 136, 3) := by decide +kernel
theorem dX11_tryThing_154 : decode cX11_tryThing 154 = .ok (.ifCond .eq 37, 3) := by decide +kernel
theorem dX11_tryThing_157 : decode cX11_tryThing 157 = .ok (.iload_n 3, 1) := by decide +kernel
theorem dX11_tryThing_158 : decode cX11_tryThing 158 = .ok (.i2l, 1) := by decide +kernel
theorem dX11_tryThing_159 : decode cX11_tryThing 159 = .ok (.lconst 1, 1) := by decide +kernel
theorem dX11_tryThing_160 : decode cX11_tryThing 160 = .ok (.ldc2_w 228, 3) := by decide +kernel
theorem dX11_tryThing_163 : decode cX11_tryThing 163 = .ok (.invokestatic 61, 3) := by decide +kernel
theorem dX11_tryThing_166 : decode cX11_tryThing 166 = .ok (.ifCond .eq 25, 3) := by decide +kernel
theorem dX11_tryThing_169 : decode cX11_tryThing 169 = .ok (.aload_n 0, 1) := by decide +kernel
theorem dX11_tryThing_170 : decode cX11_tryThing 170 = .ok (.getfield 22, 3) := by decide +kernel
theorem dX11_tryThing_173 : decode cX11_tryThing 173 = .ok (.bipush 18, 2) := by decide +kernel
theorem dX11_tryThing_175 : decode cX11_tryThing 175 = .ok (.iload_n 2, 1) := by decide +kernel
theorem dX11_tryThing_176 : decode cX11_tryThing 176 = .ok (.iadd, 1) := by decide +kernel
theorem dX11_tryThing_177 : decode cX11_tryThing 177 = .ok (.iaload, 1) := by decide +kernel
theorem dX11_tryThing_178 : decode cX11_tryThing 178 = .ok (.iload_n 3, 1) := by decide +kernel
theorem dX11_tryThing_179 : decode cX11_tryThing 179 = .ok (.iconst 1, 1) := by decide +kernel
theorem dX11_tryThing_180 : decode cX11_tryThing 180 = .ok (.isub, 1) := by decide +kernel
theorem dX11_tryThing_181 : decode cX11_tryThing 181 = .ok (.invokestatic 75, 3) := by decide +kernel
theorem dX11_tryThing_184 : decode cX11_tryThing 184 = .ok (.ifCond .eq 7, 3) := by decide +kernel
theorem dX11_tryThing_187 : decode cX11_tryThing 187 = .ok (.iconst 1, 1) := by decide +kernel
theorem dX11_tryThing_188 : decode cX11_tryThing 188 = .ok (.goto 4, 3) := by decide +kernel
theorem dX11_tryThing_191 : decode cX11_tryThing 191 = .ok (.iconst 0, 1) := by decide +kernel
theorem dX11_tryThing_192 : decode cX11_tryThing 192 = .ok (.ireturn, 1) := by decide +kernel
theorem dX11_tryThing_193 : decode cX11_tryThing 193 = .ok (.aload_n 0, 1) := by decide +kernel
theorem dX11_tryThing_194 : decode cX11_tryThing 194 = .ok (.iload_n 2, 1) := by decide +kernel
theorem dX11_tryThing_195 : decode cX11_tryThing 195 = .ok (.invokevirtual 136, 3) := by decide +kernel
theorem dX11_tryThing_198 : decode cX11_tryThing 198 = .ok (.ifCond .eq 20, 3) := by decide +kernel
theorem dX11_tryThing_201 : decode cX11_tryThing 201 = .ok (.aload_n 0, 1) := by decide +kernel
theorem dX11_tryThing_202 : decode cX11_tryThing 202 = .ok (.getfield 22, 3) := by decide +kernel
theorem dX11_tryThing_205 : decode cX11_tryThing 205 = .ok (.bipush 22, 2) := by decide +kernel
theorem dX11_tryThing_207 : decode cX11_tryThing 207 = .ok (.iload_n 2, 1) := by decide +kernel
theorem dX11_tryThing_208 : decode cX11_tryThing 208 = .ok (.iadd, 1) := by decide +kernel
theorem dX11_tryThing_209 : decode cX11_tryThing 209 = .ok (.iaload, 1) := by decide +kernel
theorem dX11_tryThing_210 : decode cX11_tryThing 210 = .ok (.iload_n 3, 1) := by decide +kernel
theorem dX11_tryThing_211 : decode cX11_tryThing 211 = .ok (.if_icmp .lt 7, 3) := by decide +kernel
theorem dX11_tryThing_214 : decode cX11_tryThing 214 = .ok (.iconst 1, 1) := by decide +kernel
theorem dX11_tryThing_215 : decode cX11_tryThing 215 = .ok (.goto 4, 3) := by decide +kernel
theorem dX11_tryThing_218 : decode cX11_tryThing 218 = .ok (.iconst 0, 1) := by decide +kernel
theorem dX11_tryThing_219 : decode cX11_tryThing 219 = .ok (.ireturn, 1) := by decide +kernel
theorem dX11_tryThing_220 : decode cX11_tryThing 220 = .ok (.iconst 0, 1) := by decide +kernel
theorem dX11_tryThing_221 : decode cX11_tryThing 221 = .ok (.ireturn, 1) := by decide +kernel
theorem dX11_thousandTo_0 : decode cX11_thousandTo 0 = .ok (.lconst 1, 1) := by decide +kernel
theorem dX11_thousandTo_1 : decode cX11_thousandTo 1 = .ok (.lstore_n 1, 1) := by decide +kernel
theorem dX11_thousandTo_2 : decode cX11_thousandTo 2 = .ok (.iconst 0, 1) := by decide +kernel
theorem dX11_thousandTo_3 : decode cX11_thousandTo 3 = .ok (.istore_n 3, 1) := by decide +kernel
theorem dX11_thousandTo_4 : decode cX11_thousandTo 4 = .ok (.iload_n 3, 1) := by decide +kernel
theorem dX11_thousandTo_5 : decode cX11_thousandTo 5 = .ok (.iload_n 0, 1) := by decide +kernel
theorem dX11_thousandTo_6 : decode cX11_thousandTo 6 = .ok (.if_icmp .ge 15, 3) := by decide +kernel
theorem dX11_thousandTo_9 : decode cX11_thousandTo 9 = .ok (.lload_n 1, 1) := by decide +kernel
theorem dX11_thousandTo_10 : decode cX11_thousandTo 10 = .ok (.ldc2_w 230, 3) := by decide +kernel
theorem dX11_thousandTo_13 : decode cX11_thousandTo 13 = .ok (.lmul, 1) := by decide +kernel
theorem dX11_thousandTo_14 : decode cX11_thousandTo 14 = .ok (.lstore_n 1, 1) := by decide +kernel
theorem dX11_thousandTo_15 : decode cX11_thousandTo 15 = .ok (.iinc 3 1, 3) := by decide +kernel
theorem dX11_thousandTo_18 : decode cX11_thousandTo 18 = .ok (.goto (-14), 3) := by decide +kernel
theorem dX11_thousandTo_21 : decode cX11_thousandTo 21 = .ok (.lload_n 1, 1) := by decide +kernel
theorem dX11_thousandTo_22 : decode cX11_thousandTo 22 = .ok (.lreturn, 1) := by decide +kernel
theorem dX11_judge_0 : decode cX11_judge 0 = .ok (.iload_n 1, 1) := by decide +kernel
theorem dX11_judge_1 : decode cX11_judge 1 = .ok (.i2l, 1) := by decide +kernel
theorem dX11_judge_2 : decode cX11_judge 2 = .ok (.lconst 1, 1) := by decide +kernel
theorem dX11_judge_3 : decode cX11_judge 3 = .ok (.ldc2_w 232, 3) := by decide +kernel
theorem dX11_judge_6 : decode cX11_judge 6 = .ok (.invokestatic 61, 3) := by decide +kernel
theorem dX11_judge_9 : decode cX11_judge 9 = .ok (.ifCond .eq 17, 3) := by decide +kernel
theorem dX11_judge_12 : decode cX11_judge 12 = .ok (.lload_n 2, 1) := by decide +kernel
theorem dX11_judge_13 : decode cX11_judge 13 = .ok (.lconst 0, 1) := by decide +kernel
theorem dX11_judge_14 : decode cX11_judge 14 = .ok (.iload_n 1, 1) := by decide +kernel
theorem dX11_judge_15 : decode cX11_judge 15 = .ok (.invokestatic 234, 3) := by decide +kernel
theorem dX11_judge_18 : decode cX11_judge 18 = .ok (.lconst 1, 1) := by decide +kernel
theorem dX11_judge_19 : decode cX11_judge 19 = .ok (.lsub, 1) := by decide +kernel
theorem dX11_judge_20 : decode cX11_judge 20 = .ok (.invokestatic 61, 3) := by decide +kernel
theorem dX11_judge_23 : decode cX11_judge 23 = .ok (.ifCond .ne 6, 3) := by decide +kernel
theorem dX11_judge_26 : decode cX11_judge 26 = .ok (.bipush (-2), 2) := by decide +kernel
theorem dX11_judge_28 : decode cX11_judge 28 = .ok (.ireturn, 1) := by decide +kernel
theorem dX11_judge_29 : decode cX11_judge 29 = .ok (.aload_n 0, 1) := by decide +kernel
theorem dX11_judge_30 : decode cX11_judge 30 = .ok (.invokevirtual 195, 3) := by decide +kernel
theorem dX11_judge_33 : decode cX11_judge 33 = .ok (.iconst 0, 1) := by decide +kernel
theorem dX11_judge_34 : decode cX11_judge 34 = .ok (.istore 4, 2) := by decide +kernel
theorem dX11_judge_36 : decode cX11_judge 36 = .ok (.iload 4, 2) := by decide +kernel
theorem dX11_judge_38 : decode cX11_judge 38 = .ok (.iload_n 1, 1) := by decide +kernel
theorem dX11_judge_39 : decode cX11_judge 39 = .ok (.if_icmp .ge 55, 3) := by decide +kernel
theorem dX11_judge_42 : decode cX11_judge 42 = .ok (.lload_n 2, 1) := by decide +kernel
theorem dX11_judge_43 : decode cX11_judge 43 = .ok (.iload_n 1, 1) := by decide +kernel
theorem dX11_judge_44 : decode cX11_judge 44 = .ok (.iconst 1, 1) := by decide +kernel
theorem dX11_judge_45 : decode cX11_judge 45 = .ok (.isub, 1) := by decide +kernel
theorem dX11_judge_46 : decode cX11_judge 46 = .ok (.iload 4, 2) := by decide +kernel
theorem dX11_judge_48 : decode cX11_judge 48 = .ok (.isub, 1) := by decide +kernel
theorem dX11_judge_49 : decode cX11_judge 49 = .ok (.invokestatic 234, 3) := by decide +kernel
theorem dX11_judge_52 : decode cX11_judge 52 = .ok (.ldiv, 1) := by decide +kernel
theorem dX11_judge_53 : decode cX11_judge 53 = .ok (.ldc2_w 230, 3) := by decide +kernel
theorem dX11_judge_56 : decode cX11_judge 56 = .ok (.lrem, 1) := by decide +kernel
theorem dX11_judge_57 : decode cX11_judge 57 = .ok (.l2i, 1) := by decide +kernel
theorem dX11_judge_58 : decode cX11_judge 58 = .ok (.istore 5, 2) := by decide +kernel
theorem dX11_judge_60 : decode cX11_judge 60 = .ok (.aload_n 0, 1) := by decide +kernel
theorem dX11_judge_61 : decode cX11_judge 61 = .ok (.iload 5, 2) := by decide +kernel
theorem dX11_judge_63 : decode cX11_judge 63 = .ok (.bipush 100, 2) := by decide +kernel
theorem dX11_judge_65 : decode cX11_judge 65 = .ok (.idiv, 1) := by decide +kernel
theorem dX11_judge_66 : decode cX11_judge 66 = .ok (.iload 5, 2) := by decide +kernel
theorem dX11_judge_68 : decode cX11_judge 68 = .ok (.bipush 10, 2) := by decide +kernel
theorem dX11_judge_70 : decode cX11_judge 70 = .ok (.idiv, 1) := by decide +kernel
theorem dX11_judge_71 : decode cX11_judge 71 = .ok (.bipush 10, 2) := by decide +kernel
theorem dX11_judge_73 : decode cX11_judge 73 = .ok (.irem, 1) := by decide +kernel
theorem dX11_judge_74 : decode cX11_judge 74 = .ok (.iload 5, 2) := by decide +kernel
theorem dX11_judge_76 : decode cX11_judge 76 = .ok (.bipush 10, 2) := by decide +kernel
theorem dX11_judge_78 : decode cX11_judge 78 = .ok (.irem, 1) := by decide +kernel
theorem dX11_judge_79 : decode cX11_judge 79 = .ok (.invokevirtual 238, 3) := by decide +kernel
theorem dX11_judge_82 : decode cX11_judge 82 = .ok (.ifCond .ne 6, 3) := by decide +kernel
theorem dX11_judge_85 : decode cX11_judge 85 = .ok (.iload 4, 2) := by decide +kernel
theorem dX11_judge_87 : decode cX11_judge 87 = .ok (.ireturn, 1) := by decide +kernel
theorem dX11_judge_88 : decode cX11_judge 88 = .ok (.iinc 4 1, 3) := by decide +kernel
theorem dX11_judge_91 : decode cX11_judge 91 = .ok (.goto (-55), 3) := by decide +kernel
theorem dX11_judge_94 : decode cX11_judge 94 = .ok (.bipush (-9), 2) := by decide +kernel
theorem dX11_judge_96 : decode cX11_judge 96 = .ok (.ireturn, 1) := by decide +kernel
theorem dX11_knew_0 : decode cX11_knew 0 = .ok (.iload_n 1, 1) := by decide +kernel
theorem dX11_knew_1 : decode cX11_knew 1 = .ok (.i2l, 1) := by decide +kernel
theorem dX11_knew_2 : decode cX11_knew 2 = .ok (.lconst 1, 1) := by decide +kernel
theorem dX11_knew_3 : decode cX11_knew 3 = .ok (.ldc2_w 228, 3) := by decide +kernel
theorem dX11_knew_6 : decode cX11_knew 6 = .ok (.invokestatic 61, 3) := by decide +kernel
theorem dX11_knew_9 : decode cX11_knew 9 = .ok (.ifCond .eq 13, 3) := by decide +kernel
theorem dX11_knew_12 : decode cX11_knew 12 = .ok (.iload_n 2, 1) := by decide +kernel
theorem dX11_knew_13 : decode cX11_knew 13 = .ok (.i2l, 1) := by decide +kernel
theorem dX11_knew_14 : decode cX11_knew 14 = .ok (.lconst 0, 1) := by decide +kernel
theorem dX11_knew_15 : decode cX11_knew 15 = .ok (.lconst 1, 1) := by decide +kernel
theorem dX11_knew_16 : decode cX11_knew 16 = .ok (.invokestatic 61, 3) := by decide +kernel
theorem dX11_knew_19 : decode cX11_knew 19 = .ok (.ifCond .ne 6, 3) := by decide +kernel
theorem dX11_knew_22 : decode cX11_knew 22 = .ok (.bipush (-2), 2) := by decide +kernel
theorem dX11_knew_24 : decode cX11_knew 24 = .ok (.ireturn, 1) := by decide +kernel
theorem dX11_knew_25 : decode cX11_knew 25 = .ok (.aload_n 0, 1) := by decide +kernel
theorem dX11_knew_26 : decode cX11_knew 26 = .ok (.getfield 241, 3) := by decide +kernel
theorem dX11_knew_29 : decode cX11_knew 29 = .ok (.bipush 6, 2) := by decide +kernel
theorem dX11_knew_31 : decode cX11_knew 31 = .ok (.if_icmp .ne 6, 3) := by decide +kernel
theorem dX11_knew_34 : decode cX11_knew 34 = .ok (.bipush (-4), 2) := by decide +kernel
theorem dX11_knew_36 : decode cX11_knew 36 = .ok (.ireturn, 1) := by decide +kernel
theorem dX11_knew_37 : decode cX11_knew 37 = .ok (.aload_n 0, 1) := by decide +kernel
theorem dX11_knew_38 : decode cX11_knew 38 = .ok (.getfield 46, 3) := by decide +kernel
theorem dX11_knew_41 : decode cX11_knew 41 = .ok (.aload_n 0, 1) := by decide +kernel
theorem dX11_knew_42 : decode cX11_knew 42 = .ok (.getfield 241, 3) := by decide +kernel
theorem dX11_knew_45 : decode cX11_knew 45 = .ok (.iload_n 1, 1) := by decide +kernel
theorem dX11_knew_46 : decode cX11_knew 46 = .ok (.iastore, 1) := by decide +kernel
theorem dX11_knew_47 : decode cX11_knew 47 = .ok (.aload_n 0, 1) := by decide +kernel
theorem dX11_knew_48 : decode cX11_knew 48 = .ok (.getfield 49, 3) := by decide +kernel
theorem dX11_knew_51 : decode cX11_knew 51 = .ok (.aload_n 0, 1) := by decide +kernel
theorem dX11_knew_52 : decode cX11_knew 52 = .ok (.getfield 241, 3) := by decide +kernel
theorem dX11_knew_55 : decode cX11_knew 55 = .ok (.iload_n 2, 1) := by decide +kernel
theorem dX11_knew_56 : decode cX11_knew 56 = .ok (.iastore, 1) := by decide +kernel
theorem dX11_knew_57 : decode cX11_knew 57 = .ok (.aload_n 0, 1) := by decide +kernel
theorem dX11_knew_58 : decode cX11_knew 58 = .ok (.dup, 1) := by decide +kernel
theorem dX11_knew_59 : decode cX11_knew 59 = .ok (.getfield 241, 3) := by decide +kernel
theorem dX11_knew_62 : decode cX11_knew 62 = .ok (.iconst 1, 1) := by decide +kernel
theorem dX11_knew_63 : decode cX11_knew 63 = .ok (.iadd, 1) := by decide +kernel
theorem dX11_knew_64 : decode cX11_knew 64 = .ok (.putfield 241, 3) := by decide +kernel
theorem dX11_knew_67 : decode cX11_knew 67 = .ok (.aload_n 0, 1) := by decide +kernel
theorem dX11_knew_68 : decode cX11_knew 68 = .ok (.getfield 241, 3) := by decide +kernel
theorem dX11_knew_71 : decode cX11_knew 71 = .ok (.ireturn, 1) := by decide +kernel
theorem dX11_unknew_0 : decode cX11_unknew 0 = .ok (.aload_n 0, 1) := by decide +kernel
theorem dX11_unknew_1 : decode cX11_unknew 1 = .ok (.getfield 241, 3) := by decide +kernel
theorem dX11_unknew_4 : decode cX11_unknew 4 = .ok (.istore_n 1, 1) := by decide +kernel
theorem dX11_unknew_5 : decode cX11_unknew 5 = .ok (.aload_n 0, 1) := by decide +kernel
theorem dX11_unknew_6 : decode cX11_unknew 6 = .ok (.iconst 0, 1) := by decide +kernel
theorem dX11_unknew_7 : decode cX11_unknew 7 = .ok (.putfield 241, 3) := by decide +kernel
theorem dX11_unknew_10 : decode cX11_unknew 10 = .ok (.iload_n 1, 1) := by decide +kernel
theorem dX11_unknew_11 : decode cX11_unknew 11 = .ok (.ireturn, 1) := by decide +kernel
theorem dX11_upperOf_0 : decode cX11_upperOf 0 = .ok (.iconst 0, 1) := by decide +kernel
theorem dX11_upperOf_1 : decode cX11_upperOf 1 = .ok (.istore_n 3, 1) := by decide +kernel
theorem dX11_upperOf_2 : decode cX11_upperOf 2 = .ok (.iconst 0, 1) := by decide +kernel
theorem dX11_upperOf_3 : decode cX11_upperOf 3 = .ok (.istore 4, 2) := by decide +kernel
theorem dX11_upperOf_5 : decode cX11_upperOf 5 = .ok (.iload 4, 2) := by decide +kernel
theorem dX11_upperOf_7 : decode cX11_upperOf 7 = .ok (.aload_n 0, 1) := by decide +kernel
theorem dX11_upperOf_8 : decode cX11_upperOf 8 = .ok (.getfield 13, 3) := by decide +kernel
theorem dX11_upperOf_11 : decode cX11_upperOf 11 = .ok (.iload_n 1, 1) := by decide +kernel
theorem dX11_upperOf_12 : decode cX11_upperOf 12 = .ok (.iaload, 1) := by decide +kernel
theorem dX11_upperOf_13 : decode cX11_upperOf 13 = .ok (.if_icmp .ge 31, 3) := by decide +kernel
theorem dX11_upperOf_16 : decode cX11_upperOf 16 = .ok (.iload 4, 2) := by decide +kernel
theorem dX11_upperOf_18 : decode cX11_upperOf 18 = .ok (.iload_n 2, 1) := by decide +kernel
theorem dX11_upperOf_19 : decode cX11_upperOf 19 = .ok (.if_icmp .ge 25, 3) := by decide +kernel
theorem dX11_upperOf_22 : decode cX11_upperOf 22 = .ok (.iload_n 3, 1) := by decide +kernel
theorem dX11_upperOf_23 : decode cX11_upperOf 23 = .ok (.iconst 1, 1) := by decide +kernel
theorem dX11_upperOf_24 : decode cX11_upperOf 24 = .ok (.aload_n 0, 1) := by decide +kernel
theorem dX11_upperOf_25 : decode cX11_upperOf 25 = .ok (.getfield 16, 3) := by decide +kernel
theorem dX11_upperOf_28 : decode cX11_upperOf 28 = .ok (.iconst 4, 1) := by decide +kernel
theorem dX11_upperOf_29 : decode cX11_upperOf 29 = .ok (.iload_n 1, 1) := by decide +kernel
theorem dX11_upperOf_30 : decode cX11_upperOf 30 = .ok (.imul, 1) := by decide +kernel
theorem dX11_upperOf_31 : decode cX11_upperOf 31 = .ok (.iload 4, 2) := by decide +kernel
theorem dX11_upperOf_33 : decode cX11_upperOf 33 = .ok (.iadd, 1) := by decide +kernel
theorem dX11_upperOf_34 : decode cX11_upperOf 34 = .ok (.iaload, 1) := by decide +kernel
theorem dX11_upperOf_35 : decode cX11_upperOf 35 = .ok (.ishl, 1) := by decide +kernel
theorem dX11_upperOf_36 : decode cX11_upperOf 36 = .ok (.ior, 1) := by decide +kernel
theorem dX11_upperOf_37 : decode cX11_upperOf 37 = .ok (.istore_n 3, 1) := by decide +kernel
theorem dX11_upperOf_38 : decode cX11_upperOf 38 = .ok (.iinc 4 1, 3) := by decide +kernel
theorem dX11_upperOf_41 : decode cX11_upperOf 41 = .ok (.goto (-36), 3) := by decide +kernel
theorem dX11_upperOf_44 : decode cX11_upperOf 44 = .ok (.iload_n 3, 1) := by decide +kernel
theorem dX11_upperOf_45 : decode cX11_upperOf 45 = .ok (.ireturn, 1) := by decide +kernel
theorem dX11_lay_0 : decode cX11_lay 0 = .ok (.iload_n 1, 1) := by decide +kernel
theorem dX11_lay_1 : decode cX11_lay 1 = .ok (.i2l, 1) := by decide +kernel
theorem dX11_lay_2 : decode cX11_lay 2 = .ok (.lconst 0, 1) := by decide +kernel
theorem dX11_lay_3 : decode cX11_lay 3 = .ok (.lconst 1, 1) := by decide +kernel
theorem dX11_lay_4 : decode cX11_lay 4 = .ok (.invokestatic 61, 3) := by decide +kernel
theorem dX11_lay_7 : decode cX11_lay 7 = .ok (.ifCond .ne 6, 3) := by decide +kernel
theorem dX11_lay_10 : decode cX11_lay 10 = .ok (.bipush (-2), 2) := by decide +kernel
theorem dX11_lay_12 : decode cX11_lay 12 = .ok (.ireturn, 1) := by decide +kernel
theorem dX11_lay_13 : decode cX11_lay 13 = .ok (.iconst 0, 1) := by decide +kernel
theorem dX11_lay_14 : decode cX11_lay 14 = .ok (.istore_n 2, 1) := by decide +kernel
theorem dX11_lay_15 : decode cX11_lay 15 = .ok (.bipush (-9), 2) := by decide +kernel
theorem dX11_lay_17 : decode cX11_lay 17 = .ok (.istore_n 3, 1) := by decide +kernel
theorem dX11_lay_18 : decode cX11_lay 18 = .ok (.iconst 0, 1) := by decide +kernel
theorem dX11_lay_19 : decode cX11_lay 19 = .ok (.istore 4, 2) := by decide +kernel
theorem dX11_lay_21 : decode cX11_lay 21 = .ok (.iload 4, 2) := by decide +kernel
theorem dX11_lay_23 : decode cX11_lay 23 = .ok (.bipush 8, 2) := by decide +kernel
theorem dX11_lay_25 : decode cX11_lay 25 = .ok (.aload_n 0, 1) := by decide +kernel
theorem dX11_lay_26 : decode cX11_lay 26 = .ok (.getfield 107, 3) := by decide +kernel
theorem dX11_lay_29 : decode cX11_lay 29 = .ok (.imul, 1) := by decide +kernel
theorem dX11_lay_30 : decode cX11_lay 30 = .ok (.if_icmp .ge 157, 3) := by decide +kernel
theorem dX11_lay_33 : decode cX11_lay 33 = .ok (.iload 4, 2) := by decide +kernel
theorem dX11_lay_35 : decode cX11_lay 35 = .ok (.iconst 4, 1) := by decide +kernel
theorem dX11_lay_36 : decode cX11_lay 36 = .ok (.aload_n 0, 1) := by decide +kernel
theorem dX11_lay_37 : decode cX11_lay 37 = .ok (.getfield 107, 3) := by decide +kernel
theorem dX11_lay_40 : decode cX11_lay 40 = .ok (.imul, 1) := by decide +kernel
theorem dX11_lay_41 : decode cX11_lay 41 = .ok (.idiv, 1) := by decide +kernel
theorem dX11_lay_42 : decode cX11_lay 42 = .ok (.istore 5, 2) := by decide +kernel
theorem dX11_lay_44 : decode cX11_lay 44 = .ok (.iload 4, 2) := by decide +kernel
theorem dX11_lay_46 : decode cX11_lay 46 = .ok (.iconst 4, 1) := by decide +kernel
theorem dX11_lay_47 : decode cX11_lay 47 = .ok (.idiv, 1) := by decide +kernel
theorem dX11_lay_48 : decode cX11_lay 48 = .ok (.aload_n 0, 1) := by decide +kernel
theorem dX11_lay_49 : decode cX11_lay 49 = .ok (.getfield 107, 3) := by decide +kernel
theorem dX11_lay_52 : decode cX11_lay 52 = .ok (.irem, 1) := by decide +kernel
theorem dX11_lay_53 : decode cX11_lay 53 = .ok (.istore 6, 2) := by decide +kernel
theorem dX11_lay_55 : decode cX11_lay 55 = .ok (.aload_n 0, 1) := by decide +kernel
theorem dX11_lay_56 : decode cX11_lay 56 = .ok (.iload 6, 2) := by decide +kernel
theorem dX11_lay_58 : decode cX11_lay 58 = .ok (.iload 4, 2) := by decide +kernel
theorem dX11_lay_60 : decode cX11_lay 60 = .ok (.iconst 4, 1) := by decide +kernel
theorem dX11_lay_61 : decode cX11_lay 61 = .ok (.irem, 1) := by decide +kernel
theorem dX11_lay_62 : decode cX11_lay 62 = .ok (.iload 5, 2) := by decide +kernel
theorem dX11_lay_64 : decode cX11_lay 64 = .ok (.iconst 1, 1) := by decide +kernel
theorem dX11_lay_65 : decode cX11_lay 65 = .ok (.iadd, 1) := by decide +kernel
theorem dX11_lay_66 : decode cX11_lay 66 = .ok (.imul, 1) := by decide +kernel
theorem dX11_lay_67 : decode cX11_lay 67 = .ok (.invokevirtual 244, 3) := by decide +kernel
theorem dX11_lay_70 : decode cX11_lay 70 = .ok (.istore 7, 2) := by decide +kernel
theorem dX11_lay_72 : decode cX11_lay 72 = .ok (.iconst 1, 1) := by decide +kernel
theorem dX11_lay_73 : decode cX11_lay 73 = .ok (.istore 8, 2) := by decide +kernel
theorem dX11_lay_75 : decode cX11_lay 75 = .ok (.iconst 0, 1) := by decide +kernel
theorem dX11_lay_76 : decode cX11_lay 76 = .ok (.istore 9, 2) := by decide +kernel
theorem dX11_lay_78 : decode cX11_lay 78 = .ok (.iload 9, 2) := by decide +kernel
theorem dX11_lay_80 : decode cX11_lay 80 = .ok (.aload_n 0, 1) := by decide +kernel
theorem dX11_lay_81 : decode cX11_lay 81 = .ok (.getfield 241, 3) := by decide +kernel
theorem dX11_lay_84 : decode cX11_lay 84 = .ok (.if_icmp .ge 54, 3) := by decide +kernel
theorem dX11_lay_87 : decode cX11_lay 87 = .ok (.iload 8, 2) := by decide +kernel
theorem dX11_lay_89 : decode cX11_lay 89 = .ok (.ifCond .eq 40, 3) := by decide +kernel
theorem dX11_lay_92 : decode cX11_lay 92 = .ok (.iload 7, 2) := by decide +kernel
theorem dX11_lay_94 : decode cX11_lay 94 = .ok (.aload_n 0, 1) := by decide +kernel
theorem dX11_lay_95 : decode cX11_lay 95 = .ok (.getfield 46, 3) := by decide +kernel
theorem dX11_lay_98 : decode cX11_lay 98 = .ok (.iload 9, 2) := by decide +kernel
theorem dX11_lay_100 : decode cX11_lay 100 = .ok (.iaload, 1) := by decide +kernel
theorem dX11_lay_101 : decode cX11_lay 101 = .ok (.iconst 1, 1) := by decide +kernel
theorem dX11_lay_102 : decode cX11_lay 102 = .ok (.isub, 1) := by decide +kernel
theorem dX11_lay_103 : decode cX11_lay 103 = .ok (.invokestatic 75, 3) := by decide +kernel
theorem dX11_lay_106 : decode cX11_lay 106 = .ok (.aload_n 0, 1) := by decide +kernel
theorem dX11_lay_107 : decode cX11_lay 107 = .ok (.getfield 49, 3) := by decide +kernel
theorem dX11_lay_110 : decode cX11_lay 110 = .ok (.iload 9, 2) := by decide +kernel
theorem dX11_lay_112 : decode cX11_lay 112 = .ok (.iaload, 1) := by decide +kernel
theorem dX11_lay_113 : decode cX11_lay 113 = .ok (.iconst 1, 1) := by decide +kernel
theorem dX11_lay_114 : decode cX11_lay 114 = .ok (.if_icmp .ne 7, 3) := by decide +kernel
theorem dX11_lay_117 : decode cX11_lay 117 = .ok (.iconst 1, 1) := by decide +kernel
theorem dX11_lay_118 : decode cX11_lay 118 = .ok (.goto 4, 3) := by decide +kernel
theorem dX11_lay_121 : decode cX11_lay 121 = .ok (.iconst 0, 1) := by decide +kernel
theorem dX11_lay_122 : decode cX11_lay 122 = .ok (.if_icmp .ne 7, 3) := by decide +kernel
theorem dX11_lay_125 : decode cX11_lay 125 = .ok (.iconst 1, 1) := by decide +kernel
theorem dX11_lay_126 : decode cX11_lay 126 = .ok (.goto 4, 3) := by decide +kernel
theorem dX11_lay_129 : decode cX11_lay 129 = .ok (.iconst 0, 1) := by decide +kernel
theorem dX11_lay_130 : decode cX11_lay 130 = .ok (.istore 8, 2) := by decide +kernel
theorem dX11_lay_132 : decode cX11_lay 132 = .ok (.iinc 9 1, 3) := by decide +kernel
theorem dX11_lay_135 : decode cX11_lay 135 = .ok (.goto (-57), 3) := by decide +kernel
theorem dX11_lay_138 : decode cX11_lay 138 = .ok (.iload 8, 2) := by decide +kernel
theorem dX11_lay_140 : decode cX11_lay 140 = .ok (.ifCond .eq 26, 3) := by decide +kernel
theorem dX11_lay_143 : decode cX11_lay 143 = .ok (.iload_n 2, 1) := by decide +kernel
theorem dX11_lay_144 : decode cX11_lay 144 = .ok (.ifCond .ne 22, 3) := by decide +kernel
theorem dX11_lay_147 : decode cX11_lay 147 = .ok (.bipush 100, 2) := by decide +kernel
theorem dX11_lay_149 : decode cX11_lay 149 = .ok (.iload 5, 2) := by decide +kernel
theorem dX11_lay_151 : decode cX11_lay 151 = .ok (.imul, 1) := by decide +kernel
theorem dX11_lay_152 : decode cX11_lay 152 = .ok (.bipush 10, 2) := by decide +kernel
theorem dX11_lay_154 : decode cX11_lay 154 = .ok (.iload 6, 2) := by decide +kernel
theorem dX11_lay_156 : decode cX11_lay 156 = .ok (.imul, 1) := by decide +kernel
theorem dX11_lay_157 : decode cX11_lay 157 = .ok (.iadd, 1) := by decide +kernel
theorem dX11_lay_158 : decode cX11_lay 158 = .ok (.iload 4, 2) := by decide +kernel
theorem dX11_lay_160 : decode cX11_lay 160 = .ok (.iconst 4, 1) := by decide +kernel
theorem dX11_lay_161 : decode cX11_lay 161 = .ok (.irem, 1) := by decide +kernel
theorem dX11_lay_162 : decode cX11_lay 162 = .ok (.iadd, 1) := by decide +kernel
theorem dX11_lay_163 : decode cX11_lay 163 = .ok (.goto 4, 3) := by decide +kernel
theorem dX11_lay_166 : decode cX11_lay 166 = .ok (.iload_n 3, 1) := by decide +kernel
theorem dX11_lay_167 : decode cX11_lay 167 = .ok (.istore_n 3, 1) := by decide +kernel
theorem dX11_lay_168 : decode cX11_lay 168 = .ok (.iload_n 2, 1) := by decide +kernel
theorem dX11_lay_169 : decode cX11_lay 169 = .ok (.iload 8, 2) := by decide +kernel
theorem dX11_lay_171 : decode cX11_lay 171 = .ok (.ifCond .eq 7, 3) := by decide +kernel
theorem dX11_lay_174 : decode cX11_lay 174 = .ok (.iconst 1, 1) := by decide +kernel
theorem dX11_lay_175 : decode cX11_lay 175 = .ok (.goto 4, 3) := by decide +kernel
theorem dX11_lay_178 : decode cX11_lay 178 = .ok (.iconst 0, 1) := by decide +kernel
theorem dX11_lay_179 : decode cX11_lay 179 = .ok (.iadd, 1) := by decide +kernel
theorem dX11_lay_180 : decode cX11_lay 180 = .ok (.istore_n 2, 1) := by decide +kernel
theorem dX11_lay_181 : decode cX11_lay 181 = .ok (.iinc 4 1, 3) := by decide +kernel
theorem dX11_lay_184 : decode cX11_lay 184 = .ok (.goto (-163), 3) := by decide +kernel
theorem dX11_lay_187 : decode cX11_lay 187 = .ok (.iload_n 1, 1) := by decide +kernel
theorem dX11_lay_188 : decode cX11_lay 188 = .ok (.ifCond .ne 7, 3) := by decide +kernel
theorem dX11_lay_191 : decode cX11_lay 191 = .ok (.iload_n 2, 1) := by decide +kernel
theorem dX11_lay_192 : decode cX11_lay 192 = .ok (.goto 4, 3) := by decide +kernel
theorem dX11_lay_195 : decode cX11_lay 195 = .ok (.iload_n 3, 1) := by decide +kernel
theorem dX11_lay_196 : decode cX11_lay 196 = .ok (.ireturn, 1) := by decide +kernel
theorem dX11_factorial_0 : decode cX11_factorial 0 = .ok (.iconst 1, 1) := by decide +kernel
theorem dX11_factorial_1 : decode cX11_factorial 1 = .ok (.istore_n 1, 1) := by decide +kernel
theorem dX11_factorial_2 : decode cX11_factorial 2 = .ok (.iconst 2, 1) := by decide +kernel
theorem dX11_factorial_3 : decode cX11_factorial 3 = .ok (.istore_n 2, 1) := by decide +kernel
theorem dX11_factorial_4 : decode cX11_factorial 4 = .ok (.iload_n 2, 1) := by decide +kernel
theorem dX11_factorial_5 : decode cX11_factorial 5 = .ok (.iload_n 0, 1) := by decide +kernel
theorem dX11_factorial_6 : decode cX11_factorial 6 = .ok (.if_icmp .gt 13, 3) := by decide +kernel
theorem dX11_factorial_9 : decode cX11_factorial 9 = .ok (.iload_n 1, 1) := by decide +kernel
theorem dX11_factorial_10 : decode cX11_factorial 10 = .ok (.iload_n 2, 1) := by decide +kernel
theorem dX11_factorial_11 : decode cX11_factorial 11 = .ok (.imul, 1) := by decide +kernel
theorem dX11_factorial_12 : decode cX11_factorial 12 = .ok (.istore_n 1, 1) := by decide +kernel
theorem dX11_factorial_13 : decode cX11_factorial 13 = .ok (.iinc 2 1, 3) := by decide +kernel
theorem dX11_factorial_16 : decode cX11_factorial 16 = .ok (.goto (-12), 3) := by decide +kernel
theorem dX11_factorial_19 : decode cX11_factorial 19 = .ok (.iload_n 1, 1) := by decide +kernel
theorem dX11_factorial_20 : decode cX11_factorial 20 = .ok (.ireturn, 1) := by decide +kernel
theorem dX11_common_0 : decode cX11_common 0 = .ok (.iload_n 0, 1) := by decide +kernel
theorem dX11_common_1 : decode cX11_common 1 = .ok (.ifCond .ge 8, 3) := by decide +kernel
theorem dX11_common_4 : decode cX11_common 4 = .ok (.iload_n 0, 1) := by decide +kernel
theorem dX11_common_5 : decode cX11_common 5 = .ok (.ineg, 1) := by decide +kernel
theorem dX11_common_6 : decode cX11_common 6 = .ok (.goto 4, 3) := by decide +kernel
theorem dX11_common_9 : decode cX11_common 9 = .ok (.iload_n 0, 1) := by decide +kernel
theorem dX11_common_10 : decode cX11_common 10 = .ok (.istore_n 2, 1) := by decide +kernel
theorem dX11_common_11 : decode cX11_common 11 = .ok (.iload_n 1, 1) := by decide +kernel
theorem dX11_common_12 : decode cX11_common 12 = .ok (.istore_n 3, 1) := by decide +kernel
theorem dX11_common_13 : decode cX11_common 13 = .ok (.iload_n 3, 1) := by decide +kernel
theorem dX11_common_14 : decode cX11_common 14 = .ok (.ifCond .eq 16, 3) := by decide +kernel
theorem dX11_common_17 : decode cX11_common 17 = .ok (.iload_n 2, 1) := by decide +kernel
theorem dX11_common_18 : decode cX11_common 18 = .ok (.iload_n 3, 1) := by decide +kernel
theorem dX11_common_19 : decode cX11_common 19 = .ok (.irem, 1) := by decide +kernel
theorem dX11_common_20 : decode cX11_common 20 = .ok (.istore 4, 2) := by decide +kernel
theorem dX11_common_22 : decode cX11_common 22 = .ok (.iload_n 3, 1) := by decide +kernel
theorem dX11_common_23 : decode cX11_common 23 = .ok (.istore_n 2, 1) := by decide +kernel
theorem dX11_common_24 : decode cX11_common 24 = .ok (.iload 4, 2) := by decide +kernel
theorem dX11_common_26 : decode cX11_common 26 = .ok (.istore_n 3, 1) := by decide +kernel
theorem dX11_common_27 : decode cX11_common 27 = .ok (.goto (-14), 3) := by decide +kernel
theorem dX11_common_30 : decode cX11_common 30 = .ok (.iload_n 2, 1) := by decide +kernel
theorem dX11_common_31 : decode cX11_common 31 = .ok (.ireturn, 1) := by decide +kernel
theorem dX11_knownBy_0 : decode cX11_knownBy 0 = .ok (.iconst 0, 1) := by decide +kernel
theorem dX11_knownBy_1 : decode cX11_knownBy 1 = .ok (.istore_n 2, 1) := by decide +kernel
theorem dX11_knownBy_2 : decode cX11_knownBy 2 = .ok (.iconst 0, 1) := by decide +kernel
theorem dX11_knownBy_3 : decode cX11_knownBy 3 = .ok (.istore_n 3, 1) := by decide +kernel
theorem dX11_knownBy_4 : decode cX11_knownBy 4 = .ok (.iload_n 3, 1) := by decide +kernel
theorem dX11_knownBy_5 : decode cX11_knownBy 5 = .ok (.aload_n 0, 1) := by decide +kernel
theorem dX11_knownBy_6 : decode cX11_knownBy 6 = .ok (.getfield 110, 3) := by decide +kernel
theorem dX11_knownBy_9 : decode cX11_knownBy 9 = .ok (.if_icmp .ge 32, 3) := by decide +kernel
theorem dX11_knownBy_12 : decode cX11_knownBy 12 = .ok (.iload_n 2, 1) := by decide +kernel
theorem dX11_knownBy_13 : decode cX11_knownBy 13 = .ok (.iload_n 1, 1) := by decide +kernel
theorem dX11_knownBy_14 : decode cX11_knownBy 14 = .ok (.iload_n 3, 1) := by decide +kernel
theorem dX11_knownBy_15 : decode cX11_knownBy 15 = .ok (.invokestatic 75, 3) := by decide +kernel
theorem dX11_knownBy_18 : decode cX11_knownBy 18 = .ok (.ifCond .eq 14, 3) := by decide +kernel
theorem dX11_knownBy_21 : decode cX11_knownBy 21 = .ok (.aload_n 0, 1) := by decide +kernel
theorem dX11_knownBy_22 : decode cX11_knownBy 22 = .ok (.getfield 22, 3) := by decide +kernel
theorem dX11_knownBy_25 : decode cX11_knownBy 25 = .ok (.iconst 4, 1) := by decide +kernel
theorem dX11_knownBy_26 : decode cX11_knownBy 26 = .ok (.iload_n 3, 1) := by decide +kernel
theorem dX11_knownBy_27 : decode cX11_knownBy 27 = .ok (.iadd, 1) := by decide +kernel
theorem dX11_knownBy_28 : decode cX11_knownBy 28 = .ok (.iaload, 1) := by decide +kernel
theorem dX11_knownBy_29 : decode cX11_knownBy 29 = .ok (.goto 4, 3) := by decide +kernel
theorem dX11_knownBy_32 : decode cX11_knownBy 32 = .ok (.iconst 0, 1) := by decide +kernel
theorem dX11_knownBy_33 : decode cX11_knownBy 33 = .ok (.ior, 1) := by decide +kernel
theorem dX11_knownBy_34 : decode cX11_knownBy 34 = .ok (.istore_n 2, 1) := by decide +kernel
theorem dX11_knownBy_35 : decode cX11_knownBy 35 = .ok (.iinc 3 1, 3) := by decide +kernel
theorem dX11_knownBy_38 : decode cX11_knownBy 38 = .ok (.goto (-34), 3) := by decide +kernel
theorem dX11_knownBy_41 : decode cX11_knownBy 41 = .ok (.iload_n 2, 1) := by decide +kernel
theorem dX11_knownBy_42 : decode cX11_knownBy 42 = .ok (.ireturn, 1) := by decide +kernel
theorem dX11_share_0 : decode cX11_share 0 = .ok (.aload_n 0, 1) := by decide +kernel
theorem dX11_share_1 : decode cX11_share 1 = .ok (.iload_n 1, 1) := by decide +kernel
theorem dX11_share_2 : decode cX11_share 2 = .ok (.invokevirtual 136, 3) := by decide +kernel
theorem dX11_share_5 : decode cX11_share 5 = .ok (.ifCond .ne 5, 3) := by decide +kernel
theorem dX11_share_8 : decode cX11_share 8 = .ok (.iconst (-1), 1) := by decide +kernel
theorem dX11_share_9 : decode cX11_share 9 = .ok (.ireturn, 1) := by decide +kernel
theorem dX11_share_10 : decode cX11_share 10 = .ok (.iconst 0, 1) := by decide +kernel
theorem dX11_share_11 : decode cX11_share 11 = .ok (.istore_n 3, 1) := by decide +kernel
theorem dX11_share_12 : decode cX11_share 12 = .ok (.iconst 0, 1) := by decide +kernel
theorem dX11_share_13 : decode cX11_share 13 = .ok (.istore 4, 2) := by decide +kernel
theorem dX11_share_15 : decode cX11_share 15 = .ok (.iload 4, 2) := by decide +kernel
theorem dX11_share_17 : decode cX11_share 17 = .ok (.iconst 1, 1) := by decide +kernel
theorem dX11_share_18 : decode cX11_share 18 = .ok (.aload_n 0, 1) := by decide +kernel
theorem dX11_share_19 : decode cX11_share 19 = .ok (.getfield 110, 3) := by decide +kernel
theorem dX11_share_22 : decode cX11_share 22 = .ok (.ishl, 1) := by decide +kernel
theorem dX11_share_23 : decode cX11_share 23 = .ok (.if_icmp .ge 73, 3) := by decide +kernel
theorem dX11_share_26 : decode cX11_share 26 = .ok (.iload 4, 2) := by decide +kernel
theorem dX11_share_28 : decode cX11_share 28 = .ok (.iload_n 1, 1) := by decide +kernel
theorem dX11_share_29 : decode cX11_share 29 = .ok (.invokestatic 75, 3) := by decide +kernel
theorem dX11_share_32 : decode cX11_share 32 = .ok (.ifCond .ne 58, 3) := by decide +kernel
theorem dX11_share_35 : decode cX11_share 35 = .ok (.iload 4, 2) := by decide +kernel
theorem dX11_share_37 : decode cX11_share 37 = .ok (.invokestatic 173, 3) := by decide +kernel
theorem dX11_share_40 : decode cX11_share 40 = .ok (.invokestatic 247, 3) := by decide +kernel
theorem dX11_share_43 : decode cX11_share 43 = .ok (.aload_n 0, 1) := by decide +kernel
theorem dX11_share_44 : decode cX11_share 44 = .ok (.getfield 110, 3) := by decide +kernel
theorem dX11_share_47 : decode cX11_share 47 = .ok (.iconst 1, 1) := by decide +kernel
theorem dX11_share_48 : decode cX11_share 48 = .ok (.isub, 1) := by decide +kernel
theorem dX11_share_49 : decode cX11_share 49 = .ok (.iload 4, 2) := by decide +kernel
theorem dX11_share_51 : decode cX11_share 51 = .ok (.invokestatic 173, 3) := by decide +kernel
theorem dX11_share_54 : decode cX11_share 54 = .ok (.isub, 1) := by decide +kernel
theorem dX11_share_55 : decode cX11_share 55 = .ok (.invokestatic 247, 3) := by decide +kernel
theorem dX11_share_58 : decode cX11_share 58 = .ok (.imul, 1) := by decide +kernel
theorem dX11_share_59 : decode cX11_share 59 = .ok (.istore 5, 2) := by decide +kernel
theorem dX11_share_61 : decode cX11_share 61 = .ok (.iload_n 3, 1) := by decide +kernel
theorem dX11_share_62 : decode cX11_share 62 = .ok (.iload 5, 2) := by decide +kernel
theorem dX11_share_64 : decode cX11_share 64 = .ok (.aload_n 0, 1) := by decide +kernel
theorem dX11_share_65 : decode cX11_share 65 = .ok (.iload 4, 2) := by decide +kernel
theorem dX11_share_67 : decode cX11_share 67 = .ok (.iconst 1, 1) := by decide +kernel
theorem dX11_share_68 : decode cX11_share 68 = .ok (.iload_n 1, 1) := by decide +kernel
theorem dX11_share_69 : decode cX11_share 69 = .ok (.ishl, 1) := by decide +kernel
theorem dX11_share_70 : decode cX11_share 70 = .ok (.ior, 1) := by decide +kernel
theorem dX11_share_71 : decode cX11_share 71 = .ok (.invokevirtual 250, 3) := by decide +kernel
theorem dX11_share_74 : decode cX11_share 74 = .ok (.invokestatic 173, 3) := by decide +kernel
theorem dX11_share_77 : decode cX11_share 77 = .ok (.aload_n 0, 1) := by decide +kernel
theorem dX11_share_78 : decode cX11_share 78 = .ok (.iload 4, 2) := by decide +kernel
theorem dX11_share_80 : decode cX11_share 80 = .ok (.invokevirtual 250, 3) := by decide +kernel
theorem dX11_share_83 : decode cX11_share 83 = .ok (.invokestatic 173, 3) := by decide +kernel
theorem dX11_share_86 : decode cX11_share 86 = .ok (.isub, 1) := by decide +kernel
theorem dX11_share_87 : decode cX11_share 87 = .ok (.imul, 1) := by decide +kernel
theorem dX11_share_88 : decode cX11_share 88 = .ok (.iadd, 1) := by decide +kernel
theorem dX11_share_89 : decode cX11_share 89 = .ok (.istore_n 3, 1) := by decide +kernel
theorem dX11_share_90 : decode cX11_share 90 = .ok (.iinc 4 1, 3) := by decide +kernel
theorem dX11_share_93 : decode cX11_share 93 = .ok (.goto (-78), 3) := by decide +kernel
theorem dX11_share_96 : decode cX11_share 96 = .ok (.iload_n 3, 1) := by decide +kernel
theorem dX11_share_97 : decode cX11_share 97 = .ok (.aload_n 0, 1) := by decide +kernel
theorem dX11_share_98 : decode cX11_share 98 = .ok (.getfield 110, 3) := by decide +kernel
theorem dX11_share_101 : decode cX11_share 101 = .ok (.invokestatic 247, 3) := by decide +kernel
theorem dX11_share_104 : decode cX11_share 104 = .ok (.invokestatic 253, 3) := by decide +kernel
theorem dX11_share_107 : decode cX11_share 107 = .ok (.istore 4, 2) := by decide +kernel
theorem dX11_share_109 : decode cX11_share 109 = .ok (.iload_n 2, 1) := by decide +kernel
theorem dX11_share_110 : decode cX11_share 110 = .ok (.ifCond .eq 10, 3) := by decide +kernel
theorem dX11_share_113 : decode cX11_share 113 = .ok (.iload_n 3, 1) := by decide +kernel
theorem dX11_share_114 : decode cX11_share 114 = .ok (.iload 4, 2) := by decide +kernel
theorem dX11_share_116 : decode cX11_share 116 = .ok (.idiv, 1) := by decide +kernel
theorem dX11_share_117 : decode cX11_share 117 = .ok (.goto 13, 3) := by decide +kernel
theorem dX11_share_120 : decode cX11_share 120 = .ok (.aload_n 0, 1) := by decide +kernel
theorem dX11_share_121 : decode cX11_share 121 = .ok (.getfield 110, 3) := by decide +kernel
theorem dX11_share_124 : decode cX11_share 124 = .ok (.invokestatic 247, 3) := by decide +kernel
theorem dX11_share_127 : decode cX11_share 127 = .ok (.iload 4, 2) := by decide +kernel
theorem dX11_share_129 : decode cX11_share 129 = .ok (.idiv, 1) := by decide +kernel
theorem dX11_share_130 : decode cX11_share 130 = .ok (.ireturn, 1) := by decide +kernel
theorem dX11_goTo_0 : decode cX11_goTo 0 = .ok (.aload_n 0, 1) := by decide +kernel
theorem dX11_goTo_1 : decode cX11_goTo 1 = .ok (.iload_n 2, 1) := by decide +kernel
theorem dX11_goTo_2 : decode cX11_goTo 2 = .ok (.invokevirtual 149, 3) := by decide +kernel
theorem dX11_goTo_5 : decode cX11_goTo 5 = .ok (.ifCond .eq 30, 3) := by decide +kernel
theorem dX11_goTo_8 : decode cX11_goTo 8 = .ok (.aload_n 0, 1) := by decide +kernel
theorem dX11_goTo_9 : decode cX11_goTo 9 = .ok (.iconst 1, 1) := by decide +kernel
theorem dX11_goTo_10 : decode cX11_goTo 10 = .ok (.iload_n 1, 1) := by decide +kernel
theorem dX11_goTo_11 : decode cX11_goTo 11 = .ok (.aload_n 0, 1) := by decide +kernel
theorem dX11_goTo_12 : decode cX11_goTo 12 = .ok (.getfield 7, 3) := by decide +kernel
theorem dX11_goTo_15 : decode cX11_goTo 15 = .ok (.iload_n 2, 1) := by decide +kernel
theorem dX11_goTo_16 : decode cX11_goTo 16 = .ok (.iaload, 1) := by decide +kernel
theorem dX11_goTo_17 : decode cX11_goTo 17 = .ok (.invokevirtual 176, 3) := by decide +kernel
theorem dX11_goTo_20 : decode cX11_goTo 20 = .ok (.ifCond .eq 15, 3) := by decide +kernel
theorem dX11_goTo_23 : decode cX11_goTo 23 = .ok (.aload_n 0, 1) := by decide +kernel
theorem dX11_goTo_24 : decode cX11_goTo 24 = .ok (.iconst 1, 1) := by decide +kernel
theorem dX11_goTo_25 : decode cX11_goTo 25 = .ok (.iload_n 1, 1) := by decide +kernel
theorem dX11_goTo_26 : decode cX11_goTo 26 = .ok (.aload_n 0, 1) := by decide +kernel
theorem dX11_goTo_27 : decode cX11_goTo 27 = .ok (.getfield 7, 3) := by decide +kernel
theorem dX11_goTo_30 : decode cX11_goTo 30 = .ok (.iload_n 2, 1) := by decide +kernel
theorem dX11_goTo_31 : decode cX11_goTo 31 = .ok (.iaload, 1) := by decide +kernel
theorem dX11_goTo_32 : decode cX11_goTo 32 = .ok (.invokevirtual 180, 3) := by decide +kernel
theorem dX11_goTo_35 : decode cX11_goTo 35 = .ok (.return_, 1) := by decide +kernel
theorem dX11_gain_0 : decode cX11_gain 0 = .ok (.aload_n 0, 1) := by decide +kernel
theorem dX11_gain_1 : decode cX11_gain 1 = .ok (.invokevirtual 195, 3) := by decide +kernel
theorem dX11_gain_4 : decode cX11_gain 4 = .ok (.aload_n 0, 1) := by decide +kernel
theorem dX11_gain_5 : decode cX11_gain 5 = .ok (.iload_n 1, 1) := by decide +kernel
theorem dX11_gain_6 : decode cX11_gain 6 = .ok (.iload_n 3, 1) := by decide +kernel
theorem dX11_gain_7 : decode cX11_gain 7 = .ok (.invokevirtual 256, 3) := by decide +kernel
theorem dX11_gain_10 : decode cX11_gain 10 = .ok (.aload_n 0, 1) := by decide +kernel
theorem dX11_gain_11 : decode cX11_gain 11 = .ok (.iload_n 2, 1) := by decide +kernel
theorem dX11_gain_12 : decode cX11_gain 12 = .ok (.iload 4, 2) := by decide +kernel
theorem dX11_gain_14 : decode cX11_gain 14 = .ok (.invokevirtual 256, 3) := by decide +kernel
theorem dX11_gain_17 : decode cX11_gain 17 = .ok (.aload_n 0, 1) := by decide +kernel
theorem dX11_gain_18 : decode cX11_gain 18 = .ok (.iconst 1, 1) := by decide +kernel
theorem dX11_gain_19 : decode cX11_gain 19 = .ok (.invokevirtual 167, 3) := by decide +kernel
theorem dX11_gain_22 : decode cX11_gain 22 = .ok (.iconst 2, 1) := by decide +kernel
theorem dX11_gain_23 : decode cX11_gain 23 = .ok (.aload_n 0, 1) := by decide +kernel
theorem dX11_gain_24 : decode cX11_gain 24 = .ok (.getfield 22, 3) := by decide +kernel
theorem dX11_gain_27 : decode cX11_gain 27 = .ok (.bipush 18, 2) := by decide +kernel
theorem dX11_gain_29 : decode cX11_gain 29 = .ok (.iload 5, 2) := by decide +kernel
theorem dX11_gain_31 : decode cX11_gain 31 = .ok (.iadd, 1) := by decide +kernel
theorem dX11_gain_32 : decode cX11_gain 32 = .ok (.iaload, 1) := by decide +kernel
theorem dX11_gain_33 : decode cX11_gain 33 = .ok (.invokestatic 173, 3) := by decide +kernel
theorem dX11_gain_36 : decode cX11_gain 36 = .ok (.imul, 1) := by decide +kernel
theorem dX11_gain_37 : decode cX11_gain 37 = .ok (.aload_n 0, 1) := by decide +kernel
theorem dX11_gain_38 : decode cX11_gain 38 = .ok (.getfield 22, 3) := by decide +kernel
theorem dX11_gain_41 : decode cX11_gain 41 = .ok (.bipush 14, 2) := by decide +kernel
theorem dX11_gain_43 : decode cX11_gain 43 = .ok (.iload_n 1, 1) := by decide +kernel
theorem dX11_gain_44 : decode cX11_gain 44 = .ok (.iadd, 1) := by decide +kernel
theorem dX11_gain_45 : decode cX11_gain 45 = .ok (.iaload, 1) := by decide +kernel
theorem dX11_gain_46 : decode cX11_gain 46 = .ok (.aload_n 0, 1) := by decide +kernel
theorem dX11_gain_47 : decode cX11_gain 47 = .ok (.getfield 22, 3) := by decide +kernel
theorem dX11_gain_50 : decode cX11_gain 50 = .ok (.bipush 14, 2) := by decide +kernel
theorem dX11_gain_52 : decode cX11_gain 52 = .ok (.iload_n 2, 1) := by decide +kernel
theorem dX11_gain_53 : decode cX11_gain 53 = .ok (.iadd, 1) := by decide +kernel
theorem dX11_gain_54 : decode cX11_gain 54 = .ok (.iaload, 1) := by decide +kernel
theorem dX11_gain_55 : decode cX11_gain 55 = .ok (.if_icmp .ne 7, 3) := by decide +kernel
theorem dX11_gain_58 : decode cX11_gain 58 = .ok (.iconst 3, 1) := by decide +kernel
theorem dX11_gain_59 : decode cX11_gain 59 = .ok (.goto 4, 3) := by decide +kernel
theorem dX11_gain_62 : decode cX11_gain 62 = .ok (.iconst 0, 1) := by decide +kernel
theorem dX11_gain_63 : decode cX11_gain 63 = .ok (.isub, 1) := by decide +kernel
theorem dX11_gain_64 : decode cX11_gain 64 = .ok (.ireturn, 1) := by decide +kernel
theorem dX11_isRest_0 : decode cX11_isRest 0 = .ok (.iconst 1, 1) := by decide +kernel
theorem dX11_isRest_1 : decode cX11_isRest 1 = .ok (.istore 5, 2) := by decide +kernel
theorem dX11_isRest_3 : decode cX11_isRest 3 = .ok (.iconst 0, 1) := by decide +kernel
theorem dX11_isRest_4 : decode cX11_isRest 4 = .ok (.istore 6, 2) := by decide +kernel
theorem dX11_isRest_6 : decode cX11_isRest 6 = .ok (.iload 6, 2) := by decide +kernel
theorem dX11_isRest_8 : decode cX11_isRest 8 = .ok (.iconst 4, 1) := by decide +kernel
theorem dX11_isRest_9 : decode cX11_isRest 9 = .ok (.if_icmp .ge 68, 3) := by decide +kernel
theorem dX11_isRest_12 : decode cX11_isRest 12 = .ok (.iload 5, 2) := by decide +kernel
theorem dX11_isRest_14 : decode cX11_isRest 14 = .ok (.ifCond .eq 54, 3) := by decide +kernel
theorem dX11_isRest_17 : decode cX11_isRest 17 = .ok (.aload_n 0, 1) := by decide +kernel
theorem dX11_isRest_18 : decode cX11_isRest 18 = .ok (.iload_n 1, 1) := by decide +kernel
theorem dX11_isRest_19 : decode cX11_isRest 19 = .ok (.iload_n 2, 1) := by decide +kernel
theorem dX11_isRest_20 : decode cX11_isRest 20 = .ok (.iload 6, 2) := by decide +kernel
theorem dX11_isRest_22 : decode cX11_isRest 22 = .ok (.iload 4, 2) := by decide +kernel
theorem dX11_isRest_24 : decode cX11_isRest 24 = .ok (.iload_n 1, 1) := by decide +kernel
theorem dX11_isRest_25 : decode cX11_isRest 25 = .ok (.invokevirtual 259, 3) := by decide +kernel
theorem dX11_isRest_28 : decode cX11_isRest 28 = .ok (.aload_n 0, 1) := by decide +kernel
theorem dX11_isRest_29 : decode cX11_isRest 29 = .ok (.iload_n 1, 1) := by decide +kernel
theorem dX11_isRest_30 : decode cX11_isRest 30 = .ok (.iload_n 2, 1) := by decide +kernel
theorem dX11_isRest_31 : decode cX11_isRest 31 = .ok (.iload_n 3, 1) := by decide +kernel
theorem dX11_isRest_32 : decode cX11_isRest 32 = .ok (.iload 4, 2) := by decide +kernel
theorem dX11_isRest_34 : decode cX11_isRest 34 = .ok (.iload_n 1, 1) := by decide +kernel
theorem dX11_isRest_35 : decode cX11_isRest 35 = .ok (.invokevirtual 259, 3) := by decide +kernel
theorem dX11_isRest_38 : decode cX11_isRest 38 = .ok (.if_icmp .gt 30, 3) := by decide +kernel
theorem dX11_isRest_41 : decode cX11_isRest 41 = .ok (.aload_n 0, 1) := by decide +kernel
theorem dX11_isRest_42 : decode cX11_isRest 42 = .ok (.iload_n 1, 1) := by decide +kernel
theorem dX11_isRest_43 : decode cX11_isRest 43 = .ok (.iload_n 2, 1) := by decide +kernel
theorem dX11_isRest_44 : decode cX11_isRest 44 = .ok (.iload_n 3, 1) := by decide +kernel
theorem dX11_isRest_45 : decode cX11_isRest 45 = .ok (.iload 6, 2) := by decide +kernel
theorem dX11_isRest_47 : decode cX11_isRest 47 = .ok (.iload_n 2, 1) := by decide +kernel
theorem dX11_isRest_48 : decode cX11_isRest 48 = .ok (.invokevirtual 259, 3) := by decide +kernel
theorem dX11_isRest_51 : decode cX11_isRest 51 = .ok (.aload_n 0, 1) := by decide +kernel
theorem dX11_isRest_52 : decode cX11_isRest 52 = .ok (.iload_n 1, 1) := by decide +kernel
theorem dX11_isRest_53 : decode cX11_isRest 53 = .ok (.iload_n 2, 1) := by decide +kernel
theorem dX11_isRest_54 : decode cX11_isRest 54 = .ok (.iload_n 3, 1) := by decide +kernel
theorem dX11_isRest_55 : decode cX11_isRest 55 = .ok (.iload 4, 2) := by decide +kernel
theorem dX11_isRest_57 : decode cX11_isRest 57 = .ok (.iload_n 2, 1) := by decide +kernel
theorem dX11_isRest_58 : decode cX11_isRest 58 = .ok (.invokevirtual 259, 3) := by decide +kernel
theorem dX11_isRest_61 : decode cX11_isRest 61 = .ok (.if_icmp .gt 7, 3) := by decide +kernel
theorem dX11_isRest_64 : decode cX11_isRest 64 = .ok (.iconst 1, 1) := by decide +kernel
theorem dX11_isRest_65 : decode cX11_isRest 65 = .ok (.goto 4, 3) := by decide +kernel
theorem dX11_isRest_68 : decode cX11_isRest 68 = .ok (.iconst 0, 1) := by decide +kernel
theorem dX11_isRest_69 : decode cX11_isRest 69 = .ok (.istore 5, 2) := by decide +kernel
theorem dX11_isRest_71 : decode cX11_isRest 71 = .ok (.iinc 6 1, 3) := by decide +kernel
theorem dX11_isRest_74 : decode cX11_isRest 74 = .ok (.goto (-68), 3) := by decide +kernel
theorem dX11_isRest_77 : decode cX11_isRest 77 = .ok (.iload 5, 2) := by decide +kernel
theorem dX11_isRest_79 : decode cX11_isRest 79 = .ok (.ireturn, 1) := by decide +kernel
theorem dX11_rests_0 : decode cX11_rests 0 = .ok (.aload_n 0, 1) := by decide +kernel
theorem dX11_rests_1 : decode cX11_rests 1 = .ok (.iload_n 1, 1) := by decide +kernel
theorem dX11_rests_2 : decode cX11_rests 2 = .ok (.invokevirtual 136, 3) := by decide +kernel
theorem dX11_rests_5 : decode cX11_rests 5 = .ok (.ifCond .eq 11, 3) := by decide +kernel
theorem dX11_rests_8 : decode cX11_rests 8 = .ok (.aload_n 0, 1) := by decide +kernel
theorem dX11_rests_9 : decode cX11_rests 9 = .ok (.iload_n 2, 1) := by decide +kernel
theorem dX11_rests_10 : decode cX11_rests 10 = .ok (.invokevirtual 136, 3) := by decide +kernel
theorem dX11_rests_13 : decode cX11_rests 13 = .ok (.ifCond .ne 5, 3) := by decide +kernel
theorem dX11_rests_16 : decode cX11_rests 16 = .ok (.iconst (-1), 1) := by decide +kernel
theorem dX11_rests_17 : decode cX11_rests 17 = .ok (.ireturn, 1) := by decide +kernel
theorem dX11_rests_18 : decode cX11_rests 18 = .ok (.iload_n 1, 1) := by decide +kernel
theorem dX11_rests_19 : decode cX11_rests 19 = .ok (.iload_n 2, 1) := by decide +kernel
theorem dX11_rests_20 : decode cX11_rests 20 = .ok (.if_icmp .eq 13, 3) := by decide +kernel
theorem dX11_rests_23 : decode cX11_rests 23 = .ok (.iload_n 3, 1) := by decide +kernel
theorem dX11_rests_24 : decode cX11_rests 24 = .ok (.i2l, 1) := by decide +kernel
theorem dX11_rests_25 : decode cX11_rests 25 = .ok (.lconst 0, 1) := by decide +kernel
theorem dX11_rests_26 : decode cX11_rests 26 = .ok (.lconst 1, 1) := by decide +kernel
theorem dX11_rests_27 : decode cX11_rests 27 = .ok (.invokestatic 61, 3) := by decide +kernel
theorem dX11_rests_30 : decode cX11_rests 30 = .ok (.ifCond .ne 6, 3) := by decide +kernel
theorem dX11_rests_33 : decode cX11_rests 33 = .ok (.bipush (-2), 2) := by decide +kernel
theorem dX11_rests_35 : decode cX11_rests 35 = .ok (.ireturn, 1) := by decide +kernel
theorem dX11_rests_36 : decode cX11_rests 36 = .ok (.iconst 0, 1) := by decide +kernel
theorem dX11_rests_37 : decode cX11_rests 37 = .ok (.istore 4, 2) := by decide +kernel
theorem dX11_rests_39 : decode cX11_rests 39 = .ok (.bipush (-9), 2) := by decide +kernel
theorem dX11_rests_41 : decode cX11_rests 41 = .ok (.istore 5, 2) := by decide +kernel
theorem dX11_rests_43 : decode cX11_rests 43 = .ok (.iconst 0, 1) := by decide +kernel
theorem dX11_rests_44 : decode cX11_rests 44 = .ok (.istore 6, 2) := by decide +kernel
theorem dX11_rests_46 : decode cX11_rests 46 = .ok (.iload 6, 2) := by decide +kernel
theorem dX11_rests_48 : decode cX11_rests 48 = .ok (.bipush 16, 2) := by decide +kernel
theorem dX11_rests_50 : decode cX11_rests 50 = .ok (.if_icmp .ge 53, 3) := by decide +kernel
theorem dX11_rests_53 : decode cX11_rests 53 = .ok (.aload_n 0, 1) := by decide +kernel
theorem dX11_rests_54 : decode cX11_rests 54 = .ok (.iload_n 1, 1) := by decide +kernel
theorem dX11_rests_55 : decode cX11_rests 55 = .ok (.iload_n 2, 1) := by decide +kernel
theorem dX11_rests_56 : decode cX11_rests 56 = .ok (.iload 6, 2) := by decide +kernel
theorem dX11_rests_58 : decode cX11_rests 58 = .ok (.iconst 4, 1) := by decide +kernel
theorem dX11_rests_59 : decode cX11_rests 59 = .ok (.idiv, 1) := by decide +kernel
theorem dX11_rests_60 : decode cX11_rests 60 = .ok (.iload 6, 2) := by decide +kernel
theorem dX11_rests_62 : decode cX11_rests 62 = .ok (.iconst 4, 1) := by decide +kernel
theorem dX11_rests_63 : decode cX11_rests 63 = .ok (.irem, 1) := by decide +kernel
theorem dX11_rests_64 : decode cX11_rests 64 = .ok (.invokevirtual 263, 3) := by decide +kernel
theorem dX11_rests_67 : decode cX11_rests 67 = .ok (.ifCond .eq 30, 3) := by decide +kernel
theorem dX11_rests_70 : decode cX11_rests 70 = .ok (.iload 4, 2) := by decide +kernel
theorem dX11_rests_72 : decode cX11_rests 72 = .ok (.ifCond .ne 18, 3) := by decide +kernel
theorem dX11_rests_75 : decode cX11_rests 75 = .ok (.bipush 10, 2) := by decide +kernel
theorem dX11_rests_77 : decode cX11_rests 77 = .ok (.iload 6, 2) := by decide +kernel
theorem dX11_rests_79 : decode cX11_rests 79 = .ok (.iconst 4, 1) := by decide +kernel
theorem dX11_rests_80 : decode cX11_rests 80 = .ok (.idiv, 1) := by decide +kernel
theorem dX11_rests_81 : decode cX11_rests 81 = .ok (.imul, 1) := by decide +kernel
theorem dX11_rests_82 : decode cX11_rests 82 = .ok (.iload 6, 2) := by decide +kernel
theorem dX11_rests_84 : decode cX11_rests 84 = .ok (.iconst 4, 1) := by decide +kernel
theorem dX11_rests_85 : decode cX11_rests 85 = .ok (.irem, 1) := by decide +kernel
theorem dX11_rests_86 : decode cX11_rests 86 = .ok (.iadd, 1) := by decide +kernel
theorem dX11_rests_87 : decode cX11_rests 87 = .ok (.goto 5, 3) := by decide +kernel
theorem dX11_rests_90 : decode cX11_rests 90 = .ok (.iload 5, 2) := by decide +kernel
theorem dX11_rests_92 : decode cX11_rests 92 = .ok (.istore 5, 2) := by decide +kernel
theorem dX11_rests_94 : decode cX11_rests 94 = .ok (.iinc 4 1, 3) := by decide +kernel
theorem dX11_rests_97 : decode cX11_rests 97 = .ok (.iinc 6 1, 3) := by decide +kernel
theorem dX11_rests_100 : decode cX11_rests 100 = .ok (.goto (-54), 3) := by decide +kernel
theorem dX11_rests_103 : decode cX11_rests 103 = .ok (.iload_n 3, 1) := by decide +kernel
theorem dX11_rests_104 : decode cX11_rests 104 = .ok (.ifCond .ne 8, 3) := by decide +kernel
theorem dX11_rests_107 : decode cX11_rests 107 = .ok (.iload 4, 2) := by decide +kernel
theorem dX11_rests_109 : decode cX11_rests 109 = .ok (.goto 5, 3) := by decide +kernel
theorem dX11_rests_112 : decode cX11_rests 112 = .ok (.iload 5, 2) := by decide +kernel
theorem dX11_rests_114 : decode cX11_rests 114 = .ok (.ireturn, 1) := by decide +kernel
theorem dX11_cold_0 : decode cX11_cold 0 = .ok (.aload_n 0, 1) := by decide +kernel
theorem dX11_cold_1 : decode cX11_cold 1 = .ok (.iload_n 1, 1) := by decide +kernel
theorem dX11_cold_2 : decode cX11_cold 2 = .ok (.invokevirtual 136, 3) := by decide +kernel
theorem dX11_cold_5 : decode cX11_cold 5 = .ok (.ifCond .ne 5, 3) := by decide +kernel
theorem dX11_cold_8 : decode cX11_cold 8 = .ok (.iconst (-1), 1) := by decide +kernel
theorem dX11_cold_9 : decode cX11_cold 9 = .ok (.ireturn, 1) := by decide +kernel
theorem dX11_cold_10 : decode cX11_cold 10 = .ok (.iload_n 2, 1) := by decide +kernel
theorem dX11_cold_11 : decode cX11_cold 11 = .ok (.i2l, 1) := by decide +kernel
theorem dX11_cold_12 : decode cX11_cold 12 = .ok (.lconst 0, 1) := by decide +kernel
theorem dX11_cold_13 : decode cX11_cold 13 = .ok (.ldc2_w 228, 3) := by decide +kernel
theorem dX11_cold_16 : decode cX11_cold 16 = .ok (.invokestatic 61, 3) := by decide +kernel
theorem dX11_cold_19 : decode cX11_cold 19 = .ok (.ifCond .eq 15, 3) := by decide +kernel
theorem dX11_cold_22 : decode cX11_cold 22 = .ok (.iload_n 3, 1) := by decide +kernel
theorem dX11_cold_23 : decode cX11_cold 23 = .ok (.i2l, 1) := by decide +kernel
theorem dX11_cold_24 : decode cX11_cold 24 = .ok (.lconst 0, 1) := by decide +kernel
theorem dX11_cold_25 : decode cX11_cold 25 = .ok (.ldc2_w 266, 3) := by decide +kernel
theorem dX11_cold_28 : decode cX11_cold 28 = .ok (.invokestatic 61, 3) := by decide +kernel
theorem dX11_cold_31 : decode cX11_cold 31 = .ok (.ifCond .ne 6, 3) := by decide +kernel
theorem dX11_cold_34 : decode cX11_cold 34 = .ok (.bipush (-2), 2) := by decide +kernel
theorem dX11_cold_36 : decode cX11_cold 36 = .ok (.ireturn, 1) := by decide +kernel
theorem dX11_cold_37 : decode cX11_cold 37 = .ok (.iconst 0, 1) := by decide +kernel
theorem dX11_cold_38 : decode cX11_cold 38 = .ok (.istore 5, 2) := by decide +kernel
theorem dX11_cold_40 : decode cX11_cold 40 = .ok (.iconst 0, 1) := by decide +kernel
theorem dX11_cold_41 : decode cX11_cold 41 = .ok (.istore 6, 2) := by decide +kernel
theorem dX11_cold_43 : decode cX11_cold 43 = .ok (.iconst 0, 1) := by decide +kernel
theorem dX11_cold_44 : decode cX11_cold 44 = .ok (.istore 7, 2) := by decide +kernel
theorem dX11_cold_46 : decode cX11_cold 46 = .ok (.iload 7, 2) := by decide +kernel
theorem dX11_cold_48 : decode cX11_cold 48 = .ok (.iconst 1, 1) := by decide +kernel
theorem dX11_cold_49 : decode cX11_cold 49 = .ok (.aload_n 0, 1) := by decide +kernel
theorem dX11_cold_50 : decode cX11_cold 50 = .ok (.getfield 107, 3) := by decide +kernel
theorem dX11_cold_53 : decode cX11_cold 53 = .ok (.ishl, 1) := by decide +kernel
theorem dX11_cold_54 : decode cX11_cold 54 = .ok (.if_icmp .ge 107, 3) := by decide +kernel
theorem dX11_cold_57 : decode cX11_cold 57 = .ok (.iconst 1, 1) := by decide +kernel
theorem dX11_cold_58 : decode cX11_cold 58 = .ok (.istore 8, 2) := by decide +kernel
theorem dX11_cold_60 : decode cX11_cold 60 = .ok (.iconst 0, 1) := by decide +kernel
theorem dX11_cold_61 : decode cX11_cold 61 = .ok (.istore 9, 2) := by decide +kernel
theorem dX11_cold_63 : decode cX11_cold 63 = .ok (.iload 9, 2) := by decide +kernel
theorem dX11_cold_65 : decode cX11_cold 65 = .ok (.aload_n 0, 1) := by decide +kernel
theorem dX11_cold_66 : decode cX11_cold 66 = .ok (.getfield 107, 3) := by decide +kernel
theorem dX11_cold_69 : decode cX11_cold 69 = .ok (.if_icmp .ge 32, 3) := by decide +kernel
theorem dX11_cold_72 : decode cX11_cold 72 = .ok (.iload 8, 2) := by decide +kernel
theorem dX11_cold_74 : decode cX11_cold 74 = .ok (.iload 7, 2) := by decide +kernel
theorem dX11_cold_76 : decode cX11_cold 76 = .ok (.iload 9, 2) := by decide +kernel
theorem dX11_cold_78 : decode cX11_cold 78 = .ok (.invokestatic 75, 3) := by decide +kernel
theorem dX11_cold_81 : decode cX11_cold 81 = .ok (.ifCond .eq 7, 3) := by decide +kernel
theorem dX11_cold_84 : decode cX11_cold 84 = .ok (.iload_n 3, 1) := by decide +kernel
theorem dX11_cold_85 : decode cX11_cold 85 = .ok (.goto 7, 3) := by decide +kernel
theorem dX11_cold_88 : decode cX11_cold 88 = .ok (.bipush 10, 2) := by decide +kernel
theorem dX11_cold_90 : decode cX11_cold 90 = .ok (.iload_n 3, 1) := by decide +kernel
theorem dX11_cold_91 : decode cX11_cold 91 = .ok (.isub, 1) := by decide +kernel
theorem dX11_cold_92 : decode cX11_cold 92 = .ok (.imul, 1) := by decide +kernel
theorem dX11_cold_93 : decode cX11_cold 93 = .ok (.istore 8, 2) := by decide +kernel
theorem dX11_cold_95 : decode cX11_cold 95 = .ok (.iinc 9 1, 3) := by decide +kernel
theorem dX11_cold_98 : decode cX11_cold 98 = .ok (.goto (-35), 3) := by decide +kernel
theorem dX11_cold_101 : decode cX11_cold 101 = .ok (.aload_n 0, 1) := by decide +kernel
theorem dX11_cold_102 : decode cX11_cold 102 = .ok (.invokevirtual 195, 3) := by decide +kernel
theorem dX11_cold_105 : decode cX11_cold 105 = .ok (.aload_n 0, 1) := by decide +kernel
theorem dX11_cold_106 : decode cX11_cold 106 = .ok (.iload 7, 2) := by decide +kernel
theorem dX11_cold_108 : decode cX11_cold 108 = .ok (.putfield 125, 3) := by decide +kernel
theorem dX11_cold_111 : decode cX11_cold 111 = .ok (.aload_n 0, 1) := by decide +kernel
theorem dX11_cold_112 : decode cX11_cold 112 = .ok (.iconst 1, 1) := by decide +kernel
theorem dX11_cold_113 : decode cX11_cold 113 = .ok (.invokevirtual 167, 3) := by decide +kernel
theorem dX11_cold_116 : decode cX11_cold 116 = .ok (.aload_n 0, 1) := by decide +kernel
theorem dX11_cold_117 : decode cX11_cold 117 = .ok (.iconst 0, 1) := by decide +kernel
theorem dX11_cold_118 : decode cX11_cold 118 = .ok (.putfield 125, 3) := by decide +kernel
theorem dX11_cold_121 : decode cX11_cold 121 = .ok (.iload 6, 2) := by decide +kernel
theorem dX11_cold_123 : decode cX11_cold 123 = .ok (.iload 8, 2) := by decide +kernel
theorem dX11_cold_125 : decode cX11_cold 125 = .ok (.iadd, 1) := by decide +kernel
theorem dX11_cold_126 : decode cX11_cold 126 = .ok (.istore 6, 2) := by decide +kernel
theorem dX11_cold_128 : decode cX11_cold 128 = .ok (.iload 5, 2) := by decide +kernel
theorem dX11_cold_130 : decode cX11_cold 130 = .ok (.aload_n 0, 1) := by decide +kernel
theorem dX11_cold_131 : decode cX11_cold 131 = .ok (.getfield 22, 3) := by decide +kernel
theorem dX11_cold_134 : decode cX11_cold 134 = .ok (.bipush 18, 2) := by decide +kernel
theorem dX11_cold_136 : decode cX11_cold 136 = .ok (.iload_n 1, 1) := by decide +kernel
theorem dX11_cold_137 : decode cX11_cold 137 = .ok (.iadd, 1) := by decide +kernel
theorem dX11_cold_138 : decode cX11_cold 138 = .ok (.iaload, 1) := by decide +kernel
theorem dX11_cold_139 : decode cX11_cold 139 = .ok (.invokestatic 173, 3) := by decide +kernel
theorem dX11_cold_142 : decode cX11_cold 142 = .ok (.iload_n 2, 1) := by decide +kernel
theorem dX11_cold_143 : decode cX11_cold 143 = .ok (.if_icmp .lt 8, 3) := by decide +kernel
theorem dX11_cold_146 : decode cX11_cold 146 = .ok (.iload 8, 2) := by decide +kernel
theorem dX11_cold_148 : decode cX11_cold 148 = .ok (.goto 4, 3) := by decide +kernel
theorem dX11_cold_151 : decode cX11_cold 151 = .ok (.iconst 0, 1) := by decide +kernel
theorem dX11_cold_152 : decode cX11_cold 152 = .ok (.iadd, 1) := by decide +kernel
theorem dX11_cold_153 : decode cX11_cold 153 = .ok (.istore 5, 2) := by decide +kernel
theorem dX11_cold_155 : decode cX11_cold 155 = .ok (.iinc 7 1, 3) := by decide +kernel
theorem dX11_cold_158 : decode cX11_cold 158 = .ok (.goto (-112), 3) := by decide +kernel
theorem dX11_cold_161 : decode cX11_cold 161 = .ok (.iload 5, 2) := by decide +kernel
theorem dX11_cold_163 : decode cX11_cold 163 = .ok (.iload 6, 2) := by decide +kernel
theorem dX11_cold_165 : decode cX11_cold 165 = .ok (.invokestatic 253, 3) := by decide +kernel
theorem dX11_cold_168 : decode cX11_cold 168 = .ok (.istore 7, 2) := by decide +kernel
theorem dX11_cold_170 : decode cX11_cold 170 = .ok (.iload 4, 2) := by decide +kernel
theorem dX11_cold_172 : decode cX11_cold 172 = .ok (.ifCond .eq 11, 3) := by decide +kernel
theorem dX11_cold_175 : decode cX11_cold 175 = .ok (.iload 5, 2) := by decide +kernel
theorem dX11_cold_177 : decode cX11_cold 177 = .ok (.iload 7, 2) := by decide +kernel
theorem dX11_cold_179 : decode cX11_cold 179 = .ok (.idiv, 1) := by decide +kernel
theorem dX11_cold_180 : decode cX11_cold 180 = .ok (.goto 8, 3) := by decide +kernel
theorem dX11_cold_183 : decode cX11_cold 183 = .ok (.iload 6, 2) := by decide +kernel
theorem dX11_cold_185 : decode cX11_cold 185 = .ok (.iload 7, 2) := by decide +kernel
theorem dX11_cold_187 : decode cX11_cold 187 = .ok (.idiv, 1) := by decide +kernel
theorem dX11_cold_188 : decode cX11_cold 188 = .ok (.ireturn, 1) := by decide +kernel
theorem dX11_seed_0 : decode cX11_seed 0 = .ok (.aload_n 0, 1) := by decide +kernel
theorem dX11_seed_1 : decode cX11_seed 1 = .ok (.getfield 268, 3) := by decide +kernel
theorem dX11_seed_4 : decode cX11_seed 4 = .ok (.lstore_n 3, 1) := by decide +kernel
theorem dX11_seed_5 : decode cX11_seed 5 = .ok (.aload_n 0, 1) := by decide +kernel
theorem dX11_seed_6 : decode cX11_seed 6 = .ok (.lload_n 1, 1) := by decide +kernel
theorem dX11_seed_7 : decode cX11_seed 7 = .ok (.putfield 268, 3) := by decide +kernel
theorem dX11_seed_10 : decode cX11_seed 10 = .ok (.lload_n 3, 1) := by decide +kernel
theorem dX11_seed_11 : decode cX11_seed 11 = .ok (.lreturn, 1) := by decide +kernel
theorem dX11_knownOfAll_0 : decode cX11_knownOfAll 0 = .ok (.iconst 0, 1) := by decide +kernel
theorem dX11_knownOfAll_1 : decode cX11_knownOfAll 1 = .ok (.istore_n 1, 1) := by decide +kernel
theorem dX11_knownOfAll_2 : decode cX11_knownOfAll 2 = .ok (.iconst 0, 1) := by decide +kernel
theorem dX11_knownOfAll_3 : decode cX11_knownOfAll 3 = .ok (.istore_n 2, 1) := by decide +kernel
theorem dX11_knownOfAll_4 : decode cX11_knownOfAll 4 = .ok (.iload_n 2, 1) := by decide +kernel
theorem dX11_knownOfAll_5 : decode cX11_knownOfAll 5 = .ok (.aload_n 0, 1) := by decide +kernel
theorem dX11_knownOfAll_6 : decode cX11_knownOfAll 6 = .ok (.getfield 110, 3) := by decide +kernel
theorem dX11_knownOfAll_9 : decode cX11_knownOfAll 9 = .ok (.if_icmp .ge 24, 3) := by decide +kernel
theorem dX11_knownOfAll_12 : decode cX11_knownOfAll 12 = .ok (.iload_n 1, 1) := by decide +kernel
theorem dX11_knownOfAll_13 : decode cX11_knownOfAll 13 = .ok (.aload_n 0, 1) := by decide +kernel
theorem dX11_knownOfAll_14 : decode cX11_knownOfAll 14 = .ok (.getfield 22, 3) := by decide +kernel
theorem dX11_knownOfAll_17 : decode cX11_knownOfAll 17 = .ok (.bipush 18, 2) := by decide +kernel
theorem dX11_knownOfAll_19 : decode cX11_knownOfAll 19 = .ok (.iload_n 2, 1) := by decide +kernel
theorem dX11_knownOfAll_20 : decode cX11_knownOfAll 20 = .ok (.iadd, 1) := by decide +kernel
theorem dX11_knownOfAll_21 : decode cX11_knownOfAll 21 = .ok (.iaload, 1) := by decide +kernel
theorem dX11_knownOfAll_22 : decode cX11_knownOfAll 22 = .ok (.invokestatic 173, 3) := by decide +kernel
theorem dX11_knownOfAll_25 : decode cX11_knownOfAll 25 = .ok (.iadd, 1) := by decide +kernel
theorem dX11_knownOfAll_26 : decode cX11_knownOfAll 26 = .ok (.istore_n 1, 1) := by decide +kernel
theorem dX11_knownOfAll_27 : decode cX11_knownOfAll 27 = .ok (.iinc 2 1, 3) := by decide +kernel
theorem dX11_knownOfAll_30 : decode cX11_knownOfAll 30 = .ok (.goto (-26), 3) := by decide +kernel
theorem dX11_knownOfAll_33 : decode cX11_knownOfAll 33 = .ok (.iload_n 1, 1) := by decide +kernel
theorem dX11_knownOfAll_34 : decode cX11_knownOfAll 34 = .ok (.ireturn, 1) := by decide +kernel
theorem dX11_years_0 : decode cX11_years 0 = .ok (.iload_n 1, 1) := by decide +kernel
theorem dX11_years_1 : decode cX11_years 1 = .ok (.i2l, 1) := by decide +kernel
theorem dX11_years_2 : decode cX11_years 2 = .ok (.lconst 1, 1) := by decide +kernel
theorem dX11_years_3 : decode cX11_years 3 = .ok (.ldc2_w 272, 3) := by decide +kernel
theorem dX11_years_6 : decode cX11_years 6 = .ok (.invokestatic 61, 3) := by decide +kernel
theorem dX11_years_9 : decode cX11_years 9 = .ok (.ifCond .ne 6, 3) := by decide +kernel
theorem dX11_years_12 : decode cX11_years 12 = .ok (.bipush (-2), 2) := by decide +kernel
theorem dX11_years_14 : decode cX11_years 14 = .ok (.ireturn, 1) := by decide +kernel
theorem dX11_years_15 : decode cX11_years 15 = .ok (.aload_n 0, 1) := by decide +kernel
theorem dX11_years_16 : decode cX11_years 16 = .ok (.invokevirtual 195, 3) := by decide +kernel
theorem dX11_years_19 : decode cX11_years 19 = .ok (.iconst 0, 1) := by decide +kernel
theorem dX11_years_20 : decode cX11_years 20 = .ok (.istore_n 2, 1) := by decide +kernel
theorem dX11_years_21 : decode cX11_years 21 = .ok (.iconst 0, 1) := by decide +kernel
theorem dX11_years_22 : decode cX11_years 22 = .ok (.istore_n 3, 1) := by decide +kernel
theorem dX11_years_23 : decode cX11_years 23 = .ok (.iload_n 3, 1) := by decide +kernel
theorem dX11_years_24 : decode cX11_years 24 = .ok (.iload_n 1, 1) := by decide +kernel
theorem dX11_years_25 : decode cX11_years 25 = .ok (.if_icmp .ge 127, 3) := by decide +kernel
theorem dX11_years_28 : decode cX11_years 28 = .ok (.aload_n 0, 1) := by decide +kernel
theorem dX11_years_29 : decode cX11_years 29 = .ok (.aload_n 0, 1) := by decide +kernel
theorem dX11_years_30 : decode cX11_years 30 = .ok (.getfield 268, 3) := by decide +kernel
theorem dX11_years_33 : decode cX11_years 33 = .ok (.ldc2_w 274, 3) := by decide +kernel
theorem dX11_years_36 : decode cX11_years 36 = .ok (.lmul, 1) := by decide +kernel
theorem dX11_years_37 : decode cX11_years 37 = .ok (.ldc2_w 276, 3) := by decide +kernel
theorem dX11_years_40 : decode cX11_years 40 = .ok (.ladd, 1) := by decide +kernel
theorem dX11_years_41 : decode cX11_years 41 = .ok (.putfield 268, 3) := by decide +kernel
theorem dX11_years_44 : decode cX11_years 44 = .ok (.aload_n 0, 1) := by decide +kernel
theorem dX11_years_45 : decode cX11_years 45 = .ok (.getfield 268, 3) := by decide +kernel
theorem dX11_years_48 : decode cX11_years 48 = .ok (.bipush 33, 2) := by decide +kernel
theorem dX11_years_50 : decode cX11_years 50 = .ok (.lushr, 1) := by decide +kernel
theorem dX11_years_51 : decode cX11_years 51 = .ok (.ldc2_w 278, 3) := by decide +kernel
theorem dX11_years_54 : decode cX11_years 54 = .ok (.lrem, 1) := by decide +kernel
theorem dX11_years_55 : decode cX11_years 55 = .ok (.l2i, 1) := by decide +kernel
theorem dX11_years_56 : decode cX11_years 56 = .ok (.istore 4, 2) := by decide +kernel
theorem dX11_years_58 : decode cX11_years 58 = .ok (.iload 4, 2) := by decide +kernel
theorem dX11_years_60 : decode cX11_years 60 = .ok (.bipush 47, 2) := by decide +kernel
theorem dX11_years_62 : decode cX11_years 62 = .ok (.if_icmp .le 11, 3) := by decide +kernel
theorem dX11_years_65 : decode cX11_years 65 = .ok (.aload_n 0, 1) := by decide +kernel
theorem dX11_years_66 : decode cX11_years 66 = .ok (.iconst 1, 1) := by decide +kernel
theorem dX11_years_67 : decode cX11_years 67 = .ok (.invokevirtual 167, 3) := by decide +kernel
theorem dX11_years_70 : decode cX11_years 70 = .ok (.goto 69, 3) := by decide +kernel
theorem dX11_years_73 : decode cX11_years 73 = .ok (.iload 4, 2) := by decide +kernel
theorem dX11_years_75 : decode cX11_years 75 = .ok (.bipush 43, 2) := by decide +kernel
theorem dX11_years_77 : decode cX11_years 77 = .ok (.if_icmp .le 24, 3) := by decide +kernel
theorem dX11_years_80 : decode cX11_years 80 = .ok (.aload_n 0, 1) := by decide +kernel
theorem dX11_years_81 : decode cX11_years 81 = .ok (.iconst 2, 1) := by decide +kernel
theorem dX11_years_82 : decode cX11_years 82 = .ok (.iload 4, 2) := by decide +kernel
theorem dX11_years_84 : decode cX11_years 84 = .ok (.bipush 44, 2) := by decide +kernel
theorem dX11_years_86 : decode cX11_years 86 = .ok (.isub, 1) := by decide +kernel
theorem dX11_years_87 : decode cX11_years 87 = .ok (.iload 4, 2) := by decide +kernel
theorem dX11_years_89 : decode cX11_years 89 = .ok (.bipush 43, 2) := by decide +kernel
theorem dX11_years_91 : decode cX11_years 91 = .ok (.isub, 1) := by decide +kernel
theorem dX11_years_92 : decode cX11_years 92 = .ok (.iconst 4, 1) := by decide +kernel
theorem dX11_years_93 : decode cX11_years 93 = .ok (.irem, 1) := by decide +kernel
theorem dX11_years_94 : decode cX11_years 94 = .ok (.invokevirtual 238, 3) := by decide +kernel
theorem dX11_years_97 : decode cX11_years 97 = .ok (.pop, 1) := by decide +kernel
theorem dX11_years_98 : decode cX11_years 98 = .ok (.goto 41, 3) := by decide +kernel
theorem dX11_years_101 : decode cX11_years 101 = .ok (.iload 4, 2) := by decide +kernel
theorem dX11_years_103 : decode cX11_years 103 = .ok (.bipush 39, 2) := by decide +kernel
theorem dX11_years_105 : decode cX11_years 105 = .ok (.if_icmp .le 18, 3) := by decide +kernel
theorem dX11_years_108 : decode cX11_years 108 = .ok (.aload_n 0, 1) := by decide +kernel
theorem dX11_years_109 : decode cX11_years 109 = .ok (.iconst 3, 1) := by decide +kernel
theorem dX11_years_110 : decode cX11_years 110 = .ok (.iconst 0, 1) := by decide +kernel
theorem dX11_years_111 : decode cX11_years 111 = .ok (.iload 4, 2) := by decide +kernel
theorem dX11_years_113 : decode cX11_years 113 = .ok (.bipush 40, 2) := by decide +kernel
theorem dX11_years_115 : decode cX11_years 115 = .ok (.isub, 1) := by decide +kernel
theorem dX11_years_116 : decode cX11_years 116 = .ok (.invokevirtual 238, 3) := by decide +kernel
theorem dX11_years_119 : decode cX11_years 119 = .ok (.pop, 1) := by decide +kernel
theorem dX11_years_120 : decode cX11_years 120 = .ok (.goto 19, 3) := by decide +kernel
theorem dX11_years_123 : decode cX11_years 123 = .ok (.aload_n 0, 1) := by decide +kernel
theorem dX11_years_124 : decode cX11_years 124 = .ok (.iconst 1, 1) := by decide +kernel
theorem dX11_years_125 : decode cX11_years 125 = .ok (.iload 4, 2) := by decide +kernel
theorem dX11_years_127 : decode cX11_years 127 = .ok (.bipush 10, 2) := by decide +kernel
theorem dX11_years_129 : decode cX11_years 129 = .ok (.idiv, 1) := by decide +kernel
theorem dX11_years_130 : decode cX11_years 130 = .ok (.iload 4, 2) := by decide +kernel
theorem dX11_years_132 : decode cX11_years 132 = .ok (.bipush 10, 2) := by decide +kernel
theorem dX11_years_134 : decode cX11_years 134 = .ok (.irem, 1) := by decide +kernel
theorem dX11_years_135 : decode cX11_years 135 = .ok (.invokevirtual 238, 3) := by decide +kernel
theorem dX11_years_138 : decode cX11_years 138 = .ok (.pop, 1) := by decide +kernel
theorem dX11_years_139 : decode cX11_years 139 = .ok (.iload_n 2, 1) := by decide +kernel
theorem dX11_years_140 : decode cX11_years 140 = .ok (.aload_n 0, 1) := by decide +kernel
theorem dX11_years_141 : decode cX11_years 141 = .ok (.invokevirtual 280, 3) := by decide +kernel
theorem dX11_years_144 : decode cX11_years 144 = .ok (.iadd, 1) := by decide +kernel
theorem dX11_years_145 : decode cX11_years 145 = .ok (.istore_n 2, 1) := by decide +kernel
theorem dX11_years_146 : decode cX11_years 146 = .ok (.iinc 3 1, 3) := by decide +kernel
theorem dX11_years_149 : decode cX11_years 149 = .ok (.goto (-126), 3) := by decide +kernel
theorem dX11_years_152 : decode cX11_years 152 = .ok (.iload_n 2, 1) := by decide +kernel
theorem dX11_years_153 : decode cX11_years 153 = .ok (.ireturn, 1) := by decide +kernel
theorem dX11_keep_0 : decode cX11_keep 0 = .ok (.iload_n 1, 1) := by decide +kernel
theorem dX11_keep_1 : decode cX11_keep 1 = .ok (.i2l, 1) := by decide +kernel
theorem dX11_keep_2 : decode cX11_keep 2 = .ok (.lconst 0, 1) := by decide +kernel
theorem dX11_keep_3 : decode cX11_keep 3 = .ok (.lconst 1, 1) := by decide +kernel
theorem dX11_keep_4 : decode cX11_keep 4 = .ok (.invokestatic 61, 3) := by decide +kernel
theorem dX11_keep_7 : decode cX11_keep 7 = .ok (.ifCond .ne 5, 3) := by decide +kernel
theorem dX11_keep_10 : decode cX11_keep 10 = .ok (.iconst (-1), 1) := by decide +kernel
theorem dX11_keep_11 : decode cX11_keep 11 = .ok (.ireturn, 1) := by decide +kernel
theorem dX11_keep_12 : decode cX11_keep 12 = .ok (.aload_n 0, 1) := by decide +kernel
theorem dX11_keep_13 : decode cX11_keep 13 = .ok (.getfield 52, 3) := by decide +kernel
theorem dX11_keep_16 : decode cX11_keep 16 = .ok (.iload_n 1, 1) := by decide +kernel
theorem dX11_keep_17 : decode cX11_keep 17 = .ok (.iconst 1, 1) := by decide +kernel
theorem dX11_keep_18 : decode cX11_keep 18 = .ok (.bastore, 1) := by decide +kernel
theorem dX11_keep_19 : decode cX11_keep 19 = .ok (.iconst 0, 1) := by decide +kernel
theorem dX11_keep_20 : decode cX11_keep 20 = .ok (.istore_n 2, 1) := by decide +kernel
theorem dX11_keep_21 : decode cX11_keep 21 = .ok (.iload_n 2, 1) := by decide +kernel
theorem dX11_keep_22 : decode cX11_keep 22 = .ok (.bipush 14, 2) := by decide +kernel
theorem dX11_keep_24 : decode cX11_keep 24 = .ok (.if_icmp .ge 26, 3) := by decide +kernel
theorem dX11_keep_27 : decode cX11_keep 27 = .ok (.aload_n 0, 1) := by decide +kernel
theorem dX11_keep_28 : decode cX11_keep 28 = .ok (.getfield 56, 3) := by decide +kernel
theorem dX11_keep_31 : decode cX11_keep 31 = .ok (.bipush 14, 2) := by decide +kernel
theorem dX11_keep_33 : decode cX11_keep 33 = .ok (.iload_n 1, 1) := by decide +kernel
theorem dX11_keep_34 : decode cX11_keep 34 = .ok (.imul, 1) := by decide +kernel
theorem dX11_keep_35 : decode cX11_keep 35 = .ok (.iload_n 2, 1) := by decide +kernel
theorem dX11_keep_36 : decode cX11_keep 36 = .ok (.iadd, 1) := by decide +kernel
theorem dX11_keep_37 : decode cX11_keep 37 = .ok (.aload_n 0, 1) := by decide +kernel
theorem dX11_keep_38 : decode cX11_keep 38 = .ok (.getfield 22, 3) := by decide +kernel
theorem dX11_keep_41 : decode cX11_keep 41 = .ok (.iload_n 2, 1) := by decide +kernel
theorem dX11_keep_42 : decode cX11_keep 42 = .ok (.iaload, 1) := by decide +kernel
theorem dX11_keep_43 : decode cX11_keep 43 = .ok (.iastore, 1) := by decide +kernel
theorem dX11_keep_44 : decode cX11_keep 44 = .ok (.iinc 2 1, 3) := by decide +kernel
theorem dX11_keep_47 : decode cX11_keep 47 = .ok (.goto (-26), 3) := by decide +kernel
theorem dX11_keep_50 : decode cX11_keep 50 = .ok (.aload_n 0, 1) := by decide +kernel
theorem dX11_keep_51 : decode cX11_keep 51 = .ok (.getfield 22, 3) := by decide +kernel
theorem dX11_keep_54 : decode cX11_keep 54 = .ok (.bipush 13, 2) := by decide +kernel
theorem dX11_keep_56 : decode cX11_keep 56 = .ok (.iaload, 1) := by decide +kernel
theorem dX11_keep_57 : decode cX11_keep 57 = .ok (.ireturn, 1) := by decide +kernel
theorem dX11_again_0 : decode cX11_again 0 = .ok (.iload_n 1, 1) := by decide +kernel
theorem dX11_again_1 : decode cX11_again 1 = .ok (.i2l, 1) := by decide +kernel
theorem dX11_again_2 : decode cX11_again 2 = .ok (.lconst 0, 1) := by decide +kernel
theorem dX11_again_3 : decode cX11_again 3 = .ok (.lconst 1, 1) := by decide +kernel
theorem dX11_again_4 : decode cX11_again 4 = .ok (.invokestatic 61, 3) := by decide +kernel
theorem dX11_again_7 : decode cX11_again 7 = .ok (.ifCond .ne 5, 3) := by decide +kernel
theorem dX11_again_10 : decode cX11_again 10 = .ok (.iconst (-1), 1) := by decide +kernel
theorem dX11_again_11 : decode cX11_again 11 = .ok (.ireturn, 1) := by decide +kernel
theorem dX11_again_12 : decode cX11_again 12 = .ok (.aload_n 0, 1) := by decide +kernel
theorem dX11_again_13 : decode cX11_again 13 = .ok (.getfield 52, 3) := by decide +kernel
theorem dX11_again_16 : decode cX11_again 16 = .ok (.iload_n 1, 1) := by decide +kernel
theorem dX11_again_17 : decode cX11_again 17 = .ok (.baload, 1) := by decide +kernel
theorem dX11_again_18 : decode cX11_again 18 = .ok (.ifCond .ne 6, 3) := by decide +kernel
theorem dX11_again_21 : decode cX11_again 21 = .ok (.bipush (-3), 2) := by decide +kernel
theorem dX11_again_23 : decode cX11_again 23 = .ok (.ireturn, 1) := by decide +kernel
theorem dX11_again_24 : decode cX11_again 24 = .ok (.iconst 0, 1) := by decide +kernel
theorem dX11_again_25 : decode cX11_again 25 = .ok (.istore_n 2, 1) := by decide +kernel
theorem dX11_again_26 : decode cX11_again 26 = .ok (.iload_n 2, 1) := by decide +kernel
theorem dX11_again_27 : decode cX11_again 27 = .ok (.bipush 14, 2) := by decide +kernel
theorem dX11_again_29 : decode cX11_again 29 = .ok (.if_icmp .ge 26, 3) := by decide +kernel
theorem dX11_again_32 : decode cX11_again 32 = .ok (.aload_n 0, 1) := by decide +kernel
theorem dX11_again_33 : decode cX11_again 33 = .ok (.getfield 22, 3) := by decide +kernel
theorem dX11_again_36 : decode cX11_again 36 = .ok (.iload_n 2, 1) := by decide +kernel
theorem dX11_again_37 : decode cX11_again 37 = .ok (.aload_n 0, 1) := by decide +kernel
theorem dX11_again_38 : decode cX11_again 38 = .ok (.getfield 56, 3) := by decide +kernel
theorem dX11_again_41 : decode cX11_again 41 = .ok (.bipush 14, 2) := by decide +kernel
theorem dX11_again_43 : decode cX11_again 43 = .ok (.iload_n 1, 1) := by decide +kernel
theorem dX11_again_44 : decode cX11_again 44 = .ok (.imul, 1) := by decide +kernel
theorem dX11_again_45 : decode cX11_again 45 = .ok (.iload_n 2, 1) := by decide +kernel
theorem dX11_again_46 : decode cX11_again 46 = .ok (.iadd, 1) := by decide +kernel
theorem dX11_again_47 : decode cX11_again 47 = .ok (.iaload, 1) := by decide +kernel
theorem dX11_again_48 : decode cX11_again 48 = .ok (.iastore, 1) := by decide +kernel
theorem dX11_again_49 : decode cX11_again 49 = .ok (.iinc 2 1, 3) := by decide +kernel
theorem dX11_again_52 : decode cX11_again 52 = .ok (.goto (-26), 3) := by decide +kernel
theorem dX11_again_55 : decode cX11_again 55 = .ok (.aload_n 0, 1) := by decide +kernel
theorem dX11_again_56 : decode cX11_again 56 = .ok (.iconst 0, 1) := by decide +kernel
theorem dX11_again_57 : decode cX11_again 57 = .ok (.putfield 113, 3) := by decide +kernel
theorem dX11_again_60 : decode cX11_again 60 = .ok (.aload_n 0, 1) := by decide +kernel
theorem dX11_again_61 : decode cX11_again 61 = .ok (.getfield 22, 3) := by decide +kernel
theorem dX11_again_64 : decode cX11_again 64 = .ok (.bipush 13, 2) := by decide +kernel
theorem dX11_again_66 : decode cX11_again 66 = .ok (.iaload, 1) := by decide +kernel
theorem dX11_again_67 : decode cX11_again 67 = .ok (.ireturn, 1) := by decide +kernel
theorem dX11_count_0 : decode cX11_count 0 = .ok (.iload_n 1, 1) := by decide +kernel
theorem dX11_count_1 : decode cX11_count 1 = .ok (.tableswitch 114 0 9 #[55, 60, 65, 70, 78, 84, 92, 99, 104, 109], 55) := by decide +kernel
theorem dX11_count_56 : decode cX11_count 56 = .ok (.aload_n 0, 1) := by decide +kernel
theorem dX11_count_57 : decode cX11_count 57 = .ok (.getfield 65, 3) := by decide +kernel
theorem dX11_count_60 : decode cX11_count 60 = .ok (.ireturn, 1) := by decide +kernel
theorem dX11_count_61 : decode cX11_count 61 = .ok (.aload_n 0, 1) := by decide +kernel
theorem dX11_count_62 : decode cX11_count 62 = .ok (.getfield 107, 3) := by decide +kernel
theorem dX11_count_65 : decode cX11_count 65 = .ok (.ireturn, 1) := by decide +kernel
theorem dX11_count_66 : decode cX11_count 66 = .ok (.aload_n 0, 1) := by decide +kernel
theorem dX11_count_67 : decode cX11_count 67 = .ok (.getfield 110, 3) := by decide +kernel
theorem dX11_count_70 : decode cX11_count 70 = .ok (.ireturn, 1) := by decide +kernel
theorem dX11_count_71 : decode cX11_count 71 = .ok (.aload_n 0, 1) := by decide +kernel
theorem dX11_count_72 : decode cX11_count 72 = .ok (.getfield 22, 3) := by decide +kernel
theorem dX11_count_75 : decode cX11_count 75 = .ok (.bipush 13, 2) := by decide +kernel
theorem dX11_count_77 : decode cX11_count 77 = .ok (.iaload, 1) := by decide +kernel
theorem dX11_count_78 : decode cX11_count 78 = .ok (.ireturn, 1) := by decide +kernel
theorem dX11_count_79 : decode cX11_count 79 = .ok (.aload_n 0, 1) := by decide +kernel
theorem dX11_count_80 : decode cX11_count 80 = .ok (.iconst 0, 1) := by decide +kernel
theorem dX11_count_81 : decode cX11_count 81 = .ok (.invokevirtual 170, 3) := by decide +kernel
theorem dX11_count_84 : decode cX11_count 84 = .ok (.ireturn, 1) := by decide +kernel
theorem dX11_count_85 : decode cX11_count 85 = .ok (.aload_n 0, 1) := by decide +kernel
theorem dX11_count_86 : decode cX11_count 86 = .ok (.getfield 22, 3) := by decide +kernel
theorem dX11_count_89 : decode cX11_count 89 = .ok (.bipush 12, 2) := by decide +kernel
theorem dX11_count_91 : decode cX11_count 91 = .ok (.iaload, 1) := by decide +kernel
theorem dX11_count_92 : decode cX11_count 92 = .ok (.ireturn, 1) := by decide +kernel
theorem dX11_count_93 : decode cX11_count 93 = .ok (.aload_n 0, 1) := by decide +kernel
theorem dX11_count_94 : decode cX11_count 94 = .ok (.bipush 15, 2) := by decide +kernel
theorem dX11_count_96 : decode cX11_count 96 = .ok (.invokevirtual 250, 3) := by decide +kernel
theorem dX11_count_99 : decode cX11_count 99 = .ok (.ireturn, 1) := by decide +kernel
theorem dX11_count_100 : decode cX11_count 100 = .ok (.aload_n 0, 1) := by decide +kernel
theorem dX11_count_101 : decode cX11_count 101 = .ok (.invokevirtual 207, 3) := by decide +kernel
theorem dX11_count_104 : decode cX11_count 104 = .ok (.ireturn, 1) := by decide +kernel
theorem dX11_count_105 : decode cX11_count 105 = .ok (.aload_n 0, 1) := by decide +kernel
theorem dX11_count_106 : decode cX11_count 106 = .ok (.getfield 113, 3) := by decide +kernel
theorem dX11_count_109 : decode cX11_count 109 = .ok (.ireturn, 1) := by decide +kernel
theorem dX11_count_110 : decode cX11_count 110 = .ok (.aload_n 0, 1) := by decide +kernel
theorem dX11_count_111 : decode cX11_count 111 = .ok (.getfield 241, 3) := by decide +kernel
theorem dX11_count_114 : decode cX11_count 114 = .ok (.ireturn, 1) := by decide +kernel
theorem dX11_count_115 : decode cX11_count 115 = .ok (.bipush (-2), 2) := by decide +kernel
theorem dX11_count_117 : decode cX11_count 117 = .ok (.ireturn, 1) := by decide +kernel
