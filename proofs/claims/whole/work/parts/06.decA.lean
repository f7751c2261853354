theorem dX0_init_0 : decode cX0_init 0 = .ok (.aload_n 0, 1) := by decide +kernel
theorem dX0_init_1 : decode cX0_init 1 = .ok (.invokespecial 3, 3) := by decide +kernel
theorem dX0_init_4 : decode cX0_init 4 = .ok (.aload_n 0, 1) := by decide +kernel
theorem dX0_init_5 : decode cX0_init 5 = .ok (.bipush 14, 2) := by decide +kernel
theorem dX0_init_7 : decode cX0_init 7 = .ok (.newarray .long, 2) := by decide +kernel
theorem dX0_init_9 : decode cX0_init 9 = .ok (.putfield 9, 3) := by decide +kernel
theorem dX0_init_12 : decode cX0_init 12 = .ok (.aload_n 0, 1) := by decide +kernel
theorem dX0_init_13 : decode cX0_init 13 = .ok (.bipush 14, 2) := by decide +kernel
theorem dX0_init_15 : decode cX0_init 15 = .ok (.newarray .int, 2) := by decide +kernel
theorem dX0_init_17 : decode cX0_init 17 = .ok (.putfield 15, 3) := by decide +kernel
theorem dX0_init_20 : decode cX0_init 20 = .ok (.aload_n 0, 1) := by decide +kernel
theorem dX0_init_21 : decode cX0_init 21 = .ok (.iconst 0, 1) := by decide +kernel
theorem dX0_init_22 : decode cX0_init 22 = .ok (.putfield 19, 3) := by decide +kernel
theorem dX0_init_25 : decode cX0_init 25 = .ok (.return_, 1) := by decide +kernel
theorem dX0_clear_0 : decode cX0_clear 0 = .ok (.aload_n 0, 1) := by decide +kernel
theorem dX0_clear_1 : decode cX0_clear 1 = .ok (.iconst 0, 1) := by decide +kernel
theorem dX0_clear_2 : decode cX0_clear 2 = .ok (.putfield 19, 3) := by decide +kernel
theorem dX0_clear_5 : decode cX0_clear 5 = .ok (.return_, 1) := by decide +kernel
theorem dX0_push_0 : decode cX0_push 0 = .ok (.aload_n 0, 1) := by decide +kernel
theorem dX0_push_1 : decode cX0_push 1 = .ok (.getfield 19, 3) := by decide +kernel
theorem dX0_push_4 : decode cX0_push 4 = .ok (.bipush 14, 2) := by decide +kernel
theorem dX0_push_6 : decode cX0_push 6 = .ok (.if_icmp .lt 39, 3) := by decide +kernel
theorem dX0_push_9 : decode cX0_push 9 = .ok (.aload_n 0, 1) := by decide +kernel
theorem dX0_push_10 : decode cX0_push 10 = .ok (.getfield 9, 3) := by decide +kernel
theorem dX0_push_13 : decode cX0_push 13 = .ok (.iconst 1, 1) := by decide +kernel
theorem dX0_push_14 : decode cX0_push 14 = .ok (.aload_n 0, 1) := by decide +kernel
theorem dX0_push_15 : decode cX0_push 15 = .ok (.getfield 9, 3) := by decide +kernel
theorem dX0_push_18 : decode cX0_push 18 = .ok (.iconst 0, 1) := by decide +kernel
theorem dX0_push_19 : decode cX0_push 19 = .ok (.bipush 13, 2) := by decide +kernel
theorem dX0_push_21 : decode cX0_push 21 = .ok (.invokestatic 23, 3) := by decide +kernel
theorem dX0_push_24 : decode cX0_push 24 = .ok (.aload_n 0, 1) := by decide +kernel
theorem dX0_push_25 : decode cX0_push 25 = .ok (.getfield 15, 3) := by decide +kernel
theorem dX0_push_28 : decode cX0_push 28 = .ok (.iconst 1, 1) := by decide +kernel
theorem dX0_push_29 : decode cX0_push 29 = .ok (.aload_n 0, 1) := by decide +kernel
theorem dX0_push_30 : decode cX0_push 30 = .ok (.getfield 15, 3) := by decide +kernel
theorem dX0_push_33 : decode cX0_push 33 = .ok (.iconst 0, 1) := by decide +kernel
theorem dX0_push_34 : decode cX0_push 34 = .ok (.bipush 13, 2) := by decide +kernel
theorem dX0_push_36 : decode cX0_push 36 = .ok (.invokestatic 23, 3) := by decide +kernel
theorem dX0_push_39 : decode cX0_push 39 = .ok (.aload_n 0, 1) := by decide +kernel
theorem dX0_push_40 : decode cX0_push 40 = .ok (.bipush 13, 2) := by decide +kernel
theorem dX0_push_42 : decode cX0_push 42 = .ok (.putfield 19, 3) := by decide +kernel
theorem dX0_push_45 : decode cX0_push 45 = .ok (.aload_n 0, 1) := by decide +kernel
theorem dX0_push_46 : decode cX0_push 46 = .ok (.getfield 9, 3) := by decide +kernel
theorem dX0_push_49 : decode cX0_push 49 = .ok (.aload_n 0, 1) := by decide +kernel
theorem dX0_push_50 : decode cX0_push 50 = .ok (.getfield 19, 3) := by decide +kernel
theorem dX0_push_53 : decode cX0_push 53 = .ok (.aload_n 1, 1) := by decide +kernel
theorem dX0_push_54 : decode cX0_push 54 = .ok (.invokevirtual 29, 3) := by decide +kernel
theorem dX0_push_57 : decode cX0_push 57 = .ok (.lastore, 1) := by decide +kernel
theorem dX0_push_58 : decode cX0_push 58 = .ok (.aload_n 0, 1) := by decide +kernel
theorem dX0_push_59 : decode cX0_push 59 = .ok (.getfield 15, 3) := by decide +kernel
theorem dX0_push_62 : decode cX0_push 62 = .ok (.aload_n 0, 1) := by decide +kernel
theorem dX0_push_63 : decode cX0_push 63 = .ok (.getfield 19, 3) := by decide +kernel
theorem dX0_push_66 : decode cX0_push 66 = .ok (.aload_n 1, 1) := by decide +kernel
theorem dX0_push_67 : decode cX0_push 67 = .ok (.getfield 35, 3) := by decide +kernel
theorem dX0_push_70 : decode cX0_push 70 = .ok (.iastore, 1) := by decide +kernel
theorem dX0_push_71 : decode cX0_push 71 = .ok (.aload_n 0, 1) := by decide +kernel
theorem dX0_push_72 : decode cX0_push 72 = .ok (.dup, 1) := by decide +kernel
theorem dX0_push_73 : decode cX0_push 73 = .ok (.getfield 19, 3) := by decide +kernel
theorem dX0_push_76 : decode cX0_push 76 = .ok (.iconst 1, 1) := by decide +kernel
theorem dX0_push_77 : decode cX0_push 77 = .ok (.iadd, 1) := by decide +kernel
theorem dX0_push_78 : decode cX0_push 78 = .ok (.putfield 19, 3) := by decide +kernel
theorem dX0_push_81 : decode cX0_push 81 = .ok (.return_, 1) := by decide +kernel
theorem dX0_pop_0 : decode cX0_pop 0 = .ok (.aload_n 0, 1) := by decide +kernel
theorem dX0_pop_1 : decode cX0_pop 1 = .ok (.getfield 19, 3) := by decide +kernel
theorem dX0_pop_4 : decode cX0_pop 4 = .ok (.ifCond .le 39, 3) := by decide +kernel
theorem dX0_pop_7 : decode cX0_pop 7 = .ok (.aload_n 0, 1) := by decide +kernel
theorem dX0_pop_8 : decode cX0_pop 8 = .ok (.dup, 1) := by decide +kernel
theorem dX0_pop_9 : decode cX0_pop 9 = .ok (.getfield 19, 3) := by decide +kernel
theorem dX0_pop_12 : decode cX0_pop 12 = .ok (.iconst 1, 1) := by decide +kernel
theorem dX0_pop_13 : decode cX0_pop 13 = .ok (.isub, 1) := by decide +kernel
theorem dX0_pop_14 : decode cX0_pop 14 = .ok (.putfield 19, 3) := by decide +kernel
theorem dX0_pop_17 : decode cX0_pop 17 = .ok (.aload_n 1, 1) := by decide +kernel
theorem dX0_pop_18 : decode cX0_pop 18 = .ok (.aload_n 0, 1) := by decide +kernel
theorem dX0_pop_19 : decode cX0_pop 19 = .ok (.getfield 9, 3) := by decide +kernel
theorem dX0_pop_22 : decode cX0_pop 22 = .ok (.aload_n 0, 1) := by decide +kernel
theorem dX0_pop_23 : decode cX0_pop 23 = .ok (.getfield 19, 3) := by decide +kernel
theorem dX0_pop_26 : decode cX0_pop 26 = .ok (.laload, 1) := by decide +kernel
theorem dX0_pop_27 : decode cX0_pop 27 = .ok (.invokevirtual 37, 3) := by decide +kernel
theorem dX0_pop_30 : decode cX0_pop 30 = .ok (.aload_n 1, 1) := by decide +kernel
theorem dX0_pop_31 : decode cX0_pop 31 = .ok (.aload_n 0, 1) := by decide +kernel
theorem dX0_pop_32 : decode cX0_pop 32 = .ok (.getfield 15, 3) := by decide +kernel
theorem dX0_pop_35 : decode cX0_pop 35 = .ok (.aload_n 0, 1) := by decide +kernel
theorem dX0_pop_36 : decode cX0_pop 36 = .ok (.getfield 19, 3) := by decide +kernel
theorem dX0_pop_39 : decode cX0_pop 39 = .ok (.iaload, 1) := by decide +kernel
theorem dX0_pop_40 : decode cX0_pop 40 = .ok (.putfield 35, 3) := by decide +kernel
theorem dX0_pop_43 : decode cX0_pop 43 = .ok (.return_, 1) := by decide +kernel
theorem dX1_init_0 : decode cX1_init 0 = .ok (.aload_n 0, 1) := by decide +kernel
theorem dX1_init_1 : decode cX1_init 1 = .ok (.invokespecial 3, 3) := by decide +kernel
theorem dX1_init_4 : decode cX1_init 4 = .ok (.aload_n 0, 1) := by decide +kernel
theorem dX1_init_5 : decode cX1_init 5 = .ok (.iconst 4, 1) := by decide +kernel
theorem dX1_init_6 : decode cX1_init 6 = .ok (.newarray .int, 2) := by decide +kernel
theorem dX1_init_8 : decode cX1_init 8 = .ok (.putfield 9, 3) := by decide +kernel
theorem dX1_init_11 : decode cX1_init 11 = .ok (.aload_n 0, 1) := by decide +kernel
theorem dX1_init_12 : decode cX1_init 12 = .ok (.iconst 4, 1) := by decide +kernel
theorem dX1_init_13 : decode cX1_init 13 = .ok (.newarray .int, 2) := by decide +kernel
theorem dX1_init_15 : decode cX1_init 15 = .ok (.putfield 15, 3) := by decide +kernel
theorem dX1_init_18 : decode cX1_init 18 = .ok (.aload_n 0, 1) := by decide +kernel
theorem dX1_init_19 : decode cX1_init 19 = .ok (.iconst 4, 1) := by decide +kernel
theorem dX1_init_20 : decode cX1_init 20 = .ok (.newarray .int, 2) := by decide +kernel
theorem dX1_init_22 : decode cX1_init 22 = .ok (.putfield 18, 3) := by decide +kernel
theorem dX1_init_25 : decode cX1_init 25 = .ok (.aload_n 0, 1) := by decide +kernel
theorem dX1_init_26 : decode cX1_init 26 = .ok (.iconst 4, 1) := by decide +kernel
theorem dX1_init_27 : decode cX1_init 27 = .ok (.newarray .int, 2) := by decide +kernel
theorem dX1_init_29 : decode cX1_init 29 = .ok (.putfield 21, 3) := by decide +kernel
theorem dX1_init_32 : decode cX1_init 32 = .ok (.aload_n 0, 1) := by decide +kernel
theorem dX1_init_33 : decode cX1_init 33 = .ok (.iconst 0, 1) := by decide +kernel
theorem dX1_init_34 : decode cX1_init 34 = .ok (.putfield 24, 3) := by decide +kernel
theorem dX1_init_37 : decode cX1_init 37 = .ok (.aload_n 0, 1) := by decide +kernel
theorem dX1_init_38 : decode cX1_init 38 = .ok (.iconst 0, 1) := by decide +kernel
theorem dX1_init_39 : decode cX1_init 39 = .ok (.putfield 28, 3) := by decide +kernel
theorem dX1_init_42 : decode cX1_init 42 = .ok (.aload_n 0, 1) := by decide +kernel
theorem dX1_init_43 : decode cX1_init 43 = .ok (.iconst 0, 1) := by decide +kernel
theorem dX1_init_44 : decode cX1_init 44 = .ok (.putfield 31, 3) := by decide +kernel
theorem dX1_init_47 : decode cX1_init 47 = .ok (.return_, 1) := by decide +kernel
theorem dX1_clear_0 : decode cX1_clear 0 = .ok (.aload_n 0, 1) := by decide +kernel
theorem dX1_clear_1 : decode cX1_clear 1 = .ok (.iconst 0, 1) := by decide +kernel
theorem dX1_clear_2 : decode cX1_clear 2 = .ok (.putfield 28, 3) := by decide +kernel
theorem dX1_clear_5 : decode cX1_clear 5 = .ok (.aload_n 0, 1) := by decide +kernel
theorem dX1_clear_6 : decode cX1_clear 6 = .ok (.iconst 0, 1) := by decide +kernel
theorem dX1_clear_7 : decode cX1_clear 7 = .ok (.putfield 24, 3) := by decide +kernel
theorem dX1_clear_10 : decode cX1_clear 10 = .ok (.aload_n 0, 1) := by decide +kernel
theorem dX1_clear_11 : decode cX1_clear 11 = .ok (.iconst 0, 1) := by decide +kernel
theorem dX1_clear_12 : decode cX1_clear 12 = .ok (.putfield 31, 3) := by decide +kernel
theorem dX1_clear_15 : decode cX1_clear 15 = .ok (.return_, 1) := by decide +kernel
theorem dX1_copyFrom_0 : decode cX1_copyFrom 0 = .ok (.iconst 0, 1) := by decide +kernel
theorem dX1_copyFrom_1 : decode cX1_copyFrom 1 = .ok (.istore_n 2, 1) := by decide +kernel
theorem dX1_copyFrom_2 : decode cX1_copyFrom 2 = .ok (.iload_n 2, 1) := by decide +kernel
theorem dX1_copyFrom_3 : decode cX1_copyFrom 3 = .ok (.aload_n 1, 1) := by decide +kernel
theorem dX1_copyFrom_4 : decode cX1_copyFrom 4 = .ok (.getfield 28, 3) := by decide +kernel
theorem dX1_copyFrom_7 : decode cX1_copyFrom 7 = .ok (.if_icmp .ge 57, 3) := by decide +kernel
theorem dX1_copyFrom_10 : decode cX1_copyFrom 10 = .ok (.aload_n 0, 1) := by decide +kernel
theorem dX1_copyFrom_11 : decode cX1_copyFrom 11 = .ok (.getfield 9, 3) := by decide +kernel
theorem dX1_copyFrom_14 : decode cX1_copyFrom 14 = .ok (.iload_n 2, 1) := by decide +kernel
theorem dX1_copyFrom_15 : decode cX1_copyFrom 15 = .ok (.aload_n 1, 1) := by decide +kernel
theorem dX1_copyFrom_16 : decode cX1_copyFrom 16 = .ok (.getfield 9, 3) := by decide +kernel
theorem dX1_copyFrom_19 : decode cX1_copyFrom 19 = .ok (.iload_n 2, 1) := by decide +kernel
theorem dX1_copyFrom_20 : decode cX1_copyFrom 20 = .ok (.iaload, 1) := by decide +kernel
theorem dX1_copyFrom_21 : decode cX1_copyFrom 21 = .ok (.iastore, 1) := by decide +kernel
theorem dX1_copyFrom_22 : decode cX1_copyFrom 22 = .ok (.aload_n 0, 1) := by decide +kernel
theorem dX1_copyFrom_23 : decode cX1_copyFrom 23 = .ok (.getfield 15, 3) := by decide +kernel
theorem dX1_copyFrom_26 : decode cX1_copyFrom 26 = .ok (.iload_n 2, 1) := by decide +kernel
theorem dX1_copyFrom_27 : decode cX1_copyFrom 27 = .ok (.aload_n 1, 1) := by decide +kernel
theorem dX1_copyFrom_28 : decode cX1_copyFrom 28 = .ok (.getfield 15, 3) := by decide +kernel
theorem dX1_copyFrom_31 : decode cX1_copyFrom 31 = .ok (.iload_n 2, 1) := by decide +kernel
theorem dX1_copyFrom_32 : decode cX1_copyFrom 32 = .ok (.iaload, 1) := by decide +kernel
theorem dX1_copyFrom_33 : decode cX1_copyFrom 33 = .ok (.iastore, 1) := by decide +kernel
theorem dX1_copyFrom_34 : decode cX1_copyFrom 34 = .ok (.aload_n 0, 1) := by decide +kernel
theorem dX1_copyFrom_35 : decode cX1_copyFrom 35 = .ok (.getfield 18, 3) := by decide +kernel
theorem dX1_copyFrom_38 : decode cX1_copyFrom 38 = .ok (.iload_n 2, 1) := by decide +kernel
theorem dX1_copyFrom_39 : decode cX1_copyFrom 39 = .ok (.aload_n 1, 1) := by decide +kernel
theorem dX1_copyFrom_40 : decode cX1_copyFrom 40 = .ok (.getfield 18, 3) := by decide +kernel
theorem dX1_copyFrom_43 : decode cX1_copyFrom 43 = .ok (.iload_n 2, 1) := by decide +kernel
theorem dX1_copyFrom_44 : decode cX1_copyFrom 44 = .ok (.iaload, 1) := by decide +kernel
theorem dX1_copyFrom_45 : decode cX1_copyFrom 45 = .ok (.iastore, 1) := by decide +kernel
theorem dX1_copyFrom_46 : decode cX1_copyFrom 46 = .ok (.aload_n 0, 1) := by decide +kernel
theorem dX1_copyFrom_47 : decode cX1_copyFrom 47 = .ok (.getfield 21, 3) := by decide +kernel
theorem dX1_copyFrom_50 : decode cX1_copyFrom 50 = .ok (.iload_n 2, 1) := by decide +kernel
theorem dX1_copyFrom_51 : decode cX1_copyFrom 51 = .ok (.aload_n 1, 1) := by decide +kernel
theorem dX1_copyFrom_52 : decode cX1_copyFrom 52 = .ok (.getfield 21, 3) := by decide +kernel
theorem dX1_copyFrom_55 : decode cX1_copyFrom 55 = .ok (.iload_n 2, 1) := by decide +kernel
theorem dX1_copyFrom_56 : decode cX1_copyFrom 56 = .ok (.iaload, 1) := by decide +kernel
theorem dX1_copyFrom_57 : decode cX1_copyFrom 57 = .ok (.iastore, 1) := by decide +kernel
theorem dX1_copyFrom_58 : decode cX1_copyFrom 58 = .ok (.iinc 2 1, 3) := by decide +kernel
theorem dX1_copyFrom_61 : decode cX1_copyFrom 61 = .ok (.goto (-59), 3) := by decide +kernel
theorem dX1_copyFrom_64 : decode cX1_copyFrom 64 = .ok (.aload_n 0, 1) := by decide +kernel
theorem dX1_copyFrom_65 : decode cX1_copyFrom 65 = .ok (.aload_n 1, 1) := by decide +kernel
theorem dX1_copyFrom_66 : decode cX1_copyFrom 66 = .ok (.getfield 24, 3) := by decide +kernel
theorem dX1_copyFrom_69 : decode cX1_copyFrom 69 = .ok (.putfield 24, 3) := by decide +kernel
theorem dX1_copyFrom_72 : decode cX1_copyFrom 72 = .ok (.aload_n 0, 1) := by decide +kernel
theorem dX1_copyFrom_73 : decode cX1_copyFrom 73 = .ok (.aload_n 1, 1) := by decide +kernel
theorem dX1_copyFrom_74 : decode cX1_copyFrom 74 = .ok (.getfield 28, 3) := by decide +kernel
theorem dX1_copyFrom_77 : decode cX1_copyFrom 77 = .ok (.putfield 28, 3) := by decide +kernel
theorem dX1_copyFrom_80 : decode cX1_copyFrom 80 = .ok (.aload_n 0, 1) := by decide +kernel
theorem dX1_copyFrom_81 : decode cX1_copyFrom 81 = .ok (.aload_n 1, 1) := by decide +kernel
theorem dX1_copyFrom_82 : decode cX1_copyFrom 82 = .ok (.getfield 31, 3) := by decide +kernel
theorem dX1_copyFrom_85 : decode cX1_copyFrom 85 = .ok (.putfield 31, 3) := by decide +kernel
theorem dX1_copyFrom_88 : decode cX1_copyFrom 88 = .ok (.return_, 1) := by decide +kernel
theorem dX1_addTramp_0 : decode cX1_addTramp 0 = .ok (.aload_n 0, 1) := by decide +kernel
theorem dX1_addTramp_1 : decode cX1_addTramp 1 = .ok (.getfield 28, 3) := by decide +kernel
theorem dX1_addTramp_4 : decode cX1_addTramp 4 = .ok (.iconst 4, 1) := by decide +kernel
theorem dX1_addTramp_5 : decode cX1_addTramp 5 = .ok (.if_icmp .ge 53, 3) := by decide +kernel
theorem dX1_addTramp_8 : decode cX1_addTramp 8 = .ok (.aload_n 0, 1) := by decide +kernel
theorem dX1_addTramp_9 : decode cX1_addTramp 9 = .ok (.getfield 9, 3) := by decide +kernel
theorem dX1_addTramp_12 : decode cX1_addTramp 12 = .ok (.aload_n 0, 1) := by decide +kernel
theorem dX1_addTramp_13 : decode cX1_addTramp 13 = .ok (.getfield 28, 3) := by decide +kernel
theorem dX1_addTramp_16 : decode cX1_addTramp 16 = .ok (.iload_n 1, 1) := by decide +kernel
theorem dX1_addTramp_17 : decode cX1_addTramp 17 = .ok (.iastore, 1) := by decide +kernel
theorem dX1_addTramp_18 : decode cX1_addTramp 18 = .ok (.aload_n 0, 1) := by decide +kernel
theorem dX1_addTramp_19 : decode cX1_addTramp 19 = .ok (.getfield 15, 3) := by decide +kernel
theorem dX1_addTramp_22 : decode cX1_addTramp 22 = .ok (.aload_n 0, 1) := by decide +kernel
theorem dX1_addTramp_23 : decode cX1_addTramp 23 = .ok (.getfield 28, 3) := by decide +kernel
theorem dX1_addTramp_26 : decode cX1_addTramp 26 = .ok (.iload_n 2, 1) := by decide +kernel
theorem dX1_addTramp_27 : decode cX1_addTramp 27 = .ok (.iastore, 1) := by decide +kernel
theorem dX1_addTramp_28 : decode cX1_addTramp 28 = .ok (.aload_n 0, 1) := by decide +kernel
theorem dX1_addTramp_29 : decode cX1_addTramp 29 = .ok (.getfield 18, 3) := by decide +kernel
theorem dX1_addTramp_32 : decode cX1_addTramp 32 = .ok (.aload_n 0, 1) := by decide +kernel
theorem dX1_addTramp_33 : decode cX1_addTramp 33 = .ok (.getfield 28, 3) := by decide +kernel
theorem dX1_addTramp_36 : decode cX1_addTramp 36 = .ok (.iconst 0, 1) := by decide +kernel
theorem dX1_addTramp_37 : decode cX1_addTramp 37 = .ok (.iastore, 1) := by decide +kernel
theorem dX1_addTramp_38 : decode cX1_addTramp 38 = .ok (.aload_n 0, 1) := by decide +kernel
theorem dX1_addTramp_39 : decode cX1_addTramp 39 = .ok (.getfield 21, 3) := by decide +kernel
theorem dX1_addTramp_42 : decode cX1_addTramp 42 = .ok (.aload_n 0, 1) := by decide +kernel
theorem dX1_addTramp_43 : decode cX1_addTramp 43 = .ok (.getfield 28, 3) := by decide +kernel
theorem dX1_addTramp_46 : decode cX1_addTramp 46 = .ok (.iconst 0, 1) := by decide +kernel
theorem dX1_addTramp_47 : decode cX1_addTramp 47 = .ok (.iastore, 1) := by decide +kernel
theorem dX1_addTramp_48 : decode cX1_addTramp 48 = .ok (.aload_n 0, 1) := by decide +kernel
theorem dX1_addTramp_49 : decode cX1_addTramp 49 = .ok (.dup, 1) := by decide +kernel
theorem dX1_addTramp_50 : decode cX1_addTramp 50 = .ok (.getfield 28, 3) := by decide +kernel
theorem dX1_addTramp_53 : decode cX1_addTramp 53 = .ok (.iconst 1, 1) := by decide +kernel
theorem dX1_addTramp_54 : decode cX1_addTramp 54 = .ok (.iadd, 1) := by decide +kernel
theorem dX1_addTramp_55 : decode cX1_addTramp 55 = .ok (.putfield 28, 3) := by decide +kernel
theorem dX1_addTramp_58 : decode cX1_addTramp 58 = .ok (.return_, 1) := by decide +kernel
theorem dX1_packed_0 : decode cX1_packed 0 = .ok (.lconst 0, 1) := by decide +kernel
theorem dX1_packed_1 : decode cX1_packed 1 = .ok (.lstore_n 1, 1) := by decide +kernel
theorem dX1_packed_2 : decode cX1_packed 2 = .ok (.aload_n 0, 1) := by decide +kernel
theorem dX1_packed_3 : decode cX1_packed 3 = .ok (.getfield 28, 3) := by decide +kernel
theorem dX1_packed_6 : decode cX1_packed 6 = .ok (.iconst 1, 1) := by decide +kernel
theorem dX1_packed_7 : decode cX1_packed 7 = .ok (.isub, 1) := by decide +kernel
theorem dX1_packed_8 : decode cX1_packed 8 = .ok (.istore_n 3, 1) := by decide +kernel
theorem dX1_packed_9 : decode cX1_packed 9 = .ok (.iload_n 3, 1) := by decide +kernel
theorem dX1_packed_10 : decode cX1_packed 10 = .ok (.ifCond .lt 68, 3) := by decide +kernel
theorem dX1_packed_13 : decode cX1_packed 13 = .ok (.aload_n 0, 1) := by decide +kernel
theorem dX1_packed_14 : decode cX1_packed 14 = .ok (.getfield 24, 3) := by decide +kernel
theorem dX1_packed_17 : decode cX1_packed 17 = .ok (.iload_n 3, 1) := by decide +kernel
theorem dX1_packed_18 : decode cX1_packed 18 = .ok (.ishr, 1) := by decide +kernel
theorem dX1_packed_19 : decode cX1_packed 19 = .ok (.iconst 1, 1) := by decide +kernel
theorem dX1_packed_20 : decode cX1_packed 20 = .ok (.iand, 1) := by decide +kernel
theorem dX1_packed_21 : decode cX1_packed 21 = .ok (.istore 4, 2) := by decide +kernel
theorem dX1_packed_23 : decode cX1_packed 23 = .ok (.iload 4, 2) := by decide +kernel
theorem dX1_packed_25 : decode cX1_packed 25 = .ok (.iconst 4, 1) := by decide +kernel
theorem dX1_packed_26 : decode cX1_packed 26 = .ok (.ishl, 1) := by decide +kernel
theorem dX1_packed_27 : decode cX1_packed 27 = .ok (.aload_n 0, 1) := by decide +kernel
theorem dX1_packed_28 : decode cX1_packed 28 = .ok (.getfield 9, 3) := by decide +kernel
theorem dX1_packed_31 : decode cX1_packed 31 = .ok (.iload_n 3, 1) := by decide +kernel
theorem dX1_packed_32 : decode cX1_packed 32 = .ok (.iaload, 1) := by decide +kernel
theorem dX1_packed_33 : decode cX1_packed 33 = .ok (.ior, 1) := by decide +kernel
theorem dX1_packed_34 : decode cX1_packed 34 = .ok (.istore 4, 2) := by decide +kernel
theorem dX1_packed_36 : decode cX1_packed 36 = .ok (.iload 4, 2) := by decide +kernel
theorem dX1_packed_38 : decode cX1_packed 38 = .ok (.iconst 4, 1) := by decide +kernel
theorem dX1_packed_39 : decode cX1_packed 39 = .ok (.ishl, 1) := by decide +kernel
theorem dX1_packed_40 : decode cX1_packed 40 = .ok (.aload_n 0, 1) := by decide +kernel
theorem dX1_packed_41 : decode cX1_packed 41 = .ok (.getfield 21, 3) := by decide +kernel
theorem dX1_packed_44 : decode cX1_packed 44 = .ok (.iload_n 3, 1) := by decide +kernel
theorem dX1_packed_45 : decode cX1_packed 45 = .ok (.iaload, 1) := by decide +kernel
theorem dX1_packed_46 : decode cX1_packed 46 = .ok (.ior, 1) := by decide +kernel
theorem dX1_packed_47 : decode cX1_packed 47 = .ok (.istore 4, 2) := by decide +kernel
theorem dX1_packed_49 : decode cX1_packed 49 = .ok (.iload 4, 2) := by decide +kernel
theorem dX1_packed_51 : decode cX1_packed 51 = .ok (.bipush 6, 2) := by decide +kernel
theorem dX1_packed_53 : decode cX1_packed 53 = .ok (.ishl, 1) := by decide +kernel
theorem dX1_packed_54 : decode cX1_packed 54 = .ok (.aload_n 0, 1) := by decide +kernel
theorem dX1_packed_55 : decode cX1_packed 55 = .ok (.getfield 18, 3) := by decide +kernel
theorem dX1_packed_58 : decode cX1_packed 58 = .ok (.iload_n 3, 1) := by decide +kernel
theorem dX1_packed_59 : decode cX1_packed 59 = .ok (.iaload, 1) := by decide +kernel
theorem dX1_packed_60 : decode cX1_packed 60 = .ok (.ior, 1) := by decide +kernel
theorem dX1_packed_61 : decode cX1_packed 61 = .ok (.istore 4, 2) := by decide +kernel
theorem dX1_packed_63 : decode cX1_packed 63 = .ok (.lload_n 1, 1) := by decide +kernel
theorem dX1_packed_64 : decode cX1_packed 64 = .ok (.bipush 15, 2) := by decide +kernel
theorem dX1_packed_66 : decode cX1_packed 66 = .ok (.lshl, 1) := by decide +kernel
theorem dX1_packed_67 : decode cX1_packed 67 = .ok (.iload 4, 2) := by decide +kernel
theorem dX1_packed_69 : decode cX1_packed 69 = .ok (.i2l, 1) := by decide +kernel
theorem dX1_packed_70 : decode cX1_packed 70 = .ok (.lor, 1) := by decide +kernel
theorem dX1_packed_71 : decode cX1_packed 71 = .ok (.lstore_n 1, 1) := by decide +kernel
theorem dX1_packed_72 : decode cX1_packed 72 = .ok (.iinc 3 (-1), 3) := by decide +kernel
theorem dX1_packed_75 : decode cX1_packed 75 = .ok (.goto (-66), 3) := by decide +kernel
theorem dX1_packed_78 : decode cX1_packed 78 = .ok (.lload_n 1, 1) := by decide +kernel
theorem dX1_packed_79 : decode cX1_packed 79 = .ok (.lreturn, 1) := by decide +kernel
theorem dX1_unpack_0 : decode cX1_unpack 0 = .ok (.aload_n 0, 1) := by decide +kernel
theorem dX1_unpack_1 : decode cX1_unpack 1 = .ok (.iconst 0, 1) := by decide +kernel
theorem dX1_unpack_2 : decode cX1_unpack 2 = .ok (.putfield 24, 3) := by decide +kernel
theorem dX1_unpack_5 : decode cX1_unpack 5 = .ok (.iconst 0, 1) := by decide +kernel
theorem dX1_unpack_6 : decode cX1_unpack 6 = .ok (.istore_n 3, 1) := by decide +kernel
theorem dX1_unpack_7 : decode cX1_unpack 7 = .ok (.iload_n 3, 1) := by decide +kernel
theorem dX1_unpack_8 : decode cX1_unpack 8 = .ok (.aload_n 0, 1) := by decide +kernel
theorem dX1_unpack_9 : decode cX1_unpack 9 = .ok (.getfield 28, 3) := by decide +kernel
theorem dX1_unpack_12 : decode cX1_unpack 12 = .ok (.if_icmp .ge 75, 3) := by decide +kernel
theorem dX1_unpack_15 : decode cX1_unpack 15 = .ok (.lload_n 1, 1) := by decide +kernel
theorem dX1_unpack_16 : decode cX1_unpack 16 = .ok (.bipush 15, 2) := by decide +kernel
theorem dX1_unpack_18 : decode cX1_unpack 18 = .ok (.iload_n 3, 1) := by decide +kernel
theorem dX1_unpack_19 : decode cX1_unpack 19 = .ok (.imul, 1) := by decide +kernel
theorem dX1_unpack_20 : decode cX1_unpack 20 = .ok (.lshr, 1) := by decide +kernel
theorem dX1_unpack_21 : decode cX1_unpack 21 = .ok (.l2i, 1) := by decide +kernel
theorem dX1_unpack_22 : decode cX1_unpack 22 = .ok (.istore 4, 2) := by decide +kernel
theorem dX1_unpack_24 : decode cX1_unpack 24 = .ok (.aload_n 0, 1) := by decide +kernel
theorem dX1_unpack_25 : decode cX1_unpack 25 = .ok (.getfield 18, 3) := by decide +kernel
theorem dX1_unpack_28 : decode cX1_unpack 28 = .ok (.iload_n 3, 1) := by decide +kernel
theorem dX1_unpack_29 : decode cX1_unpack 29 = .ok (.iload 4, 2) := by decide +kernel
theorem dX1_unpack_31 : decode cX1_unpack 31 = .ok (.bipush 63, 2) := by decide +kernel
theorem dX1_unpack_33 : decode cX1_unpack 33 = .ok (.iand, 1) := by decide +kernel
theorem dX1_unpack_34 : decode cX1_unpack 34 = .ok (.iastore, 1) := by decide +kernel
theorem dX1_unpack_35 : decode cX1_unpack 35 = .ok (.aload_n 0, 1) := by decide +kernel
theorem dX1_unpack_36 : decode cX1_unpack 36 = .ok (.getfield 21, 3) := by decide +kernel
theorem dX1_unpack_39 : decode cX1_unpack 39 = .ok (.iload_n 3, 1) := by decide +kernel
theorem dX1_unpack_40 : decode cX1_unpack 40 = .ok (.iload 4, 2) := by decide +kernel
theorem dX1_unpack_42 : decode cX1_unpack 42 = .ok (.bipush 6, 2) := by decide +kernel
theorem dX1_unpack_44 : decode cX1_unpack 44 = .ok (.ishr, 1) := by decide +kernel
theorem dX1_unpack_45 : decode cX1_unpack 45 = .ok (.bipush 15, 2) := by decide +kernel
theorem dX1_unpack_47 : decode cX1_unpack 47 = .ok (.iand, 1) := by decide +kernel
theorem dX1_unpack_48 : decode cX1_unpack 48 = .ok (.iastore, 1) := by decide +kernel
theorem dX1_unpack_49 : decode cX1_unpack 49 = .ok (.aload_n 0, 1) := by decide +kernel
theorem dX1_unpack_50 : decode cX1_unpack 50 = .ok (.getfield 9, 3) := by decide +kernel
theorem dX1_unpack_53 : decode cX1_unpack 53 = .ok (.iload_n 3, 1) := by decide +kernel
theorem dX1_unpack_54 : decode cX1_unpack 54 = .ok (.iload 4, 2) := by decide +kernel
theorem dX1_unpack_56 : decode cX1_unpack 56 = .ok (.bipush 10, 2) := by decide +kernel
theorem dX1_unpack_58 : decode cX1_unpack 58 = .ok (.ishr, 1) := by decide +kernel
theorem dX1_unpack_59 : decode cX1_unpack 59 = .ok (.bipush 15, 2) := by decide +kernel
theorem dX1_unpack_61 : decode cX1_unpack 61 = .ok (.iand, 1) := by decide +kernel
theorem dX1_unpack_62 : decode cX1_unpack 62 = .ok (.iastore, 1) := by decide +kernel
theorem dX1_unpack_63 : decode cX1_unpack 63 = .ok (.aload_n 0, 1) := by decide +kernel
theorem dX1_unpack_64 : decode cX1_unpack 64 = .ok (.dup, 1) := by decide +kernel
theorem dX1_unpack_65 : decode cX1_unpack 65 = .ok (.getfield 24, 3) := by decide +kernel
theorem dX1_unpack_68 : decode cX1_unpack 68 = .ok (.iload 4, 2) := by decide +kernel
theorem dX1_unpack_70 : decode cX1_unpack 70 = .ok (.bipush 14, 2) := by decide +kernel
theorem dX1_unpack_72 : decode cX1_unpack 72 = .ok (.ishr, 1) := by decide +kernel
theorem dX1_unpack_73 : decode cX1_unpack 73 = .ok (.iconst 1, 1) := by decide +kernel
theorem dX1_unpack_74 : decode cX1_unpack 74 = .ok (.iand, 1) := by decide +kernel
theorem dX1_unpack_75 : decode cX1_unpack 75 = .ok (.iload_n 3, 1) := by decide +kernel
theorem dX1_unpack_76 : decode cX1_unpack 76 = .ok (.ishl, 1) := by decide +kernel
theorem dX1_unpack_77 : decode cX1_unpack 77 = .ok (.ior, 1) := by decide +kernel
theorem dX1_unpack_78 : decode cX1_unpack 78 = .ok (.putfield 24, 3) := by decide +kernel
theorem dX1_unpack_81 : decode cX1_unpack 81 = .ok (.iinc 3 1, 3) := by decide +kernel
theorem dX1_unpack_84 : decode cX1_unpack 84 = .ok (.goto (-77), 3) := by decide +kernel
theorem dX1_unpack_87 : decode cX1_unpack 87 = .ok (.return_, 1) := by decide +kernel
theorem dX1_has_0 : decode cX1_has 0 = .ok (.iload_n 1, 1) := by decide +kernel
theorem dX1_has_1 : decode cX1_has 1 = .ok (.ifCond .lt 15, 3) := by decide +kernel
theorem dX1_has_4 : decode cX1_has 4 = .ok (.iload_n 1, 1) := by decide +kernel
theorem dX1_has_5 : decode cX1_has 5 = .ok (.aload_n 0, 1) := by decide +kernel
theorem dX1_has_6 : decode cX1_has 6 = .ok (.getfield 28, 3) := by decide +kernel
theorem dX1_has_9 : decode cX1_has 9 = .ok (.if_icmp .ge 7, 3) := by decide +kernel
theorem dX1_has_12 : decode cX1_has 12 = .ok (.iconst 1, 1) := by decide +kernel
theorem dX1_has_13 : decode cX1_has 13 = .ok (.goto 4, 3) := by decide +kernel
theorem dX1_has_16 : decode cX1_has 16 = .ok (.iconst 0, 1) := by decide +kernel
theorem dX1_has_17 : decode cX1_has 17 = .ok (.ireturn, 1) := by decide +kernel
theorem dX1_isHummock_0 : decode cX1_isHummock 0 = .ok (.aload_n 0, 1) := by decide +kernel
theorem dX1_isHummock_1 : decode cX1_isHummock 1 = .ok (.getfield 21, 3) := by decide +kernel
theorem dX1_isHummock_4 : decode cX1_isHummock 4 = .ok (.iload_n 1, 1) := by decide +kernel
theorem dX1_isHummock_5 : decode cX1_isHummock 5 = .ok (.iaload, 1) := by decide +kernel
theorem dX1_isHummock_6 : decode cX1_isHummock 6 = .ok (.bipush 9, 2) := by decide +kernel
theorem dX1_isHummock_8 : decode cX1_isHummock 8 = .ok (.if_icmp .lt 7, 3) := by decide +kernel
theorem dX1_isHummock_11 : decode cX1_isHummock 11 = .ok (.iconst 1, 1) := by decide +kernel
theorem dX1_isHummock_12 : decode cX1_isHummock 12 = .ok (.goto 4, 3) := by decide +kernel
theorem dX1_isHummock_15 : decode cX1_isHummock 15 = .ok (.iconst 0, 1) := by decide +kernel
theorem dX1_isHummock_16 : decode cX1_isHummock 16 = .ok (.ireturn, 1) := by decide +kernel
theorem dX1_hasWalked_0 : decode cX1_hasWalked 0 = .ok (.aload_n 0, 1) := by decide +kernel
theorem dX1_hasWalked_1 : decode cX1_hasWalked 1 = .ok (.getfield 24, 3) := by decide +kernel
theorem dX1_hasWalked_4 : decode cX1_hasWalked 4 = .ok (.iconst 1, 1) := by decide +kernel
theorem dX1_hasWalked_5 : decode cX1_hasWalked 5 = .ok (.iload_n 1, 1) := by decide +kernel
theorem dX1_hasWalked_6 : decode cX1_hasWalked 6 = .ok (.ishl, 1) := by decide +kernel
theorem dX1_hasWalked_7 : decode cX1_hasWalked 7 = .ok (.iand, 1) := by decide +kernel
theorem dX1_hasWalked_8 : decode cX1_hasWalked 8 = .ok (.ifCond .eq 7, 3) := by decide +kernel
theorem dX1_hasWalked_11 : decode cX1_hasWalked 11 = .ok (.iconst 1, 1) := by decide +kernel
theorem dX1_hasWalked_12 : decode cX1_hasWalked 12 = .ok (.goto 4, 3) := by decide +kernel
theorem dX1_hasWalked_15 : decode cX1_hasWalked 15 = .ok (.iconst 0, 1) := by decide +kernel
theorem dX1_hasWalked_16 : decode cX1_hasWalked 16 = .ok (.ireturn, 1) := by decide +kernel
theorem dX1_speedOf_0 : decode cX1_speedOf 0 = .ok (.iconst 3, 1) := by decide +kernel
theorem dX1_speedOf_1 : decode cX1_speedOf 1 = .ok (.aload_n 0, 1) := by decide +kernel
theorem dX1_speedOf_2 : decode cX1_speedOf 2 = .ok (.getfield 21, 3) := by decide +kernel
theorem dX1_speedOf_5 : decode cX1_speedOf 5 = .ok (.iload_n 1, 1) := by decide +kernel
theorem dX1_speedOf_6 : decode cX1_speedOf 6 = .ok (.iaload, 1) := by decide +kernel
theorem dX1_speedOf_7 : decode cX1_speedOf 7 = .ok (.iconst 3, 1) := by decide +kernel
theorem dX1_speedOf_8 : decode cX1_speedOf 8 = .ok (.idiv, 1) := by decide +kernel
theorem dX1_speedOf_9 : decode cX1_speedOf 9 = .ok (.isub, 1) := by decide +kernel
theorem dX1_speedOf_10 : decode cX1_speedOf 10 = .ok (.ireturn, 1) := by decide +kernel
theorem dX1_hummocks_0 : decode cX1_hummocks 0 = .ok (.iconst 0, 1) := by decide +kernel
theorem dX1_hummocks_1 : decode cX1_hummocks 1 = .ok (.istore_n 1, 1) := by decide +kernel
theorem dX1_hummocks_2 : decode cX1_hummocks 2 = .ok (.iconst 0, 1) := by decide +kernel
theorem dX1_hummocks_3 : decode cX1_hummocks 3 = .ok (.istore_n 2, 1) := by decide +kernel
theorem dX1_hummocks_4 : decode cX1_hummocks 4 = .ok (.iload_n 2, 1) := by decide +kernel
theorem dX1_hummocks_5 : decode cX1_hummocks 5 = .ok (.aload_n 0, 1) := by decide +kernel
theorem dX1_hummocks_6 : decode cX1_hummocks 6 = .ok (.getfield 28, 3) := by decide +kernel
theorem dX1_hummocks_9 : decode cX1_hummocks 9 = .ok (.if_icmp .ge 23, 3) := by decide +kernel
theorem dX1_hummocks_12 : decode cX1_hummocks 12 = .ok (.aload_n 0, 1) := by decide +kernel
theorem dX1_hummocks_13 : decode cX1_hummocks 13 = .ok (.iload_n 2, 1) := by decide +kernel
theorem dX1_hummocks_14 : decode cX1_hummocks 14 = .ok (.invokevirtual 34, 3) := by decide +kernel
theorem dX1_hummocks_17 : decode cX1_hummocks 17 = .ok (.ifCond .eq 9, 3) := by decide +kernel
theorem dX1_hummocks_20 : decode cX1_hummocks 20 = .ok (.iload_n 1, 1) := by decide +kernel
theorem dX1_hummocks_21 : decode cX1_hummocks 21 = .ok (.iconst 1, 1) := by decide +kernel
theorem dX1_hummocks_22 : decode cX1_hummocks 22 = .ok (.iload_n 2, 1) := by decide +kernel
theorem dX1_hummocks_23 : decode cX1_hummocks 23 = .ok (.ishl, 1) := by decide +kernel
theorem dX1_hummocks_24 : decode cX1_hummocks 24 = .ok (.ior, 1) := by decide +kernel
theorem dX1_hummocks_25 : decode cX1_hummocks 25 = .ok (.istore_n 1, 1) := by decide +kernel
theorem dX1_hummocks_26 : decode cX1_hummocks 26 = .ok (.iinc 2 1, 3) := by decide +kernel
theorem dX1_hummocks_29 : decode cX1_hummocks 29 = .ok (.goto (-25), 3) := by decide +kernel
theorem dX1_hummocks_32 : decode cX1_hummocks 32 = .ok (.iload_n 1, 1) := by decide +kernel
theorem dX1_hummocks_33 : decode cX1_hummocks 33 = .ok (.ireturn, 1) := by decide +kernel
theorem dX1_trampsAt_0 : decode cX1_trampsAt 0 = .ok (.iconst 0, 1) := by decide +kernel
theorem dX1_trampsAt_1 : decode cX1_trampsAt 1 = .ok (.istore_n 2, 1) := by decide +kernel
theorem dX1_trampsAt_2 : decode cX1_trampsAt 2 = .ok (.iconst 0, 1) := by decide +kernel
theorem dX1_trampsAt_3 : decode cX1_trampsAt 3 = .ok (.istore_n 3, 1) := by decide +kernel
theorem dX1_trampsAt_4 : decode cX1_trampsAt 4 = .ok (.iload_n 3, 1) := by decide +kernel
theorem dX1_trampsAt_5 : decode cX1_trampsAt 5 = .ok (.aload_n 0, 1) := by decide +kernel
theorem dX1_trampsAt_6 : decode cX1_trampsAt 6 = .ok (.getfield 28, 3) := by decide +kernel
theorem dX1_trampsAt_9 : decode cX1_trampsAt 9 = .ok (.if_icmp .ge 25, 3) := by decide +kernel
theorem dX1_trampsAt_12 : decode cX1_trampsAt 12 = .ok (.aload_n 0, 1) := by decide +kernel
theorem dX1_trampsAt_13 : decode cX1_trampsAt 13 = .ok (.getfield 9, 3) := by decide +kernel
theorem dX1_trampsAt_16 : decode cX1_trampsAt 16 = .ok (.iload_n 3, 1) := by decide +kernel
theorem dX1_trampsAt_17 : decode cX1_trampsAt 17 = .ok (.iaload, 1) := by decide +kernel
theorem dX1_trampsAt_18 : decode cX1_trampsAt 18 = .ok (.iload_n 1, 1) := by decide +kernel
theorem dX1_trampsAt_19 : decode cX1_trampsAt 19 = .ok (.if_icmp .ne 9, 3) := by decide +kernel
theorem dX1_trampsAt_22 : decode cX1_trampsAt 22 = .ok (.iload_n 2, 1) := by decide +kernel
theorem dX1_trampsAt_23 : decode cX1_trampsAt 23 = .ok (.iconst 1, 1) := by decide +kernel
theorem dX1_trampsAt_24 : decode cX1_trampsAt 24 = .ok (.iload_n 3, 1) := by decide +kernel
theorem dX1_trampsAt_25 : decode cX1_trampsAt 25 = .ok (.ishl, 1) := by decide +kernel
theorem dX1_trampsAt_26 : decode cX1_trampsAt 26 = .ok (.ior, 1) := by decide +kernel
theorem dX1_trampsAt_27 : decode cX1_trampsAt 27 = .ok (.istore_n 2, 1) := by decide +kernel
theorem dX1_trampsAt_28 : decode cX1_trampsAt 28 = .ok (.iinc 3 1, 3) := by decide +kernel
theorem dX1_trampsAt_31 : decode cX1_trampsAt 31 = .ok (.goto (-27), 3) := by decide +kernel
theorem dX1_trampsAt_34 : decode cX1_trampsAt 34 = .ok (.iload_n 2, 1) := by decide +kernel
theorem dX1_trampsAt_35 : decode cX1_trampsAt 35 = .ok (.ireturn, 1) := by decide +kernel
theorem dX1_knownAt_0 : decode cX1_knownAt 0 = .ok (.iconst 0, 1) := by decide +kernel
theorem dX1_knownAt_1 : decode cX1_knownAt 1 = .ok (.istore_n 2, 1) := by decide +kernel
theorem dX1_knownAt_2 : decode cX1_knownAt 2 = .ok (.iconst 0, 1) := by decide +kernel
theorem dX1_knownAt_3 : decode cX1_knownAt 3 = .ok (.istore_n 3, 1) := by decide +kernel
theorem dX1_knownAt_4 : decode cX1_knownAt 4 = .ok (.iload_n 3, 1) := by decide +kernel
theorem dX1_knownAt_5 : decode cX1_knownAt 5 = .ok (.aload_n 0, 1) := by decide +kernel
theorem dX1_knownAt_6 : decode cX1_knownAt 6 = .ok (.getfield 28, 3) := by decide +kernel
theorem dX1_knownAt_9 : decode cX1_knownAt 9 = .ok (.if_icmp .ge 28, 3) := by decide +kernel
theorem dX1_knownAt_12 : decode cX1_knownAt 12 = .ok (.aload_n 0, 1) := by decide +kernel
theorem dX1_knownAt_13 : decode cX1_knownAt 13 = .ok (.getfield 9, 3) := by decide +kernel
theorem dX1_knownAt_16 : decode cX1_knownAt 16 = .ok (.iload_n 3, 1) := by decide +kernel
theorem dX1_knownAt_17 : decode cX1_knownAt 17 = .ok (.iaload, 1) := by decide +kernel
theorem dX1_knownAt_18 : decode cX1_knownAt 18 = .ok (.iload_n 1, 1) := by decide +kernel
theorem dX1_knownAt_19 : decode cX1_knownAt 19 = .ok (.if_icmp .ne 12, 3) := by decide +kernel
theorem dX1_knownAt_22 : decode cX1_knownAt 22 = .ok (.iload_n 2, 1) := by decide +kernel
theorem dX1_knownAt_23 : decode cX1_knownAt 23 = .ok (.aload_n 0, 1) := by decide +kernel
theorem dX1_knownAt_24 : decode cX1_knownAt 24 = .ok (.getfield 18, 3) := by decide +kernel
theorem dX1_knownAt_27 : decode cX1_knownAt 27 = .ok (.iload_n 3, 1) := by decide +kernel
theorem dX1_knownAt_28 : decode cX1_knownAt 28 = .ok (.iaload, 1) := by decide +kernel
theorem dX1_knownAt_29 : decode cX1_knownAt 29 = .ok (.ior, 1) := by decide +kernel
theorem dX1_knownAt_30 : decode cX1_knownAt 30 = .ok (.istore_n 2, 1) := by decide +kernel
theorem dX1_knownAt_31 : decode cX1_knownAt 31 = .ok (.iinc 3 1, 3) := by decide +kernel
theorem dX1_knownAt_34 : decode cX1_knownAt 34 = .ok (.goto (-30), 3) := by decide +kernel
theorem dX1_knownAt_37 : decode cX1_knownAt 37 = .ok (.iload_n 2, 1) := by decide +kernel
theorem dX1_knownAt_38 : decode cX1_knownAt 38 = .ok (.ireturn, 1) := by decide +kernel
theorem dX1_knownByAny_0 : decode cX1_knownByAny 0 = .ok (.iconst 0, 1) := by decide +kernel
theorem dX1_knownByAny_1 : decode cX1_knownByAny 1 = .ok (.istore_n 1, 1) := by decide +kernel
theorem dX1_knownByAny_2 : decode cX1_knownByAny 2 = .ok (.iconst 0, 1) := by decide +kernel
theorem dX1_knownByAny_3 : decode cX1_knownByAny 3 = .ok (.istore_n 2, 1) := by decide +kernel
theorem dX1_knownByAny_4 : decode cX1_knownByAny 4 = .ok (.iload_n 2, 1) := by decide +kernel
theorem dX1_knownByAny_5 : decode cX1_knownByAny 5 = .ok (.aload_n 0, 1) := by decide +kernel
theorem dX1_knownByAny_6 : decode cX1_knownByAny 6 = .ok (.getfield 28, 3) := by decide +kernel
theorem dX1_knownByAny_9 : decode cX1_knownByAny 9 = .ok (.if_icmp .ge 18, 3) := by decide +kernel
theorem dX1_knownByAny_12 : decode cX1_knownByAny 12 = .ok (.iload_n 1, 1) := by decide +kernel
theorem dX1_knownByAny_13 : decode cX1_knownByAny 13 = .ok (.aload_n 0, 1) := by decide +kernel
theorem dX1_knownByAny_14 : decode cX1_knownByAny 14 = .ok (.getfield 18, 3) := by decide +kernel
theorem dX1_knownByAny_17 : decode cX1_knownByAny 17 = .ok (.iload_n 2, 1) := by decide +kernel
theorem dX1_knownByAny_18 : decode cX1_knownByAny 18 = .ok (.iaload, 1) := by decide +kernel
theorem dX1_knownByAny_19 : decode cX1_knownByAny 19 = .ok (.ior, 1) := by decide +kernel
theorem dX1_knownByAny_20 : decode cX1_knownByAny 20 = .ok (.istore_n 1, 1) := by decide +kernel
theorem dX1_knownByAny_21 : decode cX1_knownByAny 21 = .ok (.iinc 2 1, 3) := by decide +kernel
theorem dX1_knownByAny_24 : decode cX1_knownByAny 24 = .ok (.goto (-20), 3) := by decide +kernel
theorem dX1_knownByAny_27 : decode cX1_knownByAny 27 = .ok (.iload_n 1, 1) := by decide +kernel
theorem dX1_knownByAny_28 : decode cX1_knownByAny 28 = .ok (.ireturn, 1) := by decide +kernel
theorem dX1_howManyKnow_0 : decode cX1_howManyKnow 0 = .ok (.iconst 0, 1) := by decide +kernel
theorem dX1_howManyKnow_1 : decode cX1_howManyKnow 1 = .ok (.istore_n 2, 1) := by decide +kernel
theorem dX1_howManyKnow_2 : decode cX1_howManyKnow 2 = .ok (.iconst 0, 1) := by decide +kernel
theorem dX1_howManyKnow_3 : decode cX1_howManyKnow 3 = .ok (.istore_n 3, 1) := by decide +kernel
theorem dX1_howManyKnow_4 : decode cX1_howManyKnow 4 = .ok (.iload_n 3, 1) := by decide +kernel
theorem dX1_howManyKnow_5 : decode cX1_howManyKnow 5 = .ok (.aload_n 0, 1) := by decide +kernel
theorem dX1_howManyKnow_6 : decode cX1_howManyKnow 6 = .ok (.getfield 28, 3) := by decide +kernel
theorem dX1_howManyKnow_9 : decode cX1_howManyKnow 9 = .ok (.if_icmp .ge 23, 3) := by decide +kernel
theorem dX1_howManyKnow_12 : decode cX1_howManyKnow 12 = .ok (.aload_n 0, 1) := by decide +kernel
theorem dX1_howManyKnow_13 : decode cX1_howManyKnow 13 = .ok (.getfield 18, 3) := by decide +kernel
theorem dX1_howManyKnow_16 : decode cX1_howManyKnow 16 = .ok (.iload_n 3, 1) := by decide +kernel
theorem dX1_howManyKnow_17 : decode cX1_howManyKnow 17 = .ok (.iaload, 1) := by decide +kernel
theorem dX1_howManyKnow_18 : decode cX1_howManyKnow 18 = .ok (.iload_n 1, 1) := by decide +kernel
theorem dX1_howManyKnow_19 : decode cX1_howManyKnow 19 = .ok (.iand, 1) := by decide +kernel
theorem dX1_howManyKnow_20 : decode cX1_howManyKnow 20 = .ok (.ifCond .eq 6, 3) := by decide +kernel
theorem dX1_howManyKnow_23 : decode cX1_howManyKnow 23 = .ok (.iinc 2 1, 3) := by decide +kernel
theorem dX1_howManyKnow_26 : decode cX1_howManyKnow 26 = .ok (.iinc 3 1, 3) := by decide +kernel
theorem dX1_howManyKnow_29 : decode cX1_howManyKnow 29 = .ok (.goto (-25), 3) := by decide +kernel
theorem dX1_howManyKnow_32 : decode cX1_howManyKnow 32 = .ok (.iload_n 2, 1) := by decide +kernel
theorem dX1_howManyKnow_33 : decode cX1_howManyKnow 33 = .ok (.ireturn, 1) := by decide +kernel
theorem dX1_allThatIsKnown_0 : decode cX1_allThatIsKnown 0 = .ok (.iconst 0, 1) := by decide +kernel
theorem dX1_allThatIsKnown_1 : decode cX1_allThatIsKnown 1 = .ok (.istore_n 1, 1) := by decide +kernel
theorem dX1_allThatIsKnown_2 : decode cX1_allThatIsKnown 2 = .ok (.iconst 0, 1) := by decide +kernel
theorem dX1_allThatIsKnown_3 : decode cX1_allThatIsKnown 3 = .ok (.istore_n 2, 1) := by decide +kernel
theorem dX1_allThatIsKnown_4 : decode cX1_allThatIsKnown 4 = .ok (.iload_n 2, 1) := by decide +kernel
theorem dX1_allThatIsKnown_5 : decode cX1_allThatIsKnown 5 = .ok (.aload_n 0, 1) := by decide +kernel
theorem dX1_allThatIsKnown_6 : decode cX1_allThatIsKnown 6 = .ok (.getfield 28, 3) := by decide +kernel
theorem dX1_allThatIsKnown_9 : decode cX1_allThatIsKnown 9 = .ok (.if_icmp .ge 21, 3) := by decide +kernel
theorem dX1_allThatIsKnown_12 : decode cX1_allThatIsKnown 12 = .ok (.iload_n 1, 1) := by decide +kernel
theorem dX1_allThatIsKnown_13 : decode cX1_allThatIsKnown 13 = .ok (.aload_n 0, 1) := by decide +kernel
theorem dX1_allThatIsKnown_14 : decode cX1_allThatIsKnown 14 = .ok (.getfield 18, 3) := by decide +kernel
theorem dX1_allThatIsKnown_17 : decode cX1_allThatIsKnown 17 = .ok (.iload_n 2, 1) := by decide +kernel
theorem dX1_allThatIsKnown_18 : decode cX1_allThatIsKnown 18 = .ok (.iaload, 1) := by decide +kernel
theorem dX1_allThatIsKnown_19 : decode cX1_allThatIsKnown 19 = .ok (.invokestatic 38, 3) := by decide +kernel
theorem dX1_allThatIsKnown_22 : decode cX1_allThatIsKnown 22 = .ok (.iadd, 1) := by decide +kernel
theorem dX1_allThatIsKnown_23 : decode cX1_allThatIsKnown 23 = .ok (.istore_n 1, 1) := by decide +kernel
theorem dX1_allThatIsKnown_24 : decode cX1_allThatIsKnown 24 = .ok (.iinc 2 1, 3) := by decide +kernel
theorem dX1_allThatIsKnown_27 : decode cX1_allThatIsKnown 27 = .ok (.goto (-23), 3) := by decide +kernel
theorem dX1_allThatIsKnown_30 : decode cX1_allThatIsKnown 30 = .ok (.iload_n 1, 1) := by decide +kernel
theorem dX1_allThatIsKnown_31 : decode cX1_allThatIsKnown 31 = .ok (.ireturn, 1) := by decide +kernel
theorem dX1_passNight_0 : decode cX1_passNight 0 = .ok (.iconst 0, 1) := by decide +kernel
theorem dX1_passNight_1 : decode cX1_passNight 1 = .ok (.istore_n 3, 1) := by decide +kernel
theorem dX1_passNight_2 : decode cX1_passNight 2 = .ok (.iload_n 3, 1) := by decide +kernel
theorem dX1_passNight_3 : decode cX1_passNight 3 = .ok (.aload_n 0, 1) := by decide +kernel
theorem dX1_passNight_4 : decode cX1_passNight 4 = .ok (.getfield 28, 3) := by decide +kernel
theorem dX1_passNight_7 : decode cX1_passNight 7 = .ok (.if_icmp .ge 55, 3) := by decide +kernel
theorem dX1_passNight_10 : decode cX1_passNight 10 = .ok (.aload_n 1, 1) := by decide +kernel
theorem dX1_passNight_11 : decode cX1_passNight 11 = .ok (.aload_n 0, 1) := by decide +kernel
theorem dX1_passNight_12 : decode cX1_passNight 12 = .ok (.getfield 9, 3) := by decide +kernel
theorem dX1_passNight_15 : decode cX1_passNight 15 = .ok (.iload_n 3, 1) := by decide +kernel
theorem dX1_passNight_16 : decode cX1_passNight 16 = .ok (.iaload, 1) := by decide +kernel
theorem dX1_passNight_17 : decode cX1_passNight 17 = .ok (.invokevirtual 44, 3) := by decide +kernel
theorem dX1_passNight_20 : decode cX1_passNight 20 = .ok (.istore 4, 2) := by decide +kernel
theorem dX1_passNight_22 : decode cX1_passNight 22 = .ok (.aload_n 1, 1) := by decide +kernel
theorem dX1_passNight_23 : decode cX1_passNight 23 = .ok (.iload 4, 2) := by decide +kernel
theorem dX1_passNight_25 : decode cX1_passNight 25 = .ok (.invokevirtual 49, 3) := by decide +kernel
theorem dX1_passNight_28 : decode cX1_passNight 28 = .ok (.ifCond .eq 28, 3) := by decide +kernel
theorem dX1_passNight_31 : decode cX1_passNight 31 = .ok (.iload_n 2, 1) := by decide +kernel
theorem dX1_passNight_32 : decode cX1_passNight 32 = .ok (.iconst 1, 1) := by decide +kernel
theorem dX1_passNight_33 : decode cX1_passNight 33 = .ok (.iload 4, 2) := by decide +kernel
theorem dX1_passNight_35 : decode cX1_passNight 35 = .ok (.ishl, 1) := by decide +kernel
theorem dX1_passNight_36 : decode cX1_passNight 36 = .ok (.iand, 1) := by decide +kernel
theorem dX1_passNight_37 : decode cX1_passNight 37 = .ok (.ifCond .ne 19, 3) := by decide +kernel
theorem dX1_passNight_40 : decode cX1_passNight 40 = .ok (.aload_n 0, 1) := by decide +kernel
theorem dX1_passNight_41 : decode cX1_passNight 41 = .ok (.iload_n 3, 1) := by decide +kernel
theorem dX1_passNight_42 : decode cX1_passNight 42 = .ok (.invokevirtual 34, 3) := by decide +kernel
theorem dX1_passNight_45 : decode cX1_passNight 45 = .ok (.ifCond .ne 11, 3) := by decide +kernel
theorem dX1_passNight_48 : decode cX1_passNight 48 = .ok (.aload_n 0, 1) := by decide +kernel
theorem dX1_passNight_49 : decode cX1_passNight 49 = .ok (.iload_n 3, 1) := by decide +kernel
theorem dX1_passNight_50 : decode cX1_passNight 50 = .ok (.aload_n 1, 1) := by decide +kernel
theorem dX1_passNight_51 : decode cX1_passNight 51 = .ok (.iload 4, 2) := by decide +kernel
theorem dX1_passNight_53 : decode cX1_passNight 53 = .ok (.invokevirtual 52, 3) := by decide +kernel
theorem dX1_passNight_56 : decode cX1_passNight 56 = .ok (.iinc 3 1, 3) := by decide +kernel
theorem dX1_passNight_59 : decode cX1_passNight 59 = .ok (.goto (-57), 3) := by decide +kernel
theorem dX1_passNight_62 : decode cX1_passNight 62 = .ok (.iconst 0, 1) := by decide +kernel
theorem dX1_passNight_63 : decode cX1_passNight 63 = .ok (.istore_n 3, 1) := by decide +kernel
theorem dX1_passNight_64 : decode cX1_passNight 64 = .ok (.iload_n 3, 1) := by decide +kernel
theorem dX1_passNight_65 : decode cX1_passNight 65 = .ok (.aload_n 0, 1) := by decide +kernel
theorem dX1_passNight_66 : decode cX1_passNight 66 = .ok (.getfield 28, 3) := by decide +kernel
theorem dX1_passNight_69 : decode cX1_passNight 69 = .ok (.if_icmp .ge 46, 3) := by decide +kernel
theorem dX1_passNight_72 : decode cX1_passNight 72 = .ok (.aload_n 0, 1) := by decide +kernel
theorem dX1_passNight_73 : decode cX1_passNight 73 = .ok (.getfield 15, 3) := by decide +kernel
theorem dX1_passNight_76 : decode cX1_passNight 76 = .ok (.iload_n 3, 1) := by decide +kernel
theorem dX1_passNight_77 : decode cX1_passNight 77 = .ok (.iaload, 1) := by decide +kernel
theorem dX1_passNight_78 : decode cX1_passNight 78 = .ok (.iconst 3, 1) := by decide +kernel
theorem dX1_passNight_79 : decode cX1_passNight 79 = .ok (.if_icmp .ne 30, 3) := by decide +kernel
theorem dX1_passNight_82 : decode cX1_passNight 82 = .ok (.aload_n 0, 1) := by decide +kernel
theorem dX1_passNight_83 : decode cX1_passNight 83 = .ok (.iload_n 3, 1) := by decide +kernel
theorem dX1_passNight_84 : decode cX1_passNight 84 = .ok (.invokevirtual 34, 3) := by decide +kernel
theorem dX1_passNight_87 : decode cX1_passNight 87 = .ok (.ifCond .ne 22, 3) := by decide +kernel
theorem dX1_passNight_90 : decode cX1_passNight 90 = .ok (.aload_n 0, 1) := by decide +kernel
theorem dX1_passNight_91 : decode cX1_passNight 91 = .ok (.getfield 18, 3) := by decide +kernel
theorem dX1_passNight_94 : decode cX1_passNight 94 = .ok (.iload_n 3, 1) := by decide +kernel
theorem dX1_passNight_95 : decode cX1_passNight 95 = .ok (.dup2, 1) := by decide +kernel
theorem dX1_passNight_96 : decode cX1_passNight 96 = .ok (.iaload, 1) := by decide +kernel
theorem dX1_passNight_97 : decode cX1_passNight 97 = .ok (.aload_n 0, 1) := by decide +kernel
theorem dX1_passNight_98 : decode cX1_passNight 98 = .ok (.aload_n 0, 1) := by decide +kernel
theorem dX1_passNight_99 : decode cX1_passNight 99 = .ok (.getfield 9, 3) := by decide +kernel
theorem dX1_passNight_102 : decode cX1_passNight 102 = .ok (.iload_n 3, 1) := by decide +kernel
theorem dX1_passNight_103 : decode cX1_passNight 103 = .ok (.iaload, 1) := by decide +kernel
theorem dX1_passNight_104 : decode cX1_passNight 104 = .ok (.invokevirtual 56, 3) := by decide +kernel
theorem dX1_passNight_107 : decode cX1_passNight 107 = .ok (.ior, 1) := by decide +kernel
theorem dX1_passNight_108 : decode cX1_passNight 108 = .ok (.iastore, 1) := by decide +kernel
theorem dX1_passNight_109 : decode cX1_passNight 109 = .ok (.iinc 3 1, 3) := by decide +kernel
theorem dX1_passNight_112 : decode cX1_passNight 112 = .ok (.goto (-48), 3) := by decide +kernel
theorem dX1_passNight_115 : decode cX1_passNight 115 = .ok (.aload_n 0, 1) := by decide +kernel
theorem dX1_passNight_116 : decode cX1_passNight 116 = .ok (.iconst 0, 1) := by decide +kernel
theorem dX1_passNight_117 : decode cX1_passNight 117 = .ok (.putfield 24, 3) := by decide +kernel
theorem dX1_passNight_120 : decode cX1_passNight 120 = .ok (.aload_n 0, 1) := by decide +kernel
theorem dX1_passNight_121 : decode cX1_passNight 121 = .ok (.dup, 1) := by decide +kernel
theorem dX1_passNight_122 : decode cX1_passNight 122 = .ok (.getfield 31, 3) := by decide +kernel
theorem dX1_passNight_125 : decode cX1_passNight 125 = .ok (.iconst 1, 1) := by decide +kernel
theorem dX1_passNight_126 : decode cX1_passNight 126 = .ok (.iadd, 1) := by decide +kernel
theorem dX1_passNight_127 : decode cX1_passNight 127 = .ok (.putfield 31, 3) := by decide +kernel
theorem dX1_passNight_130 : decode cX1_passNight 130 = .ok (.return_, 1) := by decide +kernel
theorem dX1_lieUp_0 : decode cX1_lieUp 0 = .ok (.aload_n 0, 1) := by decide +kernel
theorem dX1_lieUp_1 : decode cX1_lieUp 1 = .ok (.getfield 15, 3) := by decide +kernel
theorem dX1_lieUp_4 : decode cX1_lieUp 4 = .ok (.iload_n 1, 1) := by decide +kernel
theorem dX1_lieUp_5 : decode cX1_lieUp 5 = .ok (.iaload, 1) := by decide +kernel
theorem dX1_lieUp_6 : decode cX1_lieUp 6 = .ok (.invokestatic 59, 3) := by decide +kernel
theorem dX1_lieUp_9 : decode cX1_lieUp 9 = .ok (.istore 4, 2) := by decide +kernel
theorem dX1_lieUp_11 : decode cX1_lieUp 11 = .ok (.iconst 0, 1) := by decide +kernel
theorem dX1_lieUp_12 : decode cX1_lieUp 12 = .ok (.istore 5, 2) := by decide +kernel
theorem dX1_lieUp_14 : decode cX1_lieUp 14 = .ok (.iload 5, 2) := by decide +kernel
theorem dX1_lieUp_16 : decode cX1_lieUp 16 = .ok (.aload_n 2, 1) := by decide +kernel
theorem dX1_lieUp_17 : decode cX1_lieUp 17 = .ok (.getfield 62, 3) := by decide +kernel
theorem dX1_lieUp_20 : decode cX1_lieUp 20 = .ok (.iload_n 3, 1) := by decide +kernel
theorem dX1_lieUp_21 : decode cX1_lieUp 21 = .ok (.iaload, 1) := by decide +kernel
theorem dX1_lieUp_22 : decode cX1_lieUp 22 = .ok (.if_icmp .ge 51, 3) := by decide +kernel
theorem dX1_lieUp_25 : decode cX1_lieUp 25 = .ok (.iload 4, 2) := by decide +kernel
theorem dX1_lieUp_27 : decode cX1_lieUp 27 = .ok (.ifCond .le 46, 3) := by decide +kernel
theorem dX1_lieUp_30 : decode cX1_lieUp 30 = .ok (.iconst 1, 1) := by decide +kernel
theorem dX1_lieUp_31 : decode cX1_lieUp 31 = .ok (.aload_n 2, 1) := by decide +kernel
theorem dX1_lieUp_32 : decode cX1_lieUp 32 = .ok (.iload_n 3, 1) := by decide +kernel
theorem dX1_lieUp_33 : decode cX1_lieUp 33 = .ok (.iload 5, 2) := by decide +kernel
theorem dX1_lieUp_35 : decode cX1_lieUp 35 = .ok (.invokevirtual 65, 3) := by decide +kernel
theorem dX1_lieUp_38 : decode cX1_lieUp 38 = .ok (.ishl, 1) := by decide +kernel
theorem dX1_lieUp_39 : decode cX1_lieUp 39 = .ok (.istore 6, 2) := by decide +kernel
theorem dX1_lieUp_41 : decode cX1_lieUp 41 = .ok (.aload_n 0, 1) := by decide +kernel
theorem dX1_lieUp_42 : decode cX1_lieUp 42 = .ok (.getfield 18, 3) := by decide +kernel
theorem dX1_lieUp_45 : decode cX1_lieUp 45 = .ok (.iload_n 1, 1) := by decide +kernel
theorem dX1_lieUp_46 : decode cX1_lieUp 46 = .ok (.iaload, 1) := by decide +kernel
theorem dX1_lieUp_47 : decode cX1_lieUp 47 = .ok (.iload 6, 2) := by decide +kernel
theorem dX1_lieUp_49 : decode cX1_lieUp 49 = .ok (.iand, 1) := by decide +kernel
theorem dX1_lieUp_50 : decode cX1_lieUp 50 = .ok (.ifCond .ne 17, 3) := by decide +kernel
theorem dX1_lieUp_53 : decode cX1_lieUp 53 = .ok (.aload_n 0, 1) := by decide +kernel
theorem dX1_lieUp_54 : decode cX1_lieUp 54 = .ok (.getfield 18, 3) := by decide +kernel
theorem dX1_lieUp_57 : decode cX1_lieUp 57 = .ok (.iload_n 1, 1) := by decide +kernel
theorem dX1_lieUp_58 : decode cX1_lieUp 58 = .ok (.dup2, 1) := by decide +kernel
theorem dX1_lieUp_59 : decode cX1_lieUp 59 = .ok (.iaload, 1) := by decide +kernel
theorem dX1_lieUp_60 : decode cX1_lieUp 60 = .ok (.iload 6, 2) := by decide +kernel
theorem dX1_lieUp_62 : decode cX1_lieUp 62 = .ok (.ior, 1) := by decide +kernel
theorem dX1_lieUp_63 : decode cX1_lieUp 63 = .ok (.iastore, 1) := by decide +kernel
theorem dX1_lieUp_64 : decode cX1_lieUp 64 = .ok (.iinc 4 (-1), 3) := by decide +kernel
theorem dX1_lieUp_67 : decode cX1_lieUp 67 = .ok (.iinc 5 1, 3) := by decide +kernel
theorem dX1_lieUp_70 : decode cX1_lieUp 70 = .ok (.goto (-56), 3) := by decide +kernel
theorem dX1_lieUp_73 : decode cX1_lieUp 73 = .ok (.aload_n 0, 1) := by decide +kernel
theorem dX1_lieUp_74 : decode cX1_lieUp 74 = .ok (.getfield 15, 3) := by decide +kernel
theorem dX1_lieUp_77 : decode cX1_lieUp 77 = .ok (.iload_n 1, 1) := by decide +kernel
theorem dX1_lieUp_78 : decode cX1_lieUp 78 = .ok (.iaload, 1) := by decide +kernel
theorem dX1_lieUp_79 : decode cX1_lieUp 79 = .ok (.iconst 2, 1) := by decide +kernel
theorem dX1_lieUp_80 : decode cX1_lieUp 80 = .ok (.if_icmp .ne 7, 3) := by decide +kernel
theorem dX1_lieUp_83 : decode cX1_lieUp 83 = .ok (.iconst 2, 1) := by decide +kernel
theorem dX1_lieUp_84 : decode cX1_lieUp 84 = .ok (.goto 4, 3) := by decide +kernel
theorem dX1_lieUp_87 : decode cX1_lieUp 87 = .ok (.iconst 1, 1) := by decide +kernel
theorem dX1_lieUp_88 : decode cX1_lieUp 88 = .ok (.istore 5, 2) := by decide +kernel
theorem dX1_lieUp_90 : decode cX1_lieUp 90 = .ok (.aload_n 0, 1) := by decide +kernel
theorem dX1_lieUp_91 : decode cX1_lieUp 91 = .ok (.getfield 21, 3) := by decide +kernel
theorem dX1_lieUp_94 : decode cX1_lieUp 94 = .ok (.iload_n 1, 1) := by decide +kernel
theorem dX1_lieUp_95 : decode cX1_lieUp 95 = .ok (.bipush 9, 2) := by decide +kernel
theorem dX1_lieUp_97 : decode cX1_lieUp 97 = .ok (.aload_n 0, 1) := by decide +kernel
theorem dX1_lieUp_98 : decode cX1_lieUp 98 = .ok (.getfield 21, 3) := by decide +kernel
theorem dX1_lieUp_101 : decode cX1_lieUp 101 = .ok (.iload_n 1, 1) := by decide +kernel
theorem dX1_lieUp_102 : decode cX1_lieUp 102 = .ok (.iaload, 1) := by decide +kernel
theorem dX1_lieUp_103 : decode cX1_lieUp 103 = .ok (.iload 5, 2) := by decide +kernel
theorem dX1_lieUp_105 : decode cX1_lieUp 105 = .ok (.iadd, 1) := by decide +kernel
theorem dX1_lieUp_106 : decode cX1_lieUp 106 = .ok (.invokestatic 69, 3) := by decide +kernel
theorem dX1_lieUp_109 : decode cX1_lieUp 109 = .ok (.iastore, 1) := by decide +kernel
theorem dX1_lieUp_110 : decode cX1_lieUp 110 = .ok (.return_, 1) := by decide +kernel
theorem dX1_mayGo_0 : decode cX1_mayGo 0 = .ok (.aload_n 0, 1) := by decide +kernel
theorem dX1_mayGo_1 : decode cX1_mayGo 1 = .ok (.iload_n 1, 1) := by decide +kernel
theorem dX1_mayGo_2 : decode cX1_mayGo 2 = .ok (.invokevirtual 74, 3) := by decide +kernel
theorem dX1_mayGo_5 : decode cX1_mayGo 5 = .ok (.ifCond .eq 26, 3) := by decide +kernel
theorem dX1_mayGo_8 : decode cX1_mayGo 8 = .ok (.iload_n 2, 1) := by decide +kernel
theorem dX1_mayGo_9 : decode cX1_mayGo 9 = .ok (.invokestatic 75, 3) := by decide +kernel
theorem dX1_mayGo_12 : decode cX1_mayGo 12 = .ok (.ifCond .eq 19, 3) := by decide +kernel
theorem dX1_mayGo_15 : decode cX1_mayGo 15 = .ok (.aload_n 0, 1) := by decide +kernel
theorem dX1_mayGo_16 : decode cX1_mayGo 16 = .ok (.iload_n 1, 1) := by decide +kernel
theorem dX1_mayGo_17 : decode cX1_mayGo 17 = .ok (.invokevirtual 34, 3) := by decide +kernel
theorem dX1_mayGo_20 : decode cX1_mayGo 20 = .ok (.ifCond .ne 11, 3) := by decide +kernel
theorem dX1_mayGo_23 : decode cX1_mayGo 23 = .ok (.aload_n 0, 1) := by decide +kernel
theorem dX1_mayGo_24 : decode cX1_mayGo 24 = .ok (.iload_n 1, 1) := by decide +kernel
theorem dX1_mayGo_25 : decode cX1_mayGo 25 = .ok (.invokevirtual 78, 3) := by decide +kernel
theorem dX1_mayGo_28 : decode cX1_mayGo 28 = .ok (.ifCond .eq 5, 3) := by decide +kernel
theorem dX1_mayGo_31 : decode cX1_mayGo 31 = .ok (.iconst 0, 1) := by decide +kernel
theorem dX1_mayGo_32 : decode cX1_mayGo 32 = .ok (.ireturn, 1) := by decide +kernel
theorem dX1_mayGo_33 : decode cX1_mayGo 33 = .ok (.iload_n 2, 1) := by decide +kernel
theorem dX1_mayGo_34 : decode cX1_mayGo 34 = .ok (.aload_n 0, 1) := by decide +kernel
theorem dX1_mayGo_35 : decode cX1_mayGo 35 = .ok (.getfield 9, 3) := by decide +kernel
theorem dX1_mayGo_38 : decode cX1_mayGo 38 = .ok (.iload_n 1, 1) := by decide +kernel
theorem dX1_mayGo_39 : decode cX1_mayGo 39 = .ok (.iaload, 1) := by decide +kernel
theorem dX1_mayGo_40 : decode cX1_mayGo 40 = .ok (.isub, 1) := by decide +kernel
theorem dX1_mayGo_41 : decode cX1_mayGo 41 = .ok (.invokestatic 81, 3) := by decide +kernel
theorem dX1_mayGo_44 : decode cX1_mayGo 44 = .ok (.istore_n 3, 1) := by decide +kernel
theorem dX1_mayGo_45 : decode cX1_mayGo 45 = .ok (.iload_n 3, 1) := by decide +kernel
theorem dX1_mayGo_46 : decode cX1_mayGo 46 = .ok (.ifCond .le 16, 3) := by decide +kernel
theorem dX1_mayGo_49 : decode cX1_mayGo 49 = .ok (.iload_n 3, 1) := by decide +kernel
theorem dX1_mayGo_50 : decode cX1_mayGo 50 = .ok (.aload_n 0, 1) := by decide +kernel
theorem dX1_mayGo_51 : decode cX1_mayGo 51 = .ok (.iload_n 1, 1) := by decide +kernel
theorem dX1_mayGo_52 : decode cX1_mayGo 52 = .ok (.invokevirtual 84, 3) := by decide +kernel
theorem dX1_mayGo_55 : decode cX1_mayGo 55 = .ok (.if_icmp .gt 7, 3) := by decide +kernel
theorem dX1_mayGo_58 : decode cX1_mayGo 58 = .ok (.iconst 1, 1) := by decide +kernel
theorem dX1_mayGo_59 : decode cX1_mayGo 59 = .ok (.goto 4, 3) := by decide +kernel
theorem dX1_mayGo_62 : decode cX1_mayGo 62 = .ok (.iconst 0, 1) := by decide +kernel
theorem dX1_mayGo_63 : decode cX1_mayGo 63 = .ok (.ireturn, 1) := by decide +kernel
theorem dX1_goTo_0 : decode cX1_goTo 0 = .ok (.aload_n 0, 1) := by decide +kernel
theorem dX1_goTo_1 : decode cX1_goTo 1 = .ok (.getfield 9, 3) := by decide +kernel
theorem dX1_goTo_4 : decode cX1_goTo 4 = .ok (.iload_n 1, 1) := by decide +kernel
theorem dX1_goTo_5 : decode cX1_goTo 5 = .ok (.iload_n 2, 1) := by decide +kernel
theorem dX1_goTo_6 : decode cX1_goTo 6 = .ok (.iastore, 1) := by decide +kernel
theorem dX1_goTo_7 : decode cX1_goTo 7 = .ok (.aload_n 0, 1) := by decide +kernel
theorem dX1_goTo_8 : decode cX1_goTo 8 = .ok (.dup, 1) := by decide +kernel
theorem dX1_goTo_9 : decode cX1_goTo 9 = .ok (.getfield 24, 3) := by decide +kernel
theorem dX1_goTo_12 : decode cX1_goTo 12 = .ok (.iconst 1, 1) := by decide +kernel
theorem dX1_goTo_13 : decode cX1_goTo 13 = .ok (.iload_n 1, 1) := by decide +kernel
theorem dX1_goTo_14 : decode cX1_goTo 14 = .ok (.ishl, 1) := by decide +kernel
theorem dX1_goTo_15 : decode cX1_goTo 15 = .ok (.ior, 1) := by decide +kernel
theorem dX1_goTo_16 : decode cX1_goTo 16 = .ok (.putfield 24, 3) := by decide +kernel
theorem dX1_goTo_19 : decode cX1_goTo 19 = .ok (.return_, 1) := by decide +kernel
theorem dX1_goesIfItMay_0 : decode cX1_goesIfItMay 0 = .ok (.aload_n 0, 1) := by decide +kernel
theorem dX1_goesIfItMay_1 : decode cX1_goesIfItMay 1 = .ok (.iload_n 1, 1) := by decide +kernel
theorem dX1_goesIfItMay_2 : decode cX1_goesIfItMay 2 = .ok (.iload_n 2, 1) := by decide +kernel
theorem dX1_goesIfItMay_3 : decode cX1_goesIfItMay 3 = .ok (.invokevirtual 87, 3) := by decide +kernel
theorem dX1_goesIfItMay_6 : decode cX1_goesIfItMay 6 = .ok (.ifCond .ne 5, 3) := by decide +kernel
theorem dX1_goesIfItMay_9 : decode cX1_goesIfItMay 9 = .ok (.iconst 0, 1) := by decide +kernel
theorem dX1_goesIfItMay_10 : decode cX1_goesIfItMay 10 = .ok (.ireturn, 1) := by decide +kernel
theorem dX1_goesIfItMay_11 : decode cX1_goesIfItMay 11 = .ok (.aload_n 0, 1) := by decide +kernel
theorem dX1_goesIfItMay_12 : decode cX1_goesIfItMay 12 = .ok (.iload_n 1, 1) := by decide +kernel
theorem dX1_goesIfItMay_13 : decode cX1_goesIfItMay 13 = .ok (.iload_n 2, 1) := by decide +kernel
theorem dX1_goesIfItMay_14 : decode cX1_goesIfItMay 14 = .ok (.invokevirtual 91, 3) := by decide +kernel
theorem dX1_goesIfItMay_17 : decode cX1_goesIfItMay 17 = .ok (.iconst 1, 1) := by decide +kernel
theorem dX1_goesIfItMay_18 : decode cX1_goesIfItMay 18 = .ok (.ireturn, 1) := by decide +kernel
theorem dX1_mayHear_0 : decode cX1_mayHear 0 = .ok (.aload_n 0, 1) := by decide +kernel
theorem dX1_mayHear_1 : decode cX1_mayHear 1 = .ok (.iload_n 1, 1) := by decide +kernel
theorem dX1_mayHear_2 : decode cX1_mayHear 2 = .ok (.invokevirtual 74, 3) := by decide +kernel
theorem dX1_mayHear_5 : decode cX1_mayHear 5 = .ok (.ifCond .eq 43, 3) := by decide +kernel
theorem dX1_mayHear_8 : decode cX1_mayHear 8 = .ok (.aload_n 0, 1) := by decide +kernel
theorem dX1_mayHear_9 : decode cX1_mayHear 9 = .ok (.iload_n 2, 1) := by decide +kernel
theorem dX1_mayHear_10 : decode cX1_mayHear 10 = .ok (.invokevirtual 74, 3) := by decide +kernel
theorem dX1_mayHear_13 : decode cX1_mayHear 13 = .ok (.ifCond .eq 35, 3) := by decide +kernel
theorem dX1_mayHear_16 : decode cX1_mayHear 16 = .ok (.iload_n 1, 1) := by decide +kernel
theorem dX1_mayHear_17 : decode cX1_mayHear 17 = .ok (.iload_n 2, 1) := by decide +kernel
theorem dX1_mayHear_18 : decode cX1_mayHear 18 = .ok (.if_icmp .eq 30, 3) := by decide +kernel
theorem dX1_mayHear_21 : decode cX1_mayHear 21 = .ok (.aload_n 0, 1) := by decide +kernel
theorem dX1_mayHear_22 : decode cX1_mayHear 22 = .ok (.getfield 9, 3) := by decide +kernel
theorem dX1_mayHear_25 : decode cX1_mayHear 25 = .ok (.iload_n 1, 1) := by decide +kernel
theorem dX1_mayHear_26 : decode cX1_mayHear 26 = .ok (.iaload, 1) := by decide +kernel
theorem dX1_mayHear_27 : decode cX1_mayHear 27 = .ok (.aload_n 0, 1) := by decide +kernel
theorem dX1_mayHear_28 : decode cX1_mayHear 28 = .ok (.getfield 9, 3) := by decide +kernel
theorem dX1_mayHear_31 : decode cX1_mayHear 31 = .ok (.iload_n 2, 1) := by decide +kernel
theorem dX1_mayHear_32 : decode cX1_mayHear 32 = .ok (.iaload, 1) := by decide +kernel
theorem dX1_mayHear_33 : decode cX1_mayHear 33 = .ok (.if_icmp .ne 15, 3) := by decide +kernel
theorem dX1_mayHear_36 : decode cX1_mayHear 36 = .ok (.aload_n 0, 1) := by decide +kernel
theorem dX1_mayHear_37 : decode cX1_mayHear 37 = .ok (.iload_n 2, 1) := by decide +kernel
theorem dX1_mayHear_38 : decode cX1_mayHear 38 = .ok (.invokevirtual 34, 3) := by decide +kernel
theorem dX1_mayHear_41 : decode cX1_mayHear 41 = .ok (.ifCond .ne 7, 3) := by decide +kernel
theorem dX1_mayHear_44 : decode cX1_mayHear 44 = .ok (.iconst 1, 1) := by decide +kernel
theorem dX1_mayHear_45 : decode cX1_mayHear 45 = .ok (.goto 4, 3) := by decide +kernel
theorem dX1_mayHear_48 : decode cX1_mayHear 48 = .ok (.iconst 0, 1) := by decide +kernel
theorem dX1_mayHear_49 : decode cX1_mayHear 49 = .ok (.ireturn, 1) := by decide +kernel
theorem dX1_hear_0 : decode cX1_hear 0 = .ok (.aload_n 0, 1) := by decide +kernel
theorem dX1_hear_1 : decode cX1_hear 1 = .ok (.getfield 18, 3) := by decide +kernel
theorem dX1_hear_4 : decode cX1_hear 4 = .ok (.iload_n 2, 1) := by decide +kernel
theorem dX1_hear_5 : decode cX1_hear 5 = .ok (.dup2, 1) := by decide +kernel
theorem dX1_hear_6 : decode cX1_hear 6 = .ok (.iaload, 1) := by decide +kernel
theorem dX1_hear_7 : decode cX1_hear 7 = .ok (.aload_n 0, 1) := by decide +kernel
theorem dX1_hear_8 : decode cX1_hear 8 = .ok (.getfield 18, 3) := by decide +kernel
theorem dX1_hear_11 : decode cX1_hear 11 = .ok (.iload_n 1, 1) := by decide +kernel
theorem dX1_hear_12 : decode cX1_hear 12 = .ok (.iaload, 1) := by decide +kernel
theorem dX1_hear_13 : decode cX1_hear 13 = .ok (.ior, 1) := by decide +kernel
theorem dX1_hear_14 : decode cX1_hear 14 = .ok (.iastore, 1) := by decide +kernel
theorem dX1_hear_15 : decode cX1_hear 15 = .ok (.return_, 1) := by decide +kernel
theorem dX1_hearsIfItMay_0 : decode cX1_hearsIfItMay 0 = .ok (.aload_n 0, 1) := by decide +kernel
theorem dX1_hearsIfItMay_1 : decode cX1_hearsIfItMay 1 = .ok (.iload_n 1, 1) := by decide +kernel
theorem dX1_hearsIfItMay_2 : decode cX1_hearsIfItMay 2 = .ok (.iload_n 2, 1) := by decide +kernel
theorem dX1_hearsIfItMay_3 : decode cX1_hearsIfItMay 3 = .ok (.invokevirtual 95, 3) := by decide +kernel
theorem dX1_hearsIfItMay_6 : decode cX1_hearsIfItMay 6 = .ok (.ifCond .ne 5, 3) := by decide +kernel
theorem dX1_hearsIfItMay_9 : decode cX1_hearsIfItMay 9 = .ok (.iconst 0, 1) := by decide +kernel
theorem dX1_hearsIfItMay_10 : decode cX1_hearsIfItMay 10 = .ok (.ireturn, 1) := by decide +kernel
theorem dX1_hearsIfItMay_11 : decode cX1_hearsIfItMay 11 = .ok (.aload_n 0, 1) := by decide +kernel
theorem dX1_hearsIfItMay_12 : decode cX1_hearsIfItMay 12 = .ok (.iload_n 1, 1) := by decide +kernel
theorem dX1_hearsIfItMay_13 : decode cX1_hearsIfItMay 13 = .ok (.iload_n 2, 1) := by decide +kernel
theorem dX1_hearsIfItMay_14 : decode cX1_hearsIfItMay 14 = .ok (.invokevirtual 98, 3) := by decide +kernel
theorem dX1_hearsIfItMay_17 : decode cX1_hearsIfItMay 17 = .ok (.iconst 1, 1) := by decide +kernel
theorem dX1_hearsIfItMay_18 : decode cX1_hearsIfItMay 18 = .ok (.ireturn, 1) := by decide +kernel
theorem dX1_mayBathe_0 : decode cX1_mayBathe 0 = .ok (.aload_n 0, 1) := by decide +kernel
theorem dX1_mayBathe_1 : decode cX1_mayBathe 1 = .ok (.iload_n 1, 1) := by decide +kernel
theorem dX1_mayBathe_2 : decode cX1_mayBathe 2 = .ok (.invokevirtual 74, 3) := by decide +kernel
theorem dX1_mayBathe_5 : decode cX1_mayBathe 5 = .ok (.ifCond .eq 15, 3) := by decide +kernel
theorem dX1_mayBathe_8 : decode cX1_mayBathe 8 = .ok (.aload_n 0, 1) := by decide +kernel
theorem dX1_mayBathe_9 : decode cX1_mayBathe 9 = .ok (.iload_n 1, 1) := by decide +kernel
theorem dX1_mayBathe_10 : decode cX1_mayBathe 10 = .ok (.invokevirtual 34, 3) := by decide +kernel
theorem dX1_mayBathe_13 : decode cX1_mayBathe 13 = .ok (.ifCond .ne 7, 3) := by decide +kernel
theorem dX1_mayBathe_16 : decode cX1_mayBathe 16 = .ok (.iconst 1, 1) := by decide +kernel
theorem dX1_mayBathe_17 : decode cX1_mayBathe 17 = .ok (.goto 4, 3) := by decide +kernel
theorem dX1_mayBathe_20 : decode cX1_mayBathe 20 = .ok (.iconst 0, 1) := by decide +kernel
theorem dX1_mayBathe_21 : decode cX1_mayBathe 21 = .ok (.ireturn, 1) := by decide +kernel
theorem dX1_bathe_0 : decode cX1_bathe 0 = .ok (.aload_n 0, 1) := by decide +kernel
theorem dX1_bathe_1 : decode cX1_bathe 1 = .ok (.getfield 18, 3) := by decide +kernel
theorem dX1_bathe_4 : decode cX1_bathe 4 = .ok (.iload_n 1, 1) := by decide +kernel
theorem dX1_bathe_5 : decode cX1_bathe 5 = .ok (.iconst 0, 1) := by decide +kernel
theorem dX1_bathe_6 : decode cX1_bathe 6 = .ok (.iastore, 1) := by decide +kernel
theorem dX1_bathe_7 : decode cX1_bathe 7 = .ok (.aload_n 0, 1) := by decide +kernel
theorem dX1_bathe_8 : decode cX1_bathe 8 = .ok (.getfield 21, 3) := by decide +kernel
theorem dX1_bathe_11 : decode cX1_bathe 11 = .ok (.iload_n 1, 1) := by decide +kernel
theorem dX1_bathe_12 : decode cX1_bathe 12 = .ok (.iconst 0, 1) := by decide +kernel
theorem dX1_bathe_13 : decode cX1_bathe 13 = .ok (.iastore, 1) := by decide +kernel
theorem dX1_bathe_14 : decode cX1_bathe 14 = .ok (.return_, 1) := by decide +kernel
theorem dX1_bathesIfItMay_0 : decode cX1_bathesIfItMay 0 = .ok (.aload_n 0, 1) := by decide +kernel
theorem dX1_bathesIfItMay_1 : decode cX1_bathesIfItMay 1 = .ok (.iload_n 1, 1) := by decide +kernel
theorem dX1_bathesIfItMay_2 : decode cX1_bathesIfItMay 2 = .ok (.invokevirtual 101, 3) := by decide +kernel
theorem dX1_bathesIfItMay_5 : decode cX1_bathesIfItMay 5 = .ok (.ifCond .ne 5, 3) := by decide +kernel
theorem dX1_bathesIfItMay_8 : decode cX1_bathesIfItMay 8 = .ok (.iconst 0, 1) := by decide +kernel
theorem dX1_bathesIfItMay_9 : decode cX1_bathesIfItMay 9 = .ok (.ireturn, 1) := by decide +kernel
theorem dX1_bathesIfItMay_10 : decode cX1_bathesIfItMay 10 = .ok (.aload_n 0, 1) := by decide +kernel
theorem dX1_bathesIfItMay_11 : decode cX1_bathesIfItMay 11 = .ok (.iload_n 1, 1) := by decide +kernel
theorem dX1_bathesIfItMay_12 : decode cX1_bathesIfItMay 12 = .ok (.invokevirtual 104, 3) := by decide +kernel
theorem dX1_bathesIfItMay_15 : decode cX1_bathesIfItMay 15 = .ok (.iconst 1, 1) := by decide +kernel
theorem dX1_bathesIfItMay_16 : decode cX1_bathesIfItMay 16 = .ok (.ireturn, 1) := by decide +kernel
theorem dX2_init_0 : decode cX2_init 0 = .ok (.aload_n 0, 1) := by decide +kernel
theorem dX2_init_1 : decode cX2_init 1 = .ok (.invokespecial 3, 3) := by decide +kernel
theorem dX2_init_4 : decode cX2_init 4 = .ok (.aload_n 0, 1) := by decide +kernel
theorem dX2_init_5 : decode cX2_init 5 = .ok (.bipush 16, 2) := by decide +kernel
theorem dX2_init_7 : decode cX2_init 7 = .ok (.newarray .int, 2) := by decide +kernel
theorem dX2_init_9 : decode cX2_init 9 = .ok (.putfield 11, 3) := by decide +kernel
theorem dX2_init_12 : decode cX2_init 12 = .ok (.aload_n 0, 1) := by decide +kernel
theorem dX2_init_13 : decode cX2_init 13 = .ok (.bipush 16, 2) := by decide +kernel
theorem dX2_init_15 : decode cX2_init 15 = .ok (.newarray .int, 2) := by decide +kernel
theorem dX2_init_17 : decode cX2_init 17 = .ok (.putfield 15, 3) := by decide +kernel
theorem dX2_init_20 : decode cX2_init 20 = .ok (.aload_n 0, 1) := by decide +kernel
theorem dX2_init_21 : decode cX2_init 21 = .ok (.iconst 0, 1) := by decide +kernel
theorem dX2_init_22 : decode cX2_init 22 = .ok (.putfield 18, 3) := by decide +kernel
theorem dX2_init_25 : decode cX2_init 25 = .ok (.aload_n 0, 1) := by decide +kernel
theorem dX2_init_26 : decode cX2_init 26 = .ok (.bipush (-9), 2) := by decide +kernel
theorem dX2_init_28 : decode cX2_init 28 = .ok (.putfield 22, 3) := by decide +kernel
theorem dX2_init_31 : decode cX2_init 31 = .ok (.return_, 1) := by decide +kernel
theorem dX2_play_0 : decode cX2_play 0 = .ok (.iconst 0, 1) := by decide +kernel
theorem dX2_play_1 : decode cX2_play 1 = .ok (.istore 6, 2) := by decide +kernel
theorem dX2_play_3 : decode cX2_play 3 = .ok (.iload 6, 2) := by decide +kernel
theorem dX2_play_5 : decode cX2_play 5 = .ok (.iconst 4, 1) := by decide +kernel
theorem dX2_play_6 : decode cX2_play 6 = .ok (.if_icmp .ge 93, 3) := by decide +kernel
theorem dX2_play_9 : decode cX2_play 9 = .ok (.iconst 0, 1) := by decide +kernel
theorem dX2_play_10 : decode cX2_play 10 = .ok (.istore 7, 2) := by decide +kernel
theorem dX2_play_12 : decode cX2_play 12 = .ok (.iload 7, 2) := by decide +kernel
theorem dX2_play_14 : decode cX2_play 14 = .ok (.iconst 4, 1) := by decide +kernel
theorem dX2_play_15 : decode cX2_play 15 = .ok (.if_icmp .ge 78, 3) := by decide +kernel
theorem dX2_play_18 : decode cX2_play 18 = .ok (.aload_n 2, 1) := by decide +kernel
theorem dX2_play_19 : decode cX2_play 19 = .ok (.aload_n 1, 1) := by decide +kernel
theorem dX2_play_20 : decode cX2_play 20 = .ok (.invokevirtual 25, 3) := by decide +kernel
theorem dX2_play_23 : decode cX2_play 23 = .ok (.aload_n 2, 1) := by decide +kernel
theorem dX2_play_24 : decode cX2_play 24 = .ok (.aload_n 3, 1) := by decide +kernel
theorem dX2_play_25 : decode cX2_play 25 = .ok (.iload 4, 2) := by decide +kernel
theorem dX2_play_27 : decode cX2_play 27 = .ok (.iload 6, 2) := by decide +kernel
theorem dX2_play_29 : decode cX2_play 29 = .ok (.invokestatic 31, 3) := by decide +kernel
theorem dX2_play_32 : decode cX2_play 32 = .ok (.aload_n 2, 1) := by decide +kernel
theorem dX2_play_33 : decode cX2_play 33 = .ok (.aload_n 3, 1) := by decide +kernel
theorem dX2_play_34 : decode cX2_play 34 = .ok (.iload 5, 2) := by decide +kernel
theorem dX2_play_36 : decode cX2_play 36 = .ok (.iload 7, 2) := by decide +kernel
theorem dX2_play_38 : decode cX2_play 38 = .ok (.invokestatic 31, 3) := by decide +kernel
theorem dX2_play_41 : decode cX2_play 41 = .ok (.aload_n 2, 1) := by decide +kernel
theorem dX2_play_42 : decode cX2_play 42 = .ok (.aload_n 3, 1) := by decide +kernel
theorem dX2_play_43 : decode cX2_play 43 = .ok (.iconst 0, 1) := by decide +kernel
theorem dX2_play_44 : decode cX2_play 44 = .ok (.invokevirtual 35, 3) := by decide +kernel
theorem dX2_play_47 : decode cX2_play 47 = .ok (.aload_n 0, 1) := by decide +kernel
theorem dX2_play_48 : decode cX2_play 48 = .ok (.getfield 11, 3) := by decide +kernel
theorem dX2_play_51 : decode cX2_play 51 = .ok (.iconst 4, 1) := by decide +kernel
theorem dX2_play_52 : decode cX2_play 52 = .ok (.iload 6, 2) := by decide +kernel
theorem dX2_play_54 : decode cX2_play 54 = .ok (.imul, 1) := by decide +kernel
theorem dX2_play_55 : decode cX2_play 55 = .ok (.iload 7, 2) := by decide +kernel
theorem dX2_play_57 : decode cX2_play 57 = .ok (.iadd, 1) := by decide +kernel
theorem dX2_play_58 : decode cX2_play 58 = .ok (.aload_n 2, 1) := by decide +kernel
theorem dX2_play_59 : decode cX2_play 59 = .ok (.iload 4, 2) := by decide +kernel
theorem dX2_play_61 : decode cX2_play 61 = .ok (.iload 5, 2) := by decide +kernel
theorem dX2_play_63 : decode cX2_play 63 = .ok (.invokestatic 39, 3) := by decide +kernel
theorem dX2_play_66 : decode cX2_play 66 = .ok (.iastore, 1) := by decide +kernel
theorem dX2_play_67 : decode cX2_play 67 = .ok (.aload_n 0, 1) := by decide +kernel
theorem dX2_play_68 : decode cX2_play 68 = .ok (.getfield 15, 3) := by decide +kernel
theorem dX2_play_71 : decode cX2_play 71 = .ok (.iconst 4, 1) := by decide +kernel
theorem dX2_play_72 : decode cX2_play 72 = .ok (.iload 6, 2) := by decide +kernel
theorem dX2_play_74 : decode cX2_play 74 = .ok (.imul, 1) := by decide +kernel
theorem dX2_play_75 : decode cX2_play 75 = .ok (.iload 7, 2) := by decide +kernel
theorem dX2_play_77 : decode cX2_play 77 = .ok (.iadd, 1) := by decide +kernel
theorem dX2_play_78 : decode cX2_play 78 = .ok (.aload_n 2, 1) := by decide +kernel
theorem dX2_play_79 : decode cX2_play 79 = .ok (.iload 5, 2) := by decide +kernel
theorem dX2_play_81 : decode cX2_play 81 = .ok (.iload 4, 2) := by decide +kernel
theorem dX2_play_83 : decode cX2_play 83 = .ok (.invokestatic 39, 3) := by decide +kernel
theorem dX2_play_86 : decode cX2_play 86 = .ok (.iastore, 1) := by decide +kernel
theorem dX2_play_87 : decode cX2_play 87 = .ok (.iinc 7 1, 3) := by decide +kernel
theorem dX2_play_90 : decode cX2_play 90 = .ok (.goto (-78), 3) := by decide +kernel
theorem dX2_play_93 : decode cX2_play 93 = .ok (.iinc 6 1, 3) := by decide +kernel
theorem dX2_play_96 : decode cX2_play 96 = .ok (.goto (-93), 3) := by decide +kernel
theorem dX2_play_99 : decode cX2_play 99 = .ok (.aload_n 0, 1) := by decide +kernel
theorem dX2_play_100 : decode cX2_play 100 = .ok (.iconst 0, 1) := by decide +kernel
theorem dX2_play_101 : decode cX2_play 101 = .ok (.putfield 18, 3) := by decide +kernel
theorem dX2_play_104 : decode cX2_play 104 = .ok (.aload_n 0, 1) := by decide +kernel
theorem dX2_play_105 : decode cX2_play 105 = .ok (.bipush (-9), 2) := by decide +kernel
theorem dX2_play_107 : decode cX2_play 107 = .ok (.putfield 22, 3) := by decide +kernel
theorem dX2_play_110 : decode cX2_play 110 = .ok (.iconst 0, 1) := by decide +kernel
theorem dX2_play_111 : decode cX2_play 111 = .ok (.istore 6, 2) := by decide +kernel
theorem dX2_play_113 : decode cX2_play 113 = .ok (.iload 6, 2) := by decide +kernel
theorem dX2_play_115 : decode cX2_play 115 = .ok (.iconst 4, 1) := by decide +kernel
theorem dX2_play_116 : decode cX2_play 116 = .ok (.if_icmp .ge 71, 3) := by decide +kernel
theorem dX2_play_119 : decode cX2_play 119 = .ok (.iconst 0, 1) := by decide +kernel
theorem dX2_play_120 : decode cX2_play 120 = .ok (.istore 7, 2) := by decide +kernel
theorem dX2_play_122 : decode cX2_play 122 = .ok (.iload 7, 2) := by decide +kernel
theorem dX2_play_124 : decode cX2_play 124 = .ok (.iconst 4, 1) := by decide +kernel
theorem dX2_play_125 : decode cX2_play 125 = .ok (.if_icmp .ge 56, 3) := by decide +kernel
theorem dX2_play_128 : decode cX2_play 128 = .ok (.aload_n 0, 1) := by decide +kernel
theorem dX2_play_129 : decode cX2_play 129 = .ok (.iload 6, 2) := by decide +kernel
theorem dX2_play_131 : decode cX2_play 131 = .ok (.iload 7, 2) := by decide +kernel
theorem dX2_play_133 : decode cX2_play 133 = .ok (.invokevirtual 43, 3) := by decide +kernel
theorem dX2_play_136 : decode cX2_play 136 = .ok (.ifCond .eq 39, 3) := by decide +kernel
theorem dX2_play_139 : decode cX2_play 139 = .ok (.aload_n 0, 1) := by decide +kernel
theorem dX2_play_140 : decode cX2_play 140 = .ok (.aload_n 0, 1) := by decide +kernel
theorem dX2_play_141 : decode cX2_play 141 = .ok (.getfield 18, 3) := by decide +kernel
theorem dX2_play_144 : decode cX2_play 144 = .ok (.ifCond .ne 14, 3) := by decide +kernel
theorem dX2_play_147 : decode cX2_play 147 = .ok (.bipush 10, 2) := by decide +kernel
theorem dX2_play_149 : decode cX2_play 149 = .ok (.iload 6, 2) := by decide +kernel
theorem dX2_play_151 : decode cX2_play 151 = .ok (.imul, 1) := by decide +kernel
theorem dX2_play_152 : decode cX2_play 152 = .ok (.iload 7, 2) := by decide +kernel
theorem dX2_play_154 : decode cX2_play 154 = .ok (.iadd, 1) := by decide +kernel
theorem dX2_play_155 : decode cX2_play 155 = .ok (.goto 7, 3) := by decide +kernel
theorem dX2_play_158 : decode cX2_play 158 = .ok (.aload_n 0, 1) := by decide +kernel
theorem dX2_play_159 : decode cX2_play 159 = .ok (.getfield 22, 3) := by decide +kernel
theorem dX2_play_162 : decode cX2_play 162 = .ok (.putfield 22, 3) := by decide +kernel
theorem dX2_play_165 : decode cX2_play 165 = .ok (.aload_n 0, 1) := by decide +kernel
theorem dX2_play_166 : decode cX2_play 166 = .ok (.dup, 1) := by decide +kernel
theorem dX2_play_167 : decode cX2_play 167 = .ok (.getfield 18, 3) := by decide +kernel
theorem dX2_play_170 : decode cX2_play 170 = .ok (.iconst 1, 1) := by decide +kernel
theorem dX2_play_171 : decode cX2_play 171 = .ok (.iadd, 1) := by decide +kernel
theorem dX2_play_172 : decode cX2_play 172 = .ok (.putfield 18, 3) := by decide +kernel
theorem dX2_play_175 : decode cX2_play 175 = .ok (.iinc 7 1, 3) := by decide +kernel
theorem dX2_play_178 : decode cX2_play 178 = .ok (.goto (-56), 3) := by decide +kernel
theorem dX2_play_181 : decode cX2_play 181 = .ok (.iinc 6 1, 3) := by decide +kernel
theorem dX2_play_184 : decode cX2_play 184 = .ok (.goto (-71), 3) := by decide +kernel
theorem dX2_play_187 : decode cX2_play 187 = .ok (.return_, 1) := by decide +kernel
theorem dX2_goToKiln_0 : decode cX2_goToKiln 0 = .ok (.aload_n 1, 1) := by decide +kernel
theorem dX2_goToKiln_1 : decode cX2_goToKiln 1 = .ok (.iload_n 3, 1) := by decide +kernel
theorem dX2_goToKiln_2 : decode cX2_goToKiln 2 = .ok (.invokevirtual 47, 3) := by decide +kernel
theorem dX2_goToKiln_5 : decode cX2_goToKiln 5 = .ok (.ifCond .eq 15, 3) := by decide +kernel
theorem dX2_goToKiln_8 : decode cX2_goToKiln 8 = .ok (.aload_n 0, 1) := by decide +kernel
theorem dX2_goToKiln_9 : decode cX2_goToKiln 9 = .ok (.iload_n 2, 1) := by decide +kernel
theorem dX2_goToKiln_10 : decode cX2_goToKiln 10 = .ok (.aload_n 1, 1) := by decide +kernel
theorem dX2_goToKiln_11 : decode cX2_goToKiln 11 = .ok (.getfield 53, 3) := by decide +kernel
theorem dX2_goToKiln_14 : decode cX2_goToKiln 14 = .ok (.iload_n 3, 1) := by decide +kernel
theorem dX2_goToKiln_15 : decode cX2_goToKiln 15 = .ok (.iaload, 1) := by decide +kernel
theorem dX2_goToKiln_16 : decode cX2_goToKiln 16 = .ok (.invokevirtual 56, 3) := by decide +kernel
theorem dX2_goToKiln_19 : decode cX2_goToKiln 19 = .ok (.pop, 1) := by decide +kernel
theorem dX2_goToKiln_20 : decode cX2_goToKiln 20 = .ok (.return_, 1) := by decide +kernel
theorem dX2_gainOf_0 : decode cX2_gainOf 0 = .ok (.iconst 2, 1) := by decide +kernel
theorem dX2_gainOf_1 : decode cX2_gainOf 1 = .ok (.aload_n 0, 1) := by decide +kernel
theorem dX2_gainOf_2 : decode cX2_gainOf 2 = .ok (.getfield 59, 3) := by decide +kernel
theorem dX2_gainOf_5 : decode cX2_gainOf 5 = .ok (.iload_n 1, 1) := by decide +kernel
theorem dX2_gainOf_6 : decode cX2_gainOf 6 = .ok (.iaload, 1) := by decide +kernel
theorem dX2_gainOf_7 : decode cX2_gainOf 7 = .ok (.invokestatic 62, 3) := by decide +kernel
theorem dX2_gainOf_10 : decode cX2_gainOf 10 = .ok (.imul, 1) := by decide +kernel
theorem dX2_gainOf_11 : decode cX2_gainOf 11 = .ok (.istore_n 3, 1) := by decide +kernel
theorem dX2_gainOf_12 : decode cX2_gainOf 12 = .ok (.aload_n 0, 1) := by decide +kernel
theorem dX2_gainOf_13 : decode cX2_gainOf 13 = .ok (.getfield 68, 3) := by decide +kernel
theorem dX2_gainOf_16 : decode cX2_gainOf 16 = .ok (.iload_n 1, 1) := by decide +kernel
theorem dX2_gainOf_17 : decode cX2_gainOf 17 = .ok (.iaload, 1) := by decide +kernel
theorem dX2_gainOf_18 : decode cX2_gainOf 18 = .ok (.aload_n 0, 1) := by decide +kernel
theorem dX2_gainOf_19 : decode cX2_gainOf 19 = .ok (.getfield 68, 3) := by decide +kernel
theorem dX2_gainOf_22 : decode cX2_gainOf 22 = .ok (.iload_n 2, 1) := by decide +kernel
theorem dX2_gainOf_23 : decode cX2_gainOf 23 = .ok (.iaload, 1) := by decide +kernel
theorem dX2_gainOf_24 : decode cX2_gainOf 24 = .ok (.if_icmp .ne 9, 3) := by decide +kernel
theorem dX2_gainOf_27 : decode cX2_gainOf 27 = .ok (.iload_n 3, 1) := by decide +kernel
theorem dX2_gainOf_28 : decode cX2_gainOf 28 = .ok (.iconst 3, 1) := by decide +kernel
theorem dX2_gainOf_29 : decode cX2_gainOf 29 = .ok (.isub, 1) := by decide +kernel
theorem dX2_gainOf_30 : decode cX2_gainOf 30 = .ok (.goto 4, 3) := by decide +kernel
theorem dX2_gainOf_33 : decode cX2_gainOf 33 = .ok (.iload_n 3, 1) := by decide +kernel
theorem dX2_gainOf_34 : decode cX2_gainOf 34 = .ok (.ireturn, 1) := by decide +kernel
theorem dX2_isAtRest_0 : decode cX2_isAtRest 0 = .ok (.iconst 4, 1) := by decide +kernel
theorem dX2_isAtRest_1 : decode cX2_isAtRest 1 = .ok (.iload_n 1, 1) := by decide +kernel
theorem dX2_isAtRest_2 : decode cX2_isAtRest 2 = .ok (.imul, 1) := by decide +kernel
theorem dX2_isAtRest_3 : decode cX2_isAtRest 3 = .ok (.iload_n 2, 1) := by decide +kernel
theorem dX2_isAtRest_4 : decode cX2_isAtRest 4 = .ok (.iadd, 1) := by decide +kernel
theorem dX2_isAtRest_5 : decode cX2_isAtRest 5 = .ok (.istore_n 3, 1) := by decide +kernel
theorem dX2_isAtRest_6 : decode cX2_isAtRest 6 = .ok (.iconst 0, 1) := by decide +kernel
theorem dX2_isAtRest_7 : decode cX2_isAtRest 7 = .ok (.istore 4, 2) := by decide +kernel
theorem dX2_isAtRest_9 : decode cX2_isAtRest 9 = .ok (.iload 4, 2) := by decide +kernel
theorem dX2_isAtRest_11 : decode cX2_isAtRest 11 = .ok (.iconst 4, 1) := by decide +kernel
theorem dX2_isAtRest_12 : decode cX2_isAtRest 12 = .ok (.if_icmp .ge 51, 3) := by decide +kernel
theorem dX2_isAtRest_15 : decode cX2_isAtRest 15 = .ok (.aload_n 0, 1) := by decide +kernel
theorem dX2_isAtRest_16 : decode cX2_isAtRest 16 = .ok (.getfield 11, 3) := by decide +kernel
theorem dX2_isAtRest_19 : decode cX2_isAtRest 19 = .ok (.iconst 4, 1) := by decide +kernel
theorem dX2_isAtRest_20 : decode cX2_isAtRest 20 = .ok (.iload 4, 2) := by decide +kernel
theorem dX2_isAtRest_22 : decode cX2_isAtRest 22 = .ok (.imul, 1) := by decide +kernel
theorem dX2_isAtRest_23 : decode cX2_isAtRest 23 = .ok (.iload_n 2, 1) := by decide +kernel
theorem dX2_isAtRest_24 : decode cX2_isAtRest 24 = .ok (.iadd, 1) := by decide +kernel
theorem dX2_isAtRest_25 : decode cX2_isAtRest 25 = .ok (.iaload, 1) := by decide +kernel
theorem dX2_isAtRest_26 : decode cX2_isAtRest 26 = .ok (.aload_n 0, 1) := by decide +kernel
theorem dX2_isAtRest_27 : decode cX2_isAtRest 27 = .ok (.getfield 11, 3) := by decide +kernel
theorem dX2_isAtRest_30 : decode cX2_isAtRest 30 = .ok (.iload_n 3, 1) := by decide +kernel
theorem dX2_isAtRest_31 : decode cX2_isAtRest 31 = .ok (.iaload, 1) := by decide +kernel
theorem dX2_isAtRest_32 : decode cX2_isAtRest 32 = .ok (.if_icmp .gt 23, 3) := by decide +kernel
theorem dX2_isAtRest_35 : decode cX2_isAtRest 35 = .ok (.aload_n 0, 1) := by decide +kernel
theorem dX2_isAtRest_36 : decode cX2_isAtRest 36 = .ok (.getfield 15, 3) := by decide +kernel
theorem dX2_isAtRest_39 : decode cX2_isAtRest 39 = .ok (.iconst 4, 1) := by decide +kernel
theorem dX2_isAtRest_40 : decode cX2_isAtRest 40 = .ok (.iload_n 1, 1) := by decide +kernel
theorem dX2_isAtRest_41 : decode cX2_isAtRest 41 = .ok (.imul, 1) := by decide +kernel
theorem dX2_isAtRest_42 : decode cX2_isAtRest 42 = .ok (.iload 4, 2) := by decide +kernel
theorem dX2_isAtRest_44 : decode cX2_isAtRest 44 = .ok (.iadd, 1) := by decide +kernel
theorem dX2_isAtRest_45 : decode cX2_isAtRest 45 = .ok (.iaload, 1) := by decide +kernel
theorem dX2_isAtRest_46 : decode cX2_isAtRest 46 = .ok (.aload_n 0, 1) := by decide +kernel
theorem dX2_isAtRest_47 : decode cX2_isAtRest 47 = .ok (.getfield 15, 3) := by decide +kernel
theorem dX2_isAtRest_50 : decode cX2_isAtRest 50 = .ok (.iload_n 3, 1) := by decide +kernel
theorem dX2_isAtRest_51 : decode cX2_isAtRest 51 = .ok (.iaload, 1) := by decide +kernel
theorem dX2_isAtRest_52 : decode cX2_isAtRest 52 = .ok (.if_icmp .le 5, 3) := by decide +kernel
theorem dX2_isAtRest_55 : decode cX2_isAtRest 55 = .ok (.iconst 0, 1) := by decide +kernel
theorem dX2_isAtRest_56 : decode cX2_isAtRest 56 = .ok (.ireturn, 1) := by decide +kernel
theorem dX2_isAtRest_57 : decode cX2_isAtRest 57 = .ok (.iinc 4 1, 3) := by decide +kernel
theorem dX2_isAtRest_60 : decode cX2_isAtRest 60 = .ok (.goto (-51), 3) := by decide +kernel
theorem dX2_isAtRest_63 : decode cX2_isAtRest 63 = .ok (.iconst 1, 1) := by decide +kernel
theorem dX2_isAtRest_64 : decode cX2_isAtRest 64 = .ok (.ireturn, 1) := by decide +kernel
theorem dX3_init_0 : decode cX3_init 0 = .ok (.aload_n 0, 1) := by decide +kernel
theorem dX3_init_1 : decode cX3_init 1 = .ok (.invokespecial 3, 3) := by decide +kernel
theorem dX3_init_4 : decode cX3_init 4 = .ok (.aload_n 0, 1) := by decide +kernel
theorem dX3_init_5 : decode cX3_init 5 = .ok (.iconst 4, 1) := by decide +kernel
theorem dX3_init_6 : decode cX3_init 6 = .ok (.newarray .int, 2) := by decide +kernel
theorem dX3_init_8 : decode cX3_init 8 = .ok (.putfield 9, 3) := by decide +kernel
theorem dX3_init_11 : decode cX3_init 11 = .ok (.aload_n 0, 1) := by decide +kernel
theorem dX3_init_12 : decode cX3_init 12 = .ok (.iconst 4, 1) := by decide +kernel
theorem dX3_init_13 : decode cX3_init 13 = .ok (.newarray .int, 2) := by decide +kernel
theorem dX3_init_15 : decode cX3_init 15 = .ok (.putfield 15, 3) := by decide +kernel
theorem dX3_init_18 : decode cX3_init 18 = .ok (.aload_n 0, 1) := by decide +kernel
theorem dX3_init_19 : decode cX3_init 19 = .ok (.bipush 16, 2) := by decide +kernel
theorem dX3_init_21 : decode cX3_init 21 = .ok (.newarray .int, 2) := by decide +kernel
theorem dX3_init_23 : decode cX3_init 23 = .ok (.putfield 18, 3) := by decide +kernel
theorem dX3_init_26 : decode cX3_init 26 = .ok (.aload_n 0, 1) := by decide +kernel
theorem dX3_init_27 : decode cX3_init 27 = .ok (.iconst 0, 1) := by decide +kernel
theorem dX3_init_28 : decode cX3_init 28 = .ok (.putfield 21, 3) := by decide +kernel
theorem dX3_init_31 : decode cX3_init 31 = .ok (.return_, 1) := by decide +kernel
theorem dX3_clear_0 : decode cX3_clear 0 = .ok (.aload_n 0, 1) := by decide +kernel
theorem dX3_clear_1 : decode cX3_clear 1 = .ok (.iconst 0, 1) := by decide +kernel
theorem dX3_clear_2 : decode cX3_clear 2 = .ok (.putfield 21, 3) := by decide +kernel
theorem dX3_clear_5 : decode cX3_clear 5 = .ok (.return_, 1) := by decide +kernel
theorem dX3_copyFrom_0 : decode cX3_copyFrom 0 = .ok (.aload_n 1, 1) := by decide +kernel
theorem dX3_copyFrom_1 : decode cX3_copyFrom 1 = .ok (.getfield 9, 3) := by decide +kernel
theorem dX3_copyFrom_4 : decode cX3_copyFrom 4 = .ok (.iconst 0, 1) := by decide +kernel
theorem dX3_copyFrom_5 : decode cX3_copyFrom 5 = .ok (.aload_n 0, 1) := by decide +kernel
theorem dX3_copyFrom_6 : decode cX3_copyFrom 6 = .ok (.getfield 9, 3) := by decide +kernel
theorem dX3_copyFrom_9 : decode cX3_copyFrom 9 = .ok (.iconst 0, 1) := by decide +kernel
theorem dX3_copyFrom_10 : decode cX3_copyFrom 10 = .ok (.iconst 4, 1) := by decide +kernel
theorem dX3_copyFrom_11 : decode cX3_copyFrom 11 = .ok (.invokestatic 25, 3) := by decide +kernel
theorem dX3_copyFrom_14 : decode cX3_copyFrom 14 = .ok (.aload_n 1, 1) := by decide +kernel
theorem dX3_copyFrom_15 : decode cX3_copyFrom 15 = .ok (.getfield 15, 3) := by decide +kernel
theorem dX3_copyFrom_18 : decode cX3_copyFrom 18 = .ok (.iconst 0, 1) := by decide +kernel
theorem dX3_copyFrom_19 : decode cX3_copyFrom 19 = .ok (.aload_n 0, 1) := by decide +kernel
theorem dX3_copyFrom_20 : decode cX3_copyFrom 20 = .ok (.getfield 15, 3) := by decide +kernel
theorem dX3_copyFrom_23 : decode cX3_copyFrom 23 = .ok (.iconst 0, 1) := by decide +kernel
theorem dX3_copyFrom_24 : decode cX3_copyFrom 24 = .ok (.iconst 4, 1) := by decide +kernel
theorem dX3_copyFrom_25 : decode cX3_copyFrom 25 = .ok (.invokestatic 25, 3) := by decide +kernel
theorem dX3_copyFrom_28 : decode cX3_copyFrom 28 = .ok (.aload_n 1, 1) := by decide +kernel
theorem dX3_copyFrom_29 : decode cX3_copyFrom 29 = .ok (.getfield 18, 3) := by decide +kernel
theorem dX3_copyFrom_32 : decode cX3_copyFrom 32 = .ok (.iconst 0, 1) := by decide +kernel
theorem dX3_copyFrom_33 : decode cX3_copyFrom 33 = .ok (.aload_n 0, 1) := by decide +kernel
theorem dX3_copyFrom_34 : decode cX3_copyFrom 34 = .ok (.getfield 18, 3) := by decide +kernel
theorem dX3_copyFrom_37 : decode cX3_copyFrom 37 = .ok (.iconst 0, 1) := by decide +kernel
theorem dX3_copyFrom_38 : decode cX3_copyFrom 38 = .ok (.bipush 16, 2) := by decide +kernel
theorem dX3_copyFrom_40 : decode cX3_copyFrom 40 = .ok (.invokestatic 25, 3) := by decide +kernel
theorem dX3_copyFrom_43 : decode cX3_copyFrom 43 = .ok (.aload_n 0, 1) := by decide +kernel
theorem dX3_copyFrom_44 : decode cX3_copyFrom 44 = .ok (.aload_n 1, 1) := by decide +kernel
theorem dX3_copyFrom_45 : decode cX3_copyFrom 45 = .ok (.getfield 21, 3) := by decide +kernel
theorem dX3_copyFrom_48 : decode cX3_copyFrom 48 = .ok (.putfield 21, 3) := by decide +kernel
theorem dX3_copyFrom_51 : decode cX3_copyFrom 51 = .ok (.return_, 1) := by decide +kernel
theorem dX3_addKiln_0 : decode cX3_addKiln 0 = .ok (.aload_n 0, 1) := by decide +kernel
theorem dX3_addKiln_1 : decode cX3_addKiln 1 = .ok (.getfield 21, 3) := by decide +kernel
theorem dX3_addKiln_4 : decode cX3_addKiln 4 = .ok (.iconst 4, 1) := by decide +kernel
theorem dX3_addKiln_5 : decode cX3_addKiln 5 = .ok (.if_icmp .ge 33, 3) := by decide +kernel
theorem dX3_addKiln_8 : decode cX3_addKiln 8 = .ok (.aload_n 0, 1) := by decide +kernel
theorem dX3_addKiln_9 : decode cX3_addKiln 9 = .ok (.getfield 9, 3) := by decide +kernel
theorem dX3_addKiln_12 : decode cX3_addKiln 12 = .ok (.aload_n 0, 1) := by decide +kernel
theorem dX3_addKiln_13 : decode cX3_addKiln 13 = .ok (.getfield 21, 3) := by decide +kernel
theorem dX3_addKiln_16 : decode cX3_addKiln 16 = .ok (.iload_n 1, 1) := by decide +kernel
theorem dX3_addKiln_17 : decode cX3_addKiln 17 = .ok (.iastore, 1) := by decide +kernel
theorem dX3_addKiln_18 : decode cX3_addKiln 18 = .ok (.aload_n 0, 1) := by decide +kernel
theorem dX3_addKiln_19 : decode cX3_addKiln 19 = .ok (.getfield 15, 3) := by decide +kernel
theorem dX3_addKiln_22 : decode cX3_addKiln 22 = .ok (.aload_n 0, 1) := by decide +kernel
theorem dX3_addKiln_23 : decode cX3_addKiln 23 = .ok (.getfield 21, 3) := by decide +kernel
theorem dX3_addKiln_26 : decode cX3_addKiln 26 = .ok (.iconst 0, 1) := by decide +kernel
theorem dX3_addKiln_27 : decode cX3_addKiln 27 = .ok (.iastore, 1) := by decide +kernel
theorem dX3_addKiln_28 : decode cX3_addKiln 28 = .ok (.aload_n 0, 1) := by decide +kernel
theorem dX3_addKiln_29 : decode cX3_addKiln 29 = .ok (.dup, 1) := by decide +kernel
theorem dX3_addKiln_30 : decode cX3_addKiln 30 = .ok (.getfield 21, 3) := by decide +kernel
theorem dX3_addKiln_33 : decode cX3_addKiln 33 = .ok (.iconst 1, 1) := by decide +kernel
theorem dX3_addKiln_34 : decode cX3_addKiln 34 = .ok (.iadd, 1) := by decide +kernel
theorem dX3_addKiln_35 : decode cX3_addKiln 35 = .ok (.putfield 21, 3) := by decide +kernel
theorem dX3_addKiln_38 : decode cX3_addKiln 38 = .ok (.return_, 1) := by decide +kernel
theorem dX3_addLayer_0 : decode cX3_addLayer 0 = .ok (.aload_n 0, 1) := by decide +kernel
theorem dX3_addLayer_1 : decode cX3_addLayer 1 = .ok (.getfield 21, 3) := by decide +kernel
theorem dX3_addLayer_4 : decode cX3_addLayer 4 = .ok (.iconst 1, 1) := by decide +kernel
theorem dX3_addLayer_5 : decode cX3_addLayer 5 = .ok (.isub, 1) := by decide +kernel
theorem dX3_addLayer_6 : decode cX3_addLayer 6 = .ok (.istore_n 2, 1) := by decide +kernel
theorem dX3_addLayer_7 : decode cX3_addLayer 7 = .ok (.aload_n 0, 1) := by decide +kernel
theorem dX3_addLayer_8 : decode cX3_addLayer 8 = .ok (.iload_n 2, 1) := by decide +kernel
theorem dX3_addLayer_9 : decode cX3_addLayer 9 = .ok (.invokevirtual 31, 3) := by decide +kernel
theorem dX3_addLayer_12 : decode cX3_addLayer 12 = .ok (.ifCond .eq 25, 3) := by decide +kernel
theorem dX3_addLayer_15 : decode cX3_addLayer 15 = .ok (.aload_n 0, 1) := by decide +kernel
theorem dX3_addLayer_16 : decode cX3_addLayer 16 = .ok (.getfield 15, 3) := by decide +kernel
theorem dX3_addLayer_19 : decode cX3_addLayer 19 = .ok (.iload_n 2, 1) := by decide +kernel
theorem dX3_addLayer_20 : decode cX3_addLayer 20 = .ok (.iaload, 1) := by decide +kernel
theorem dX3_addLayer_21 : decode cX3_addLayer 21 = .ok (.iconst 4, 1) := by decide +kernel
theorem dX3_addLayer_22 : decode cX3_addLayer 22 = .ok (.if_icmp .ge 15, 3) := by decide +kernel
theorem dX3_addLayer_25 : decode cX3_addLayer 25 = .ok (.aload_n 0, 1) := by decide +kernel
theorem dX3_addLayer_26 : decode cX3_addLayer 26 = .ok (.iload_n 2, 1) := by decide +kernel
theorem dX3_addLayer_27 : decode cX3_addLayer 27 = .ok (.invokevirtual 35, 3) := by decide +kernel
theorem dX3_addLayer_30 : decode cX3_addLayer 30 = .ok (.iconst 1, 1) := by decide +kernel
theorem dX3_addLayer_31 : decode cX3_addLayer 31 = .ok (.iload_n 1, 1) := by decide +kernel
theorem dX3_addLayer_32 : decode cX3_addLayer 32 = .ok (.ishl, 1) := by decide +kernel
theorem dX3_addLayer_33 : decode cX3_addLayer 33 = .ok (.iand, 1) := by decide +kernel
theorem dX3_addLayer_34 : decode cX3_addLayer 34 = .ok (.ifCond .eq 5, 3) := by decide +kernel
theorem dX3_addLayer_37 : decode cX3_addLayer 37 = .ok (.iconst 0, 1) := by decide +kernel
theorem dX3_addLayer_38 : decode cX3_addLayer 38 = .ok (.ireturn, 1) := by decide +kernel
theorem dX3_addLayer_39 : decode cX3_addLayer 39 = .ok (.aload_n 0, 1) := by decide +kernel
theorem dX3_addLayer_40 : decode cX3_addLayer 40 = .ok (.getfield 18, 3) := by decide +kernel
theorem dX3_addLayer_43 : decode cX3_addLayer 43 = .ok (.iload_n 2, 1) := by decide +kernel
theorem dX3_addLayer_44 : decode cX3_addLayer 44 = .ok (.iconst 4, 1) := by decide +kernel
theorem dX3_addLayer_45 : decode cX3_addLayer 45 = .ok (.imul, 1) := by decide +kernel
theorem dX3_addLayer_46 : decode cX3_addLayer 46 = .ok (.aload_n 0, 1) := by decide +kernel
theorem dX3_addLayer_47 : decode cX3_addLayer 47 = .ok (.getfield 15, 3) := by decide +kernel
theorem dX3_addLayer_50 : decode cX3_addLayer 50 = .ok (.iload_n 2, 1) := by decide +kernel
theorem dX3_addLayer_51 : decode cX3_addLayer 51 = .ok (.iaload, 1) := by decide +kernel
theorem dX3_addLayer_52 : decode cX3_addLayer 52 = .ok (.iadd, 1) := by decide +kernel
theorem dX3_addLayer_53 : decode cX3_addLayer 53 = .ok (.iload_n 1, 1) := by decide +kernel
theorem dX3_addLayer_54 : decode cX3_addLayer 54 = .ok (.iastore, 1) := by decide +kernel
theorem dX3_addLayer_55 : decode cX3_addLayer 55 = .ok (.aload_n 0, 1) := by decide +kernel
theorem dX3_addLayer_56 : decode cX3_addLayer 56 = .ok (.getfield 15, 3) := by decide +kernel
theorem dX3_addLayer_59 : decode cX3_addLayer 59 = .ok (.iload_n 2, 1) := by decide +kernel
theorem dX3_addLayer_60 : decode cX3_addLayer 60 = .ok (.dup2, 1) := by decide +kernel
theorem dX3_addLayer_61 : decode cX3_addLayer 61 = .ok (.iaload, 1) := by decide +kernel
theorem dX3_addLayer_62 : decode cX3_addLayer 62 = .ok (.iconst 1, 1) := by decide +kernel
theorem dX3_addLayer_63 : decode cX3_addLayer 63 = .ok (.iadd, 1) := by decide +kernel
theorem dX3_addLayer_64 : decode cX3_addLayer 64 = .ok (.iastore, 1) := by decide +kernel
theorem dX3_addLayer_65 : decode cX3_addLayer 65 = .ok (.iconst 1, 1) := by decide +kernel
theorem dX3_addLayer_66 : decode cX3_addLayer 66 = .ok (.ireturn, 1) := by decide +kernel
theorem dX3_has_0 : decode cX3_has 0 = .ok (.iload_n 1, 1) := by decide +kernel
theorem dX3_has_1 : decode cX3_has 1 = .ok (.ifCond .lt 15, 3) := by decide +kernel
theorem dX3_has_4 : decode cX3_has 4 = .ok (.iload_n 1, 1) := by decide +kernel
theorem dX3_has_5 : decode cX3_has 5 = .ok (.aload_n 0, 1) := by decide +kernel
theorem dX3_has_6 : decode cX3_has 6 = .ok (.getfield 21, 3) := by decide +kernel
theorem dX3_has_9 : decode cX3_has 9 = .ok (.if_icmp .ge 7, 3) := by decide +kernel
theorem dX3_has_12 : decode cX3_has 12 = .ok (.iconst 1, 1) := by decide +kernel
theorem dX3_has_13 : decode cX3_has 13 = .ok (.goto 4, 3) := by decide +kernel
theorem dX3_has_16 : decode cX3_has 16 = .ok (.iconst 0, 1) := by decide +kernel
theorem dX3_has_17 : decode cX3_has 17 = .ok (.ireturn, 1) := by decide +kernel
theorem dX3_kilnAt_0 : decode cX3_kilnAt 0 = .ok (.iconst 0, 1) := by decide +kernel
theorem dX3_kilnAt_1 : decode cX3_kilnAt 1 = .ok (.istore_n 2, 1) := by decide +kernel
theorem dX3_kilnAt_2 : decode cX3_kilnAt 2 = .ok (.iload_n 2, 1) := by decide +kernel
theorem dX3_kilnAt_3 : decode cX3_kilnAt 3 = .ok (.aload_n 0, 1) := by decide +kernel
theorem dX3_kilnAt_4 : decode cX3_kilnAt 4 = .ok (.getfield 21, 3) := by decide +kernel
theorem dX3_kilnAt_7 : decode cX3_kilnAt 7 = .ok (.if_icmp .ge 21, 3) := by decide +kernel
theorem dX3_kilnAt_10 : decode cX3_kilnAt 10 = .ok (.aload_n 0, 1) := by decide +kernel
theorem dX3_kilnAt_11 : decode cX3_kilnAt 11 = .ok (.getfield 9, 3) := by decide +kernel
theorem dX3_kilnAt_14 : decode cX3_kilnAt 14 = .ok (.iload_n 2, 1) := by decide +kernel
theorem dX3_kilnAt_15 : decode cX3_kilnAt 15 = .ok (.iaload, 1) := by decide +kernel
theorem dX3_kilnAt_16 : decode cX3_kilnAt 16 = .ok (.iload_n 1, 1) := by decide +kernel
theorem dX3_kilnAt_17 : decode cX3_kilnAt 17 = .ok (.if_icmp .ne 5, 3) := by decide +kernel
theorem dX3_kilnAt_20 : decode cX3_kilnAt 20 = .ok (.iload_n 2, 1) := by decide +kernel
theorem dX3_kilnAt_21 : decode cX3_kilnAt 21 = .ok (.ireturn, 1) := by decide +kernel
theorem dX3_kilnAt_22 : decode cX3_kilnAt 22 = .ok (.iinc 2 1, 3) := by decide +kernel
theorem dX3_kilnAt_25 : decode cX3_kilnAt 25 = .ok (.goto (-23), 3) := by decide +kernel
theorem dX3_kilnAt_28 : decode cX3_kilnAt 28 = .ok (.bipush (-9), 2) := by decide +kernel
theorem dX3_kilnAt_30 : decode cX3_kilnAt 30 = .ok (.ireturn, 1) := by decide +kernel
theorem dX3_layerOf_0 : decode cX3_layerOf 0 = .ok (.aload_n 0, 1) := by decide +kernel
theorem dX3_layerOf_1 : decode cX3_layerOf 1 = .ok (.getfield 18, 3) := by decide +kernel
theorem dX3_layerOf_4 : decode cX3_layerOf 4 = .ok (.iload_n 1, 1) := by decide +kernel
theorem dX3_layerOf_5 : decode cX3_layerOf 5 = .ok (.iconst 4, 1) := by decide +kernel
theorem dX3_layerOf_6 : decode cX3_layerOf 6 = .ok (.imul, 1) := by decide +kernel
theorem dX3_layerOf_7 : decode cX3_layerOf 7 = .ok (.iload_n 2, 1) := by decide +kernel
theorem dX3_layerOf_8 : decode cX3_layerOf 8 = .ok (.iadd, 1) := by decide +kernel
theorem dX3_layerOf_9 : decode cX3_layerOf 9 = .ok (.iaload, 1) := by decide +kernel
theorem dX3_layerOf_10 : decode cX3_layerOf 10 = .ok (.ireturn, 1) := by decide +kernel
theorem dX3_bitsOf_0 : decode cX3_bitsOf 0 = .ok (.iconst 0, 1) := by decide +kernel
theorem dX3_bitsOf_1 : decode cX3_bitsOf 1 = .ok (.istore_n 2, 1) := by decide +kernel
theorem dX3_bitsOf_2 : decode cX3_bitsOf 2 = .ok (.iconst 0, 1) := by decide +kernel
theorem dX3_bitsOf_3 : decode cX3_bitsOf 3 = .ok (.istore_n 3, 1) := by decide +kernel
theorem dX3_bitsOf_4 : decode cX3_bitsOf 4 = .ok (.iload_n 3, 1) := by decide +kernel
theorem dX3_bitsOf_5 : decode cX3_bitsOf 5 = .ok (.aload_n 0, 1) := by decide +kernel
theorem dX3_bitsOf_6 : decode cX3_bitsOf 6 = .ok (.getfield 15, 3) := by decide +kernel
theorem dX3_bitsOf_9 : decode cX3_bitsOf 9 = .ok (.iload_n 1, 1) := by decide +kernel
theorem dX3_bitsOf_10 : decode cX3_bitsOf 10 = .ok (.iaload, 1) := by decide +kernel
theorem dX3_bitsOf_11 : decode cX3_bitsOf 11 = .ok (.if_icmp .ge 20, 3) := by decide +kernel
theorem dX3_bitsOf_14 : decode cX3_bitsOf 14 = .ok (.iload_n 2, 1) := by decide +kernel
theorem dX3_bitsOf_15 : decode cX3_bitsOf 15 = .ok (.iconst 1, 1) := by decide +kernel
theorem dX3_bitsOf_16 : decode cX3_bitsOf 16 = .ok (.aload_n 0, 1) := by decide +kernel
theorem dX3_bitsOf_17 : decode cX3_bitsOf 17 = .ok (.iload_n 1, 1) := by decide +kernel
theorem dX3_bitsOf_18 : decode cX3_bitsOf 18 = .ok (.iload_n 3, 1) := by decide +kernel
theorem dX3_bitsOf_19 : decode cX3_bitsOf 19 = .ok (.invokevirtual 39, 3) := by decide +kernel
theorem dX3_bitsOf_22 : decode cX3_bitsOf 22 = .ok (.ishl, 1) := by decide +kernel
theorem dX3_bitsOf_23 : decode cX3_bitsOf 23 = .ok (.ior, 1) := by decide +kernel
theorem dX3_bitsOf_24 : decode cX3_bitsOf 24 = .ok (.istore_n 2, 1) := by decide +kernel
theorem dX3_bitsOf_25 : decode cX3_bitsOf 25 = .ok (.iinc 3 1, 3) := by decide +kernel
theorem dX3_bitsOf_28 : decode cX3_bitsOf 28 = .ok (.goto (-24), 3) := by decide +kernel
theorem dX3_bitsOf_31 : decode cX3_bitsOf 31 = .ok (.iload_n 2, 1) := by decide +kernel
theorem dX3_bitsOf_32 : decode cX3_bitsOf 32 = .ok (.ireturn, 1) := by decide +kernel
theorem dX3_figuresOf_0 : decode cX3_figuresOf 0 = .ok (.iconst 0, 1) := by decide +kernel
theorem dX3_figuresOf_1 : decode cX3_figuresOf 1 = .ok (.istore_n 2, 1) := by decide +kernel
theorem dX3_figuresOf_2 : decode cX3_figuresOf 2 = .ok (.iconst 0, 1) := by decide +kernel
theorem dX3_figuresOf_3 : decode cX3_figuresOf 3 = .ok (.istore_n 3, 1) := by decide +kernel
theorem dX3_figuresOf_4 : decode cX3_figuresOf 4 = .ok (.iload_n 3, 1) := by decide +kernel
theorem dX3_figuresOf_5 : decode cX3_figuresOf 5 = .ok (.aload_n 0, 1) := by decide +kernel
theorem dX3_figuresOf_6 : decode cX3_figuresOf 6 = .ok (.getfield 15, 3) := by decide +kernel
theorem dX3_figuresOf_9 : decode cX3_figuresOf 9 = .ok (.iload_n 1, 1) := by decide +kernel
theorem dX3_figuresOf_10 : decode cX3_figuresOf 10 = .ok (.iaload, 1) := by decide +kernel
theorem dX3_figuresOf_11 : decode cX3_figuresOf 11 = .ok (.if_icmp .ge 23, 3) := by decide +kernel
theorem dX3_figuresOf_14 : decode cX3_figuresOf 14 = .ok (.bipush 10, 2) := by decide +kernel
theorem dX3_figuresOf_16 : decode cX3_figuresOf 16 = .ok (.iload_n 2, 1) := by decide +kernel
theorem dX3_figuresOf_17 : decode cX3_figuresOf 17 = .ok (.imul, 1) := by decide +kernel
theorem dX3_figuresOf_18 : decode cX3_figuresOf 18 = .ok (.aload_n 0, 1) := by decide +kernel
theorem dX3_figuresOf_19 : decode cX3_figuresOf 19 = .ok (.iload_n 1, 1) := by decide +kernel
theorem dX3_figuresOf_20 : decode cX3_figuresOf 20 = .ok (.iload_n 3, 1) := by decide +kernel
theorem dX3_figuresOf_21 : decode cX3_figuresOf 21 = .ok (.invokevirtual 39, 3) := by decide +kernel
theorem dX3_figuresOf_24 : decode cX3_figuresOf 24 = .ok (.iadd, 1) := by decide +kernel
theorem dX3_figuresOf_25 : decode cX3_figuresOf 25 = .ok (.iconst 1, 1) := by decide +kernel
theorem dX3_figuresOf_26 : decode cX3_figuresOf 26 = .ok (.iadd, 1) := by decide +kernel
theorem dX3_figuresOf_27 : decode cX3_figuresOf 27 = .ok (.istore_n 2, 1) := by decide +kernel
theorem dX3_figuresOf_28 : decode cX3_figuresOf 28 = .ok (.iinc 3 1, 3) := by decide +kernel
theorem dX3_figuresOf_31 : decode cX3_figuresOf 31 = .ok (.goto (-27), 3) := by decide +kernel
theorem dX3_figuresOf_34 : decode cX3_figuresOf 34 = .ok (.iload_n 2, 1) := by decide +kernel
theorem dX3_figuresOf_35 : decode cX3_figuresOf 35 = .ok (.ireturn, 1) := by decide +kernel
theorem dX3_bitsOfAll_0 : decode cX3_bitsOfAll 0 = .ok (.iconst 0, 1) := by decide +kernel
theorem dX3_bitsOfAll_1 : decode cX3_bitsOfAll 1 = .ok (.istore_n 1, 1) := by decide +kernel
theorem dX3_bitsOfAll_2 : decode cX3_bitsOfAll 2 = .ok (.iconst 0, 1) := by decide +kernel
theorem dX3_bitsOfAll_3 : decode cX3_bitsOfAll 3 = .ok (.istore_n 2, 1) := by decide +kernel
theorem dX3_bitsOfAll_4 : decode cX3_bitsOfAll 4 = .ok (.iload_n 2, 1) := by decide +kernel
theorem dX3_bitsOfAll_5 : decode cX3_bitsOfAll 5 = .ok (.aload_n 0, 1) := by decide +kernel
theorem dX3_bitsOfAll_6 : decode cX3_bitsOfAll 6 = .ok (.getfield 21, 3) := by decide +kernel
theorem dX3_bitsOfAll_9 : decode cX3_bitsOfAll 9 = .ok (.if_icmp .ge 17, 3) := by decide +kernel
theorem dX3_bitsOfAll_12 : decode cX3_bitsOfAll 12 = .ok (.iload_n 1, 1) := by decide +kernel
theorem dX3_bitsOfAll_13 : decode cX3_bitsOfAll 13 = .ok (.aload_n 0, 1) := by decide +kernel
theorem dX3_bitsOfAll_14 : decode cX3_bitsOfAll 14 = .ok (.iload_n 2, 1) := by decide +kernel
theorem dX3_bitsOfAll_15 : decode cX3_bitsOfAll 15 = .ok (.invokevirtual 35, 3) := by decide +kernel
theorem dX3_bitsOfAll_18 : decode cX3_bitsOfAll 18 = .ok (.ior, 1) := by decide +kernel
theorem dX3_bitsOfAll_19 : decode cX3_bitsOfAll 19 = .ok (.istore_n 1, 1) := by decide +kernel
theorem dX3_bitsOfAll_20 : decode cX3_bitsOfAll 20 = .ok (.iinc 2 1, 3) := by decide +kernel
theorem dX3_bitsOfAll_23 : decode cX3_bitsOfAll 23 = .ok (.goto (-19), 3) := by decide +kernel
theorem dX3_bitsOfAll_26 : decode cX3_bitsOfAll 26 = .ok (.iload_n 1, 1) := by decide +kernel
theorem dX3_bitsOfAll_27 : decode cX3_bitsOfAll 27 = .ok (.ireturn, 1) := by decide +kernel
theorem dX3_weightOf_0 : decode cX3_weightOf 0 = .ok (.iconst 1, 1) := by decide +kernel
theorem dX3_weightOf_1 : decode cX3_weightOf 1 = .ok (.istore_n 3, 1) := by decide +kernel
theorem dX3_weightOf_2 : decode cX3_weightOf 2 = .ok (.iconst 0, 1) := by decide +kernel
theorem dX3_weightOf_3 : decode cX3_weightOf 3 = .ok (.istore 4, 2) := by decide +kernel
theorem dX3_weightOf_5 : decode cX3_weightOf 5 = .ok (.iload 4, 2) := by decide +kernel
theorem dX3_weightOf_7 : decode cX3_weightOf 7 = .ok (.aload_n 0, 1) := by decide +kernel
theorem dX3_weightOf_8 : decode cX3_weightOf 8 = .ok (.getfield 21, 3) := by decide +kernel
theorem dX3_weightOf_11 : decode cX3_weightOf 11 = .ok (.if_icmp .ge 29, 3) := by decide +kernel
theorem dX3_weightOf_14 : decode cX3_weightOf 14 = .ok (.iload_n 3, 1) := by decide +kernel
theorem dX3_weightOf_15 : decode cX3_weightOf 15 = .ok (.iload_n 1, 1) := by decide +kernel
theorem dX3_weightOf_16 : decode cX3_weightOf 16 = .ok (.iconst 1, 1) := by decide +kernel
theorem dX3_weightOf_17 : decode cX3_weightOf 17 = .ok (.iload 4, 2) := by decide +kernel
theorem dX3_weightOf_19 : decode cX3_weightOf 19 = .ok (.ishl, 1) := by decide +kernel
theorem dX3_weightOf_20 : decode cX3_weightOf 20 = .ok (.iand, 1) := by decide +kernel
theorem dX3_weightOf_21 : decode cX3_weightOf 21 = .ok (.ifCond .eq 7, 3) := by decide +kernel
theorem dX3_weightOf_24 : decode cX3_weightOf 24 = .ok (.iload_n 2, 1) := by decide +kernel
theorem dX3_weightOf_25 : decode cX3_weightOf 25 = .ok (.goto 7, 3) := by decide +kernel
theorem dX3_weightOf_28 : decode cX3_weightOf 28 = .ok (.bipush 10, 2) := by decide +kernel
theorem dX3_weightOf_30 : decode cX3_weightOf 30 = .ok (.iload_n 2, 1) := by decide +kernel
theorem dX3_weightOf_31 : decode cX3_weightOf 31 = .ok (.isub, 1) := by decide +kernel
theorem dX3_weightOf_32 : decode cX3_weightOf 32 = .ok (.imul, 1) := by decide +kernel
theorem dX3_weightOf_33 : decode cX3_weightOf 33 = .ok (.istore_n 3, 1) := by decide +kernel
theorem dX3_weightOf_34 : decode cX3_weightOf 34 = .ok (.iinc 4 1, 3) := by decide +kernel
theorem dX3_weightOf_37 : decode cX3_weightOf 37 = .ok (.goto (-32), 3) := by decide +kernel
theorem dX3_weightOf_40 : decode cX3_weightOf 40 = .ok (.iload_n 3, 1) := by decide +kernel
theorem dX3_weightOf_41 : decode cX3_weightOf 41 = .ok (.ireturn, 1) := by decide +kernel
theorem dX4_init_0 : decode cX4_init 0 = .ok (.aload_n 0, 1) := by decide +kernel
theorem dX4_init_1 : decode cX4_init 1 = .ok (.invokespecial 3, 3) := by decide +kernel
theorem dX4_init_4 : decode cX4_init 4 = .ok (.aload_n 0, 1) := by decide +kernel
theorem dX4_init_5 : decode cX4_init 5 = .ok (.bipush 6, 2) := by decide +kernel
theorem dX4_init_7 : decode cX4_init 7 = .ok (.newarray .int, 2) := by decide +kernel
theorem dX4_init_9 : decode cX4_init 9 = .ok (.putfield 9, 3) := by decide +kernel
theorem dX4_init_12 : decode cX4_init 12 = .ok (.aload_n 0, 1) := by decide +kernel
theorem dX4_init_13 : decode cX4_init 13 = .ok (.bipush 64, 2) := by decide +kernel
theorem dX4_init_15 : decode cX4_init 15 = .ok (.newarray .int, 2) := by decide +kernel
theorem dX4_init_17 : decode cX4_init 17 = .ok (.putfield 15, 3) := by decide +kernel
theorem dX4_init_20 : decode cX4_init 20 = .ok (.aload_n 0, 1) := by decide +kernel
theorem dX4_init_21 : decode cX4_init 21 = .ok (.iconst 0, 1) := by decide +kernel
theorem dX4_init_22 : decode cX4_init 22 = .ok (.putfield 18, 3) := by decide +kernel
theorem dX4_init_25 : decode cX4_init 25 = .ok (.return_, 1) := by decide +kernel
theorem dX4_look_0 : decode cX4_look 0 = .ok (.aload_n 0, 1) := by decide +kernel
theorem dX4_look_1 : decode cX4_look 1 = .ok (.aload_n 1, 1) := by decide +kernel
theorem dX4_look_2 : decode cX4_look 2 = .ok (.invokevirtual 22, 3) := by decide +kernel
theorem dX4_look_5 : decode cX4_look 5 = .ok (.putfield 18, 3) := by decide +kernel
theorem dX4_look_8 : decode cX4_look 8 = .ok (.iconst 0, 1) := by decide +kernel
theorem dX4_look_9 : decode cX4_look 9 = .ok (.istore_n 2, 1) := by decide +kernel
theorem dX4_look_10 : decode cX4_look 10 = .ok (.iload_n 2, 1) := by decide +kernel
theorem dX4_look_11 : decode cX4_look 11 = .ok (.bipush 6, 2) := by decide +kernel
theorem dX4_look_13 : decode cX4_look 13 = .ok (.if_icmp .ge 16, 3) := by decide +kernel
theorem dX4_look_16 : decode cX4_look 16 = .ok (.aload_n 0, 1) := by decide +kernel
theorem dX4_look_17 : decode cX4_look 17 = .ok (.getfield 9, 3) := by decide +kernel
theorem dX4_look_20 : decode cX4_look 20 = .ok (.iload_n 2, 1) := by decide +kernel
theorem dX4_look_21 : decode cX4_look 21 = .ok (.iconst 0, 1) := by decide +kernel
theorem dX4_look_22 : decode cX4_look 22 = .ok (.iastore, 1) := by decide +kernel
theorem dX4_look_23 : decode cX4_look 23 = .ok (.iinc 2 1, 3) := by decide +kernel
theorem dX4_look_26 : decode cX4_look 26 = .ok (.goto (-16), 3) := by decide +kernel
theorem dX4_look_29 : decode cX4_look 29 = .ok (.iconst 0, 1) := by decide +kernel
theorem dX4_look_30 : decode cX4_look 30 = .ok (.istore_n 2, 1) := by decide +kernel
theorem dX4_look_31 : decode cX4_look 31 = .ok (.iload_n 2, 1) := by decide +kernel
theorem dX4_look_32 : decode cX4_look 32 = .ok (.aload_n 1, 1) := by decide +kernel
theorem dX4_look_33 : decode cX4_look 33 = .ok (.getfield 28, 3) := by decide +kernel
theorem dX4_look_36 : decode cX4_look 36 = .ok (.if_icmp .ge 51, 3) := by decide +kernel
theorem dX4_look_39 : decode cX4_look 39 = .ok (.iconst 1, 1) := by decide +kernel
theorem dX4_look_40 : decode cX4_look 40 = .ok (.istore_n 3, 1) := by decide +kernel
theorem dX4_look_41 : decode cX4_look 41 = .ok (.iload_n 3, 1) := by decide +kernel
theorem dX4_look_42 : decode cX4_look 42 = .ok (.aload_n 1, 1) := by decide +kernel
theorem dX4_look_43 : decode cX4_look 43 = .ok (.getfield 31, 3) := by decide +kernel
theorem dX4_look_46 : decode cX4_look 46 = .ok (.iload_n 2, 1) := by decide +kernel
theorem dX4_look_47 : decode cX4_look 47 = .ok (.iaload, 1) := by decide +kernel
theorem dX4_look_48 : decode cX4_look 48 = .ok (.if_icmp .ge 33, 3) := by decide +kernel
theorem dX4_look_51 : decode cX4_look 51 = .ok (.aload_n 0, 1) := by decide +kernel
theorem dX4_look_52 : decode cX4_look 52 = .ok (.getfield 9, 3) := by decide +kernel
theorem dX4_look_55 : decode cX4_look 55 = .ok (.aload_n 1, 1) := by decide +kernel
theorem dX4_look_56 : decode cX4_look 56 = .ok (.iload_n 2, 1) := by decide +kernel
theorem dX4_look_57 : decode cX4_look 57 = .ok (.iload_n 3, 1) := by decide +kernel
theorem dX4_look_58 : decode cX4_look 58 = .ok (.invokevirtual 34, 3) := by decide +kernel
theorem dX4_look_61 : decode cX4_look 61 = .ok (.dup2, 1) := by decide +kernel
theorem dX4_look_62 : decode cX4_look 62 = .ok (.iaload, 1) := by decide +kernel
theorem dX4_look_63 : decode cX4_look 63 = .ok (.iconst 1, 1) := by decide +kernel
theorem dX4_look_64 : decode cX4_look 64 = .ok (.aload_n 1, 1) := by decide +kernel
theorem dX4_look_65 : decode cX4_look 65 = .ok (.iload_n 2, 1) := by decide +kernel
theorem dX4_look_66 : decode cX4_look 66 = .ok (.iload_n 3, 1) := by decide +kernel
theorem dX4_look_67 : decode cX4_look 67 = .ok (.iconst 1, 1) := by decide +kernel
theorem dX4_look_68 : decode cX4_look 68 = .ok (.isub, 1) := by decide +kernel
theorem dX4_look_69 : decode cX4_look 69 = .ok (.invokevirtual 34, 3) := by decide +kernel
theorem dX4_look_72 : decode cX4_look 72 = .ok (.ishl, 1) := by decide +kernel
theorem dX4_look_73 : decode cX4_look 73 = .ok (.ior, 1) := by decide +kernel
theorem dX4_look_74 : decode cX4_look 74 = .ok (.iastore, 1) := by decide +kernel
theorem dX4_look_75 : decode cX4_look 75 = .ok (.iinc 3 1, 3) := by decide +kernel
theorem dX4_look_78 : decode cX4_look 78 = .ok (.goto (-37), 3) := by decide +kernel
theorem dX4_look_81 : decode cX4_look 81 = .ok (.iinc 2 1, 3) := by decide +kernel
theorem dX4_look_84 : decode cX4_look 84 = .ok (.goto (-53), 3) := by decide +kernel
theorem dX4_look_87 : decode cX4_look 87 = .ok (.aload_n 0, 1) := by decide +kernel
theorem dX4_look_88 : decode cX4_look 88 = .ok (.getfield 15, 3) := by decide +kernel
theorem dX4_look_91 : decode cX4_look 91 = .ok (.iconst 0, 1) := by decide +kernel
theorem dX4_look_92 : decode cX4_look 92 = .ok (.iconst 1, 1) := by decide +kernel
theorem dX4_look_93 : decode cX4_look 93 = .ok (.iastore, 1) := by decide +kernel
theorem dX4_look_94 : decode cX4_look 94 = .ok (.iconst 1, 1) := by decide +kernel
theorem dX4_look_95 : decode cX4_look 95 = .ok (.istore_n 2, 1) := by decide +kernel
theorem dX4_look_96 : decode cX4_look 96 = .ok (.iload_n 2, 1) := by decide +kernel
theorem dX4_look_97 : decode cX4_look 97 = .ok (.bipush 64, 2) := by decide +kernel
theorem dX4_look_99 : decode cX4_look 99 = .ok (.if_icmp .ge 34, 3) := by decide +kernel
theorem dX4_look_102 : decode cX4_look 102 = .ok (.aload_n 0, 1) := by decide +kernel
theorem dX4_look_103 : decode cX4_look 103 = .ok (.getfield 15, 3) := by decide +kernel
theorem dX4_look_106 : decode cX4_look 106 = .ok (.iload_n 2, 1) := by decide +kernel
theorem dX4_look_107 : decode cX4_look 107 = .ok (.iload_n 2, 1) := by decide +kernel
theorem dX4_look_108 : decode cX4_look 108 = .ok (.aload_n 0, 1) := by decide +kernel
theorem dX4_look_109 : decode cX4_look 109 = .ok (.getfield 18, 3) := by decide +kernel
theorem dX4_look_112 : decode cX4_look 112 = .ok (.iand, 1) := by decide +kernel
theorem dX4_look_113 : decode cX4_look 113 = .ok (.iload_n 2, 1) := by decide +kernel
theorem dX4_look_114 : decode cX4_look 114 = .ok (.if_icmp .ne 11, 3) := by decide +kernel
theorem dX4_look_117 : decode cX4_look 117 = .ok (.aload_n 0, 1) := by decide +kernel
theorem dX4_look_118 : decode cX4_look 118 = .ok (.iload_n 2, 1) := by decide +kernel
theorem dX4_look_119 : decode cX4_look 119 = .ok (.invokevirtual 38, 3) := by decide +kernel
theorem dX4_look_122 : decode cX4_look 122 = .ok (.goto 4, 3) := by decide +kernel
theorem dX4_look_125 : decode cX4_look 125 = .ok (.iconst 0, 1) := by decide +kernel
theorem dX4_look_126 : decode cX4_look 126 = .ok (.iastore, 1) := by decide +kernel
theorem dX4_look_127 : decode cX4_look 127 = .ok (.iinc 2 1, 3) := by decide +kernel
theorem dX4_look_130 : decode cX4_look 130 = .ok (.goto (-34), 3) := by decide +kernel
theorem dX4_look_133 : decode cX4_look 133 = .ok (.return_, 1) := by decide +kernel
theorem dX4_waysTo_0 : decode cX4_waysTo 0 = .ok (.iconst 0, 1) := by decide +kernel
theorem dX4_waysTo_1 : decode cX4_waysTo 1 = .ok (.istore_n 2, 1) := by decide +kernel
theorem dX4_waysTo_2 : decode cX4_waysTo 2 = .ok (.iconst 0, 1) := by decide +kernel
theorem dX4_waysTo_3 : decode cX4_waysTo 3 = .ok (.istore_n 3, 1) := by decide +kernel
theorem dX4_waysTo_4 : decode cX4_waysTo 4 = .ok (.iload_n 3, 1) := by decide +kernel
theorem dX4_waysTo_5 : decode cX4_waysTo 5 = .ok (.bipush 6, 2) := by decide +kernel
theorem dX4_waysTo_7 : decode cX4_waysTo 7 = .ok (.if_icmp .ge 44, 3) := by decide +kernel
theorem dX4_waysTo_10 : decode cX4_waysTo 10 = .ok (.iload_n 1, 1) := by decide +kernel
theorem dX4_waysTo_11 : decode cX4_waysTo 11 = .ok (.iconst 1, 1) := by decide +kernel
theorem dX4_waysTo_12 : decode cX4_waysTo 12 = .ok (.iload_n 3, 1) := by decide +kernel
theorem dX4_waysTo_13 : decode cX4_waysTo 13 = .ok (.ishl, 1) := by decide +kernel
theorem dX4_waysTo_14 : decode cX4_waysTo 14 = .ok (.iconst (-1), 1) := by decide +kernel
theorem dX4_waysTo_15 : decode cX4_waysTo 15 = .ok (.ixor, 1) := by decide +kernel
theorem dX4_waysTo_16 : decode cX4_waysTo 16 = .ok (.iand, 1) := by decide +kernel
theorem dX4_waysTo_17 : decode cX4_waysTo 17 = .ok (.istore 4, 2) := by decide +kernel
theorem dX4_waysTo_19 : decode cX4_waysTo 19 = .ok (.iload 4, 2) := by decide +kernel
theorem dX4_waysTo_21 : decode cX4_waysTo 21 = .ok (.iload_n 1, 1) := by decide +kernel
theorem dX4_waysTo_22 : decode cX4_waysTo 22 = .ok (.if_icmp .eq 23, 3) := by decide +kernel
theorem dX4_waysTo_25 : decode cX4_waysTo 25 = .ok (.aload_n 0, 1) := by decide +kernel
theorem dX4_waysTo_26 : decode cX4_waysTo 26 = .ok (.iload_n 3, 1) := by decide +kernel
theorem dX4_waysTo_27 : decode cX4_waysTo 27 = .ok (.iload 4, 2) := by decide +kernel
theorem dX4_waysTo_29 : decode cX4_waysTo 29 = .ok (.invokevirtual 42, 3) := by decide +kernel
theorem dX4_waysTo_32 : decode cX4_waysTo 32 = .ok (.ifCond .eq 13, 3) := by decide +kernel
theorem dX4_waysTo_35 : decode cX4_waysTo 35 = .ok (.iload_n 2, 1) := by decide +kernel
theorem dX4_waysTo_36 : decode cX4_waysTo 36 = .ok (.aload_n 0, 1) := by decide +kernel
theorem dX4_waysTo_37 : decode cX4_waysTo 37 = .ok (.getfield 15, 3) := by decide +kernel
theorem dX4_waysTo_40 : decode cX4_waysTo 40 = .ok (.iload 4, 2) := by decide +kernel
theorem dX4_waysTo_42 : decode cX4_waysTo 42 = .ok (.iaload, 1) := by decide +kernel
theorem dX4_waysTo_43 : decode cX4_waysTo 43 = .ok (.iadd, 1) := by decide +kernel
theorem dX4_waysTo_44 : decode cX4_waysTo 44 = .ok (.istore_n 2, 1) := by decide +kernel
theorem dX4_waysTo_45 : decode cX4_waysTo 45 = .ok (.iinc 3 1, 3) := by decide +kernel
theorem dX4_waysTo_48 : decode cX4_waysTo 48 = .ok (.goto (-44), 3) := by decide +kernel
theorem dX4_waysTo_51 : decode cX4_waysTo 51 = .ok (.iload_n 2, 1) := by decide +kernel
theorem dX4_waysTo_52 : decode cX4_waysTo 52 = .ok (.ireturn, 1) := by decide +kernel
theorem dX4_canFollow_0 : decode cX4_canFollow 0 = .ok (.aload_n 0, 1) := by decide +kernel
theorem dX4_canFollow_1 : decode cX4_canFollow 1 = .ok (.getfield 9, 3) := by decide +kernel
theorem dX4_canFollow_4 : decode cX4_canFollow 4 = .ok (.iload_n 1, 1) := by decide +kernel
theorem dX4_canFollow_5 : decode cX4_canFollow 5 = .ok (.iaload, 1) := by decide +kernel
theorem dX4_canFollow_6 : decode cX4_canFollow 6 = .ok (.iload_n 2, 1) := by decide +kernel
theorem dX4_canFollow_7 : decode cX4_canFollow 7 = .ok (.iand, 1) := by decide +kernel
theorem dX4_canFollow_8 : decode cX4_canFollow 8 = .ok (.aload_n 0, 1) := by decide +kernel
theorem dX4_canFollow_9 : decode cX4_canFollow 9 = .ok (.getfield 9, 3) := by decide +kernel
theorem dX4_canFollow_12 : decode cX4_canFollow 12 = .ok (.iload_n 1, 1) := by decide +kernel
theorem dX4_canFollow_13 : decode cX4_canFollow 13 = .ok (.iaload, 1) := by decide +kernel
theorem dX4_canFollow_14 : decode cX4_canFollow 14 = .ok (.if_icmp .ne 7, 3) := by decide +kernel
theorem dX4_canFollow_17 : decode cX4_canFollow 17 = .ok (.iconst 1, 1) := by decide +kernel
theorem dX4_canFollow_18 : decode cX4_canFollow 18 = .ok (.goto 4, 3) := by decide +kernel
theorem dX4_canFollow_21 : decode cX4_canFollow 21 = .ok (.iconst 0, 1) := by decide +kernel
theorem dX4_canFollow_22 : decode cX4_canFollow 22 = .ok (.ireturn, 1) := by decide +kernel
theorem dX4_howMany_0 : decode cX4_howMany 0 = .ok (.aload_n 0, 1) := by decide +kernel
theorem dX4_howMany_1 : decode cX4_howMany 1 = .ok (.getfield 15, 3) := by decide +kernel
theorem dX4_howMany_4 : decode cX4_howMany 4 = .ok (.aload_n 0, 1) := by decide +kernel
theorem dX4_howMany_5 : decode cX4_howMany 5 = .ok (.getfield 18, 3) := by decide +kernel
theorem dX4_howMany_8 : decode cX4_howMany 8 = .ok (.iaload, 1) := by decide +kernel
theorem dX4_howMany_9 : decode cX4_howMany 9 = .ok (.ireturn, 1) := by decide +kernel
theorem dX4_least_0 : decode cX4_least 0 = .ok (.iconst 0, 1) := by decide +kernel
theorem dX4_least_1 : decode cX4_least 1 = .ok (.istore_n 1, 1) := by decide +kernel
theorem dX4_least_2 : decode cX4_least 2 = .ok (.iconst 0, 1) := by decide +kernel
theorem dX4_least_3 : decode cX4_least 3 = .ok (.istore_n 2, 1) := by decide +kernel
theorem dX4_least_4 : decode cX4_least 4 = .ok (.iconst 0, 1) := by decide +kernel
theorem dX4_least_5 : decode cX4_least 5 = .ok (.istore_n 3, 1) := by decide +kernel
theorem dX4_least_6 : decode cX4_least 6 = .ok (.iload_n 3, 1) := by decide +kernel
theorem dX4_least_7 : decode cX4_least 7 = .ok (.bipush 6, 2) := by decide +kernel
theorem dX4_least_9 : decode cX4_least 9 = .ok (.if_icmp .ge 41, 3) := by decide +kernel
theorem dX4_least_12 : decode cX4_least 12 = .ok (.iload_n 2, 1) := by decide +kernel
theorem dX4_least_13 : decode cX4_least 13 = .ok (.aload_n 0, 1) := by decide +kernel
theorem dX4_least_14 : decode cX4_least 14 = .ok (.getfield 18, 3) := by decide +kernel
theorem dX4_least_17 : decode cX4_least 17 = .ok (.if_icmp .eq 33, 3) := by decide +kernel
theorem dX4_least_20 : decode cX4_least 20 = .ok (.aload_n 0, 1) := by decide +kernel
theorem dX4_least_21 : decode cX4_least 21 = .ok (.iload_n 2, 1) := by decide +kernel
theorem dX4_least_22 : decode cX4_least 22 = .ok (.invokevirtual 46, 3) := by decide +kernel
theorem dX4_least_25 : decode cX4_least 25 = .ok (.istore 4, 2) := by decide +kernel
theorem dX4_least_27 : decode cX4_least 27 = .ok (.bipush 10, 2) := by decide +kernel
theorem dX4_least_29 : decode cX4_least 29 = .ok (.iload_n 1, 1) := by decide +kernel
theorem dX4_least_30 : decode cX4_least 30 = .ok (.imul, 1) := by decide +kernel
theorem dX4_least_31 : decode cX4_least 31 = .ok (.iload 4, 2) := by decide +kernel
theorem dX4_least_33 : decode cX4_least 33 = .ok (.iadd, 1) := by decide +kernel
theorem dX4_least_34 : decode cX4_least 34 = .ok (.iconst 1, 1) := by decide +kernel
theorem dX4_least_35 : decode cX4_least 35 = .ok (.iadd, 1) := by decide +kernel
theorem dX4_least_36 : decode cX4_least 36 = .ok (.istore_n 1, 1) := by decide +kernel
theorem dX4_least_37 : decode cX4_least 37 = .ok (.iload_n 2, 1) := by decide +kernel
theorem dX4_least_38 : decode cX4_least 38 = .ok (.iconst 1, 1) := by decide +kernel
theorem dX4_least_39 : decode cX4_least 39 = .ok (.iload 4, 2) := by decide +kernel
theorem dX4_least_41 : decode cX4_least 41 = .ok (.ishl, 1) := by decide +kernel
theorem dX4_least_42 : decode cX4_least 42 = .ok (.ior, 1) := by decide +kernel
theorem dX4_least_43 : decode cX4_least 43 = .ok (.istore_n 2, 1) := by decide +kernel
theorem dX4_least_44 : decode cX4_least 44 = .ok (.iinc 3 1, 3) := by decide +kernel
theorem dX4_least_47 : decode cX4_least 47 = .ok (.goto (-41), 3) := by decide +kernel
theorem dX4_least_50 : decode cX4_least 50 = .ok (.iload_n 1, 1) := by decide +kernel
theorem dX4_least_51 : decode cX4_least 51 = .ok (.ireturn, 1) := by decide +kernel
theorem dX4_leastAfter_0 : decode cX4_leastAfter 0 = .ok (.iconst 0, 1) := by decide +kernel
theorem dX4_leastAfter_1 : decode cX4_leastAfter 1 = .ok (.istore_n 2, 1) := by decide +kernel
theorem dX4_leastAfter_2 : decode cX4_leastAfter 2 = .ok (.iload_n 2, 1) := by decide +kernel
theorem dX4_leastAfter_3 : decode cX4_leastAfter 3 = .ok (.bipush 6, 2) := by decide +kernel
theorem dX4_leastAfter_5 : decode cX4_leastAfter 5 = .ok (.if_icmp .ge 35, 3) := by decide +kernel
theorem dX4_leastAfter_8 : decode cX4_leastAfter 8 = .ok (.aload_n 0, 1) := by decide +kernel
theorem dX4_leastAfter_9 : decode cX4_leastAfter 9 = .ok (.getfield 18, 3) := by decide +kernel
theorem dX4_leastAfter_12 : decode cX4_leastAfter 12 = .ok (.iload_n 1, 1) := by decide +kernel
theorem dX4_leastAfter_13 : decode cX4_leastAfter 13 = .ok (.iconst (-1), 1) := by decide +kernel
theorem dX4_leastAfter_14 : decode cX4_leastAfter 14 = .ok (.ixor, 1) := by decide +kernel
theorem dX4_leastAfter_15 : decode cX4_leastAfter 15 = .ok (.iand, 1) := by decide +kernel
theorem dX4_leastAfter_16 : decode cX4_leastAfter 16 = .ok (.iconst 1, 1) := by decide +kernel
theorem dX4_leastAfter_17 : decode cX4_leastAfter 17 = .ok (.iload_n 2, 1) := by decide +kernel
theorem dX4_leastAfter_18 : decode cX4_leastAfter 18 = .ok (.ishl, 1) := by decide +kernel
theorem dX4_leastAfter_19 : decode cX4_leastAfter 19 = .ok (.iand, 1) := by decide +kernel
theorem dX4_leastAfter_20 : decode cX4_leastAfter 20 = .ok (.ifCond .eq 14, 3) := by decide +kernel
theorem dX4_leastAfter_23 : decode cX4_leastAfter 23 = .ok (.aload_n 0, 1) := by decide +kernel
theorem dX4_leastAfter_24 : decode cX4_leastAfter 24 = .ok (.iload_n 2, 1) := by decide +kernel
theorem dX4_leastAfter_25 : decode cX4_leastAfter 25 = .ok (.iload_n 1, 1) := by decide +kernel
theorem dX4_leastAfter_26 : decode cX4_leastAfter 26 = .ok (.invokevirtual 42, 3) := by decide +kernel
theorem dX4_leastAfter_29 : decode cX4_leastAfter 29 = .ok (.ifCond .eq 5, 3) := by decide +kernel
theorem dX4_leastAfter_32 : decode cX4_leastAfter 32 = .ok (.iload_n 2, 1) := by decide +kernel
theorem dX4_leastAfter_33 : decode cX4_leastAfter 33 = .ok (.ireturn, 1) := by decide +kernel
theorem dX4_leastAfter_34 : decode cX4_leastAfter 34 = .ok (.iinc 2 1, 3) := by decide +kernel
theorem dX4_leastAfter_37 : decode cX4_leastAfter 37 = .ok (.goto (-35), 3) := by decide +kernel
theorem dX4_leastAfter_40 : decode cX4_leastAfter 40 = .ok (.iconst 0, 1) := by decide +kernel
theorem dX4_leastAfter_41 : decode cX4_leastAfter 41 = .ok (.ireturn, 1) := by decide +kernel
theorem dX5_init_0 : decode cX5_init 0 = .ok (.aload_n 0, 1) := by decide +kernel
theorem dX5_init_1 : decode cX5_init 1 = .ok (.invokespecial 3, 3) := by decide +kernel
theorem dX5_init_4 : decode cX5_init 4 = .ok (.aload_n 0, 1) := by decide +kernel
theorem dX5_init_5 : decode cX5_init 5 = .ok (.new 9, 3) := by decide +kernel
theorem dX5_init_8 : decode cX5_init 8 = .ok (.dup, 1) := by decide +kernel
theorem dX5_init_9 : decode cX5_init 9 = .ok (.invokespecial 11, 3) := by decide +kernel
theorem dX5_init_12 : decode cX5_init 12 = .ok (.putfield 12, 3) := by decide +kernel
theorem dX5_init_15 : decode cX5_init 15 = .ok (.aload_n 0, 1) := by decide +kernel
theorem dX5_init_16 : decode cX5_init 16 = .ok (.new 18, 3) := by decide +kernel
theorem dX5_init_19 : decode cX5_init 19 = .ok (.dup, 1) := by decide +kernel
theorem dX5_init_20 : decode cX5_init 20 = .ok (.invokespecial 20, 3) := by decide +kernel
theorem dX5_init_23 : decode cX5_init 23 = .ok (.putfield 21, 3) := by decide +kernel
theorem dX5_init_26 : decode cX5_init 26 = .ok (.aload_n 0, 1) := by decide +kernel
theorem dX5_init_27 : decode cX5_init 27 = .ok (.iconst 0, 1) := by decide +kernel
theorem dX5_init_28 : decode cX5_init 28 = .ok (.putfield 25, 3) := by decide +kernel
theorem dX5_init_31 : decode cX5_init 31 = .ok (.aload_n 0, 1) := by decide +kernel
theorem dX5_init_32 : decode cX5_init 32 = .ok (.iconst 0, 1) := by decide +kernel
theorem dX5_init_33 : decode cX5_init 33 = .ok (.putfield 29, 3) := by decide +kernel
theorem dX5_init_36 : decode cX5_init 36 = .ok (.return_, 1) := by decide +kernel
theorem dX5_read_0 : decode cX5_read 0 = .ok (.aload_n 0, 1) := by decide +kernel
theorem dX5_read_1 : decode cX5_read 1 = .ok (.getfield 12, 3) := by decide +kernel
theorem dX5_read_4 : decode cX5_read 4 = .ok (.invokevirtual 32, 3) := by decide +kernel
theorem dX5_read_7 : decode cX5_read 7 = .ok (.aload_n 0, 1) := by decide +kernel
theorem dX5_read_8 : decode cX5_read 8 = .ok (.getfield 21, 3) := by decide +kernel
theorem dX5_read_11 : decode cX5_read 11 = .ok (.invokevirtual 35, 3) := by decide +kernel
theorem dX5_read_14 : decode cX5_read 14 = .ok (.aload_n 0, 1) := by decide +kernel
theorem dX5_read_15 : decode cX5_read 15 = .ok (.iconst 0, 1) := by decide +kernel
theorem dX5_read_16 : decode cX5_read 16 = .ok (.putfield 25, 3) := by decide +kernel
theorem dX5_read_19 : decode cX5_read 19 = .ok (.iconst 0, 1) := by decide +kernel
theorem dX5_read_20 : decode cX5_read 20 = .ok (.istore_n 2, 1) := by decide +kernel
theorem dX5_read_21 : decode cX5_read 21 = .ok (.iload_n 2, 1) := by decide +kernel
theorem dX5_read_22 : decode cX5_read 22 = .ok (.aload_n 1, 1) := by decide +kernel
theorem dX5_read_23 : decode cX5_read 23 = .ok (.getfield 36, 3) := by decide +kernel
theorem dX5_read_26 : decode cX5_read 26 = .ok (.if_icmp .ge 30, 3) := by decide +kernel
theorem dX5_read_29 : decode cX5_read 29 = .ok (.iload_n 2, 1) := by decide +kernel
theorem dX5_read_30 : decode cX5_read 30 = .ok (.bipush 48, 2) := by decide +kernel
theorem dX5_read_32 : decode cX5_read 32 = .ok (.if_icmp .ge 24, 3) := by decide +kernel
theorem dX5_read_35 : decode cX5_read 35 = .ok (.aload_n 0, 1) := by decide +kernel
theorem dX5_read_36 : decode cX5_read 36 = .ok (.aload_n 1, 1) := by decide +kernel
theorem dX5_read_37 : decode cX5_read 37 = .ok (.getfield 41, 3) := by decide +kernel
theorem dX5_read_40 : decode cX5_read 40 = .ok (.iload_n 2, 1) := by decide +kernel
theorem dX5_read_41 : decode cX5_read 41 = .ok (.iaload, 1) := by decide +kernel
theorem dX5_read_42 : decode cX5_read 42 = .ok (.invokevirtual 45, 3) := by decide +kernel
theorem dX5_read_45 : decode cX5_read 45 = .ok (.ifCond .ne 5, 3) := by decide +kernel
theorem dX5_read_48 : decode cX5_read 48 = .ok (.iload_n 2, 1) := by decide +kernel
theorem dX5_read_49 : decode cX5_read 49 = .ok (.ireturn, 1) := by decide +kernel
theorem dX5_read_50 : decode cX5_read 50 = .ok (.iinc 2 1, 3) := by decide +kernel
theorem dX5_read_53 : decode cX5_read 53 = .ok (.goto (-32), 3) := by decide +kernel
theorem dX5_read_56 : decode cX5_read 56 = .ok (.aload_n 0, 1) := by decide +kernel
theorem dX5_read_57 : decode cX5_read 57 = .ok (.getfield 25, 3) := by decide +kernel
theorem dX5_read_60 : decode cX5_read 60 = .ok (.iconst 1, 1) := by decide +kernel
theorem dX5_read_61 : decode cX5_read 61 = .ok (.if_icmp .eq 11, 3) := by decide +kernel
theorem dX5_read_64 : decode cX5_read 64 = .ok (.aload_n 0, 1) := by decide +kernel
theorem dX5_read_65 : decode cX5_read 65 = .ok (.getfield 25, 3) := by decide +kernel
theorem dX5_read_68 : decode cX5_read 68 = .ok (.iconst 4, 1) := by decide +kernel
theorem dX5_read_69 : decode cX5_read 69 = .ok (.if_icmp .ne 8, 3) := by decide +kernel
theorem dX5_read_72 : decode cX5_read 72 = .ok (.bipush (-9), 2) := by decide +kernel
theorem dX5_read_74 : decode cX5_read 74 = .ok (.goto 7, 3) := by decide +kernel
theorem dX5_read_77 : decode cX5_read 77 = .ok (.aload_n 1, 1) := by decide +kernel
theorem dX5_read_78 : decode cX5_read 78 = .ok (.getfield 36, 3) := by decide +kernel
theorem dX5_read_81 : decode cX5_read 81 = .ok (.ireturn, 1) := by decide +kernel
theorem dX5_takes_0 : decode cX5_takes 0 = .ok (.aload_n 0, 1) := by decide +kernel
theorem dX5_takes_1 : decode cX5_takes 1 = .ok (.getfield 25, 3) := by decide +kernel
theorem dX5_takes_4 : decode cX5_takes 4 = .ok (.tableswitch 135 0 6 #[44, 135, 61, 70, 79, 104, 126], 44) := by decide +kernel
theorem dX5_takes_48 : decode cX5_takes 48 = .ok (.aload_n 0, 1) := by decide +kernel
theorem dX5_takes_49 : decode cX5_takes 49 = .ok (.iconst 1, 1) := by decide +kernel
theorem dX5_takes_50 : decode cX5_takes 50 = .ok (.putfield 25, 3) := by decide +kernel
theorem dX5_takes_53 : decode cX5_takes 53 = .ok (.iload_n 1, 1) := by decide +kernel
theorem dX5_takes_54 : decode cX5_takes 54 = .ok (.bipush 75, 2) := by decide +kernel
theorem dX5_takes_56 : decode cX5_takes 56 = .ok (.if_icmp .ne 7, 3) := by decide +kernel
theorem dX5_takes_59 : decode cX5_takes 59 = .ok (.iconst 1, 1) := by decide +kernel
theorem dX5_takes_60 : decode cX5_takes 60 = .ok (.goto 4, 3) := by decide +kernel
theorem dX5_takes_63 : decode cX5_takes 63 = .ok (.iconst 0, 1) := by decide +kernel
theorem dX5_takes_64 : decode cX5_takes 64 = .ok (.ireturn, 1) := by decide +kernel
theorem dX5_takes_65 : decode cX5_takes 65 = .ok (.aload_n 0, 1) := by decide +kernel
theorem dX5_takes_66 : decode cX5_takes 66 = .ok (.iload_n 1, 1) := by decide +kernel
theorem dX5_takes_67 : decode cX5_takes 67 = .ok (.bipush 48, 2) := by decide +kernel
theorem dX5_takes_69 : decode cX5_takes 69 = .ok (.isub, 1) := by decide +kernel
theorem dX5_takes_70 : decode cX5_takes 70 = .ok (.invokevirtual 49, 3) := by decide +kernel
theorem dX5_takes_73 : decode cX5_takes 73 = .ok (.ireturn, 1) := by decide +kernel
theorem dX5_takes_74 : decode cX5_takes 74 = .ok (.aload_n 0, 1) := by decide +kernel
theorem dX5_takes_75 : decode cX5_takes 75 = .ok (.iload_n 1, 1) := by decide +kernel
theorem dX5_takes_76 : decode cX5_takes 76 = .ok (.bipush 97, 2) := by decide +kernel
theorem dX5_takes_78 : decode cX5_takes 78 = .ok (.isub, 1) := by decide +kernel
theorem dX5_takes_79 : decode cX5_takes 79 = .ok (.invokevirtual 52, 3) := by decide +kernel
theorem dX5_takes_82 : decode cX5_takes 82 = .ok (.ireturn, 1) := by decide +kernel
theorem dX5_takes_83 : decode cX5_takes 83 = .ok (.aload_n 0, 1) := by decide +kernel
theorem dX5_takes_84 : decode cX5_takes 84 = .ok (.iload_n 1, 1) := by decide +kernel
theorem dX5_takes_85 : decode cX5_takes 85 = .ok (.bipush 97, 2) := by decide +kernel
theorem dX5_takes_87 : decode cX5_takes 87 = .ok (.isub, 1) := by decide +kernel
theorem dX5_takes_88 : decode cX5_takes 88 = .ok (.invokevirtual 52, 3) := by decide +kernel
theorem dX5_takes_91 : decode cX5_takes 91 = .ok (.ifCond .ne 11, 3) := by decide +kernel
theorem dX5_takes_94 : decode cX5_takes 94 = .ok (.aload_n 0, 1) := by decide +kernel
theorem dX5_takes_95 : decode cX5_takes 95 = .ok (.iload_n 1, 1) := by decide +kernel
theorem dX5_takes_96 : decode cX5_takes 96 = .ok (.invokevirtual 55, 3) := by decide +kernel
theorem dX5_takes_99 : decode cX5_takes 99 = .ok (.ifCond .eq 7, 3) := by decide +kernel
theorem dX5_takes_102 : decode cX5_takes 102 = .ok (.iconst 1, 1) := by decide +kernel
theorem dX5_takes_103 : decode cX5_takes 103 = .ok (.goto 4, 3) := by decide +kernel
theorem dX5_takes_106 : decode cX5_takes 106 = .ok (.iconst 0, 1) := by decide +kernel
theorem dX5_takes_107 : decode cX5_takes 107 = .ok (.ireturn, 1) := by decide +kernel
theorem dX5_takes_108 : decode cX5_takes 108 = .ok (.aload_n 0, 1) := by decide +kernel
theorem dX5_takes_109 : decode cX5_takes 109 = .ok (.iload_n 1, 1) := by decide +kernel
theorem dX5_takes_110 : decode cX5_takes 110 = .ok (.bipush 48, 2) := by decide +kernel
theorem dX5_takes_112 : decode cX5_takes 112 = .ok (.isub, 1) := by decide +kernel
theorem dX5_takes_113 : decode cX5_takes 113 = .ok (.putfield 29, 3) := by decide +kernel
theorem dX5_takes_116 : decode cX5_takes 116 = .ok (.aload_n 0, 1) := by decide +kernel
theorem dX5_takes_117 : decode cX5_takes 117 = .ok (.bipush 6, 2) := by decide +kernel
theorem dX5_takes_119 : decode cX5_takes 119 = .ok (.putfield 25, 3) := by decide +kernel
theorem dX5_takes_122 : decode cX5_takes 122 = .ok (.aload_n 0, 1) := by decide +kernel
theorem dX5_takes_123 : decode cX5_takes 123 = .ok (.getfield 29, 3) := by decide +kernel
theorem dX5_takes_126 : decode cX5_takes 126 = .ok (.invokestatic 58, 3) := by decide +kernel
theorem dX5_takes_129 : decode cX5_takes 129 = .ok (.ireturn, 1) := by decide +kernel
theorem dX5_takes_130 : decode cX5_takes 130 = .ok (.aload_n 0, 1) := by decide +kernel
theorem dX5_takes_131 : decode cX5_takes 131 = .ok (.iload_n 1, 1) := by decide +kernel
theorem dX5_takes_132 : decode cX5_takes 132 = .ok (.bipush 48, 2) := by decide +kernel
theorem dX5_takes_134 : decode cX5_takes 134 = .ok (.isub, 1) := by decide +kernel
theorem dX5_takes_135 : decode cX5_takes 135 = .ok (.invokevirtual 61, 3) := by decide +kernel
theorem dX5_takes_138 : decode cX5_takes 138 = .ok (.ireturn, 1) := by decide +kernel
theorem dX5_takes_139 : decode cX5_takes 139 = .ok (.aload_n 0, 1) := by decide +kernel
theorem dX5_takes_140 : decode cX5_takes 140 = .ok (.iload_n 1, 1) := by decide +kernel
theorem dX5_takes_141 : decode cX5_takes 141 = .ok (.invokevirtual 55, 3) := by decide +kernel
theorem dX5_takes_144 : decode cX5_takes 144 = .ok (.ireturn, 1) := by decide +kernel
theorem dX5_beginsPart_0 : decode cX5_beginsPart 0 = .ok (.iload_n 1, 1) := by decide +kernel
theorem dX5_beginsPart_1 : decode cX5_beginsPart 1 = .ok (.bipush 71, 2) := by decide +kernel
theorem dX5_beginsPart_3 : decode cX5_beginsPart 3 = .ok (.if_icmp .ne 21, 3) := by decide +kernel
theorem dX5_beginsPart_6 : decode cX5_beginsPart 6 = .ok (.aload_n 0, 1) := by decide +kernel
theorem dX5_beginsPart_7 : decode cX5_beginsPart 7 = .ok (.getfield 12, 3) := by decide +kernel
theorem dX5_beginsPart_10 : decode cX5_beginsPart 10 = .ok (.getfield 64, 3) := by decide +kernel
theorem dX5_beginsPart_13 : decode cX5_beginsPart 13 = .ok (.iconst 4, 1) := by decide +kernel
theorem dX5_beginsPart_14 : decode cX5_beginsPart 14 = .ok (.if_icmp .ge 10, 3) := by decide +kernel
theorem dX5_beginsPart_17 : decode cX5_beginsPart 17 = .ok (.aload_n 0, 1) := by decide +kernel
theorem dX5_beginsPart_18 : decode cX5_beginsPart 18 = .ok (.iconst 2, 1) := by decide +kernel
theorem dX5_beginsPart_19 : decode cX5_beginsPart 19 = .ok (.putfield 25, 3) := by decide +kernel
theorem dX5_beginsPart_22 : decode cX5_beginsPart 22 = .ok (.iconst 1, 1) := by decide +kernel
theorem dX5_beginsPart_23 : decode cX5_beginsPart 23 = .ok (.ireturn, 1) := by decide +kernel
theorem dX5_beginsPart_24 : decode cX5_beginsPart 24 = .ok (.iload_n 1, 1) := by decide +kernel
theorem dX5_beginsPart_25 : decode cX5_beginsPart 25 = .ok (.bipush 73, 2) := by decide +kernel
theorem dX5_beginsPart_27 : decode cX5_beginsPart 27 = .ok (.if_icmp .ne 21, 3) := by decide +kernel
theorem dX5_beginsPart_30 : decode cX5_beginsPart 30 = .ok (.aload_n 0, 1) := by decide +kernel
theorem dX5_beginsPart_31 : decode cX5_beginsPart 31 = .ok (.getfield 21, 3) := by decide +kernel
theorem dX5_beginsPart_34 : decode cX5_beginsPart 34 = .ok (.getfield 67, 3) := by decide +kernel
theorem dX5_beginsPart_37 : decode cX5_beginsPart 37 = .ok (.iconst 4, 1) := by decide +kernel
theorem dX5_beginsPart_38 : decode cX5_beginsPart 38 = .ok (.if_icmp .ge 10, 3) := by decide +kernel
theorem dX5_beginsPart_41 : decode cX5_beginsPart 41 = .ok (.aload_n 0, 1) := by decide +kernel
theorem dX5_beginsPart_42 : decode cX5_beginsPart 42 = .ok (.iconst 5, 1) := by decide +kernel
theorem dX5_beginsPart_43 : decode cX5_beginsPart 43 = .ok (.putfield 25, 3) := by decide +kernel
theorem dX5_beginsPart_46 : decode cX5_beginsPart 46 = .ok (.iconst 1, 1) := by decide +kernel
theorem dX5_beginsPart_47 : decode cX5_beginsPart 47 = .ok (.ireturn, 1) := by decide +kernel
theorem dX5_beginsPart_48 : decode cX5_beginsPart 48 = .ok (.iconst 0, 1) := by decide +kernel
theorem dX5_beginsPart_49 : decode cX5_beginsPart 49 = .ok (.ireturn, 1) := by decide +kernel
theorem dX5_takesKilnPlace_0 : decode cX5_takesKilnPlace 0 = .ok (.iload_n 1, 1) := by decide +kernel
theorem dX5_takesKilnPlace_1 : decode cX5_takesKilnPlace 1 = .ok (.invokestatic 58, 3) := by decide +kernel
theorem dX5_takesKilnPlace_4 : decode cX5_takesKilnPlace 4 = .ok (.ifCond .eq 16, 3) := by decide +kernel
theorem dX5_takesKilnPlace_7 : decode cX5_takesKilnPlace 7 = .ok (.aload_n 0, 1) := by decide +kernel
theorem dX5_takesKilnPlace_8 : decode cX5_takesKilnPlace 8 = .ok (.getfield 12, 3) := by decide +kernel
theorem dX5_takesKilnPlace_11 : decode cX5_takesKilnPlace 11 = .ok (.iload_n 1, 1) := by decide +kernel
theorem dX5_takesKilnPlace_12 : decode cX5_takesKilnPlace 12 = .ok (.invokevirtual 70, 3) := by decide +kernel
theorem dX5_takesKilnPlace_15 : decode cX5_takesKilnPlace 15 = .ok (.bipush (-9), 2) := by decide +kernel
theorem dX5_takesKilnPlace_17 : decode cX5_takesKilnPlace 17 = .ok (.if_icmp .eq 5, 3) := by decide +kernel
theorem dX5_takesKilnPlace_20 : decode cX5_takesKilnPlace 20 = .ok (.iconst 0, 1) := by decide +kernel
theorem dX5_takesKilnPlace_21 : decode cX5_takesKilnPlace 21 = .ok (.ireturn, 1) := by decide +kernel
theorem dX5_takesKilnPlace_22 : decode cX5_takesKilnPlace 22 = .ok (.aload_n 0, 1) := by decide +kernel
theorem dX5_takesKilnPlace_23 : decode cX5_takesKilnPlace 23 = .ok (.getfield 12, 3) := by decide +kernel
theorem dX5_takesKilnPlace_26 : decode cX5_takesKilnPlace 26 = .ok (.iload_n 1, 1) := by decide +kernel
theorem dX5_takesKilnPlace_27 : decode cX5_takesKilnPlace 27 = .ok (.invokevirtual 74, 3) := by decide +kernel
theorem dX5_takesKilnPlace_30 : decode cX5_takesKilnPlace 30 = .ok (.aload_n 0, 1) := by decide +kernel
theorem dX5_takesKilnPlace_31 : decode cX5_takesKilnPlace 31 = .ok (.iconst 3, 1) := by decide +kernel
theorem dX5_takesKilnPlace_32 : decode cX5_takesKilnPlace 32 = .ok (.putfield 25, 3) := by decide +kernel
theorem dX5_takesKilnPlace_35 : decode cX5_takesKilnPlace 35 = .ok (.iconst 1, 1) := by decide +kernel
theorem dX5_takesKilnPlace_36 : decode cX5_takesKilnPlace 36 = .ok (.ireturn, 1) := by decide +kernel
theorem dX5_takesLayer_0 : decode cX5_takesLayer 0 = .ok (.iload_n 1, 1) := by decide +kernel
theorem dX5_takesLayer_1 : decode cX5_takesLayer 1 = .ok (.ifCond .lt 9, 3) := by decide +kernel
theorem dX5_takesLayer_4 : decode cX5_takesLayer 4 = .ok (.iload_n 1, 1) := by decide +kernel
theorem dX5_takesLayer_5 : decode cX5_takesLayer 5 = .ok (.bipush 6, 2) := by decide +kernel
theorem dX5_takesLayer_7 : decode cX5_takesLayer 7 = .ok (.if_icmp .lt 5, 3) := by decide +kernel
theorem dX5_takesLayer_10 : decode cX5_takesLayer 10 = .ok (.iconst 0, 1) := by decide +kernel
theorem dX5_takesLayer_11 : decode cX5_takesLayer 11 = .ok (.ireturn, 1) := by decide +kernel
theorem dX5_takesLayer_12 : decode cX5_takesLayer 12 = .ok (.aload_n 0, 1) := by decide +kernel
theorem dX5_takesLayer_13 : decode cX5_takesLayer 13 = .ok (.iconst 4, 1) := by decide +kernel
theorem dX5_takesLayer_14 : decode cX5_takesLayer 14 = .ok (.putfield 25, 3) := by decide +kernel
theorem dX5_takesLayer_17 : decode cX5_takesLayer 17 = .ok (.aload_n 0, 1) := by decide +kernel
theorem dX5_takesLayer_18 : decode cX5_takesLayer 18 = .ok (.getfield 12, 3) := by decide +kernel
theorem dX5_takesLayer_21 : decode cX5_takesLayer 21 = .ok (.iload_n 1, 1) := by decide +kernel
theorem dX5_takesLayer_22 : decode cX5_takesLayer 22 = .ok (.invokevirtual 78, 3) := by decide +kernel
theorem dX5_takesLayer_25 : decode cX5_takesLayer 25 = .ok (.ireturn, 1) := by decide +kernel
theorem dX5_takesTrampKind_0 : decode cX5_takesTrampKind 0 = .ok (.iload_n 1, 1) := by decide +kernel
theorem dX5_takesTrampKind_1 : decode cX5_takesTrampKind 1 = .ok (.ifCond .lt 8, 3) := by decide +kernel
theorem dX5_takesTrampKind_4 : decode cX5_takesTrampKind 4 = .ok (.iload_n 1, 1) := by decide +kernel
theorem dX5_takesTrampKind_5 : decode cX5_takesTrampKind 5 = .ok (.iconst 4, 1) := by decide +kernel
theorem dX5_takesTrampKind_6 : decode cX5_takesTrampKind 6 = .ok (.if_icmp .lt 5, 3) := by decide +kernel
theorem dX5_takesTrampKind_9 : decode cX5_takesTrampKind 9 = .ok (.iconst 0, 1) := by decide +kernel
theorem dX5_takesTrampKind_10 : decode cX5_takesTrampKind 10 = .ok (.ireturn, 1) := by decide +kernel
theorem dX5_takesTrampKind_11 : decode cX5_takesTrampKind 11 = .ok (.aload_n 0, 1) := by decide +kernel
theorem dX5_takesTrampKind_12 : decode cX5_takesTrampKind 12 = .ok (.getfield 21, 3) := by decide +kernel
theorem dX5_takesTrampKind_15 : decode cX5_takesTrampKind 15 = .ok (.aload_n 0, 1) := by decide +kernel
theorem dX5_takesTrampKind_16 : decode cX5_takesTrampKind 16 = .ok (.getfield 29, 3) := by decide +kernel
theorem dX5_takesTrampKind_19 : decode cX5_takesTrampKind 19 = .ok (.iload_n 1, 1) := by decide +kernel
theorem dX5_takesTrampKind_20 : decode cX5_takesTrampKind 20 = .ok (.invokevirtual 81, 3) := by decide +kernel
theorem dX5_takesTrampKind_23 : decode cX5_takesTrampKind 23 = .ok (.aload_n 0, 1) := by decide +kernel
theorem dX5_takesTrampKind_24 : decode cX5_takesTrampKind 24 = .ok (.iconst 1, 1) := by decide +kernel
theorem dX5_takesTrampKind_25 : decode cX5_takesTrampKind 25 = .ok (.putfield 25, 3) := by decide +kernel
theorem dX5_takesTrampKind_28 : decode cX5_takesTrampKind 28 = .ok (.iconst 1, 1) := by decide +kernel
theorem dX5_takesTrampKind_29 : decode cX5_takesTrampKind 29 = .ok (.ireturn, 1) := by decide +kernel
theorem dX6_init_0 : decode cX6_init 0 = .ok (.aload_n 0, 1) := by decide +kernel
theorem dX6_init_1 : decode cX6_init 1 = .ok (.invokespecial 3, 3) := by decide +kernel
theorem dX6_init_4 : decode cX6_init 4 = .ok (.aload_n 0, 1) := by decide +kernel
theorem dX6_init_5 : decode cX6_init 5 = .ok (.bipush 48, 2) := by decide +kernel
theorem dX6_init_7 : decode cX6_init 7 = .ok (.newarray .int, 2) := by decide +kernel
theorem dX6_init_9 : decode cX6_init 9 = .ok (.putfield 9, 3) := by decide +kernel
theorem dX6_init_12 : decode cX6_init 12 = .ok (.aload_n 0, 1) := by decide +kernel
theorem dX6_init_13 : decode cX6_init 13 = .ok (.iconst 0, 1) := by decide +kernel
theorem dX6_init_14 : decode cX6_init 14 = .ok (.putfield 15, 3) := by decide +kernel
theorem dX6_init_17 : decode cX6_init 17 = .ok (.return_, 1) := by decide +kernel
theorem dX6_add_0 : decode cX6_add 0 = .ok (.aload_n 0, 1) := by decide +kernel
theorem dX6_add_1 : decode cX6_add 1 = .ok (.getfield 15, 3) := by decide +kernel
theorem dX6_add_4 : decode cX6_add 4 = .ok (.bipush 48, 2) := by decide +kernel
theorem dX6_add_6 : decode cX6_add 6 = .ok (.if_icmp .ge 23, 3) := by decide +kernel
theorem dX6_add_9 : decode cX6_add 9 = .ok (.aload_n 0, 1) := by decide +kernel
theorem dX6_add_10 : decode cX6_add 10 = .ok (.getfield 9, 3) := by decide +kernel
theorem dX6_add_13 : decode cX6_add 13 = .ok (.aload_n 0, 1) := by decide +kernel
theorem dX6_add_14 : decode cX6_add 14 = .ok (.getfield 15, 3) := by decide +kernel
theorem dX6_add_17 : decode cX6_add 17 = .ok (.iload_n 1, 1) := by decide +kernel
theorem dX6_add_18 : decode cX6_add 18 = .ok (.iastore, 1) := by decide +kernel
theorem dX6_add_19 : decode cX6_add 19 = .ok (.aload_n 0, 1) := by decide +kernel
theorem dX6_add_20 : decode cX6_add 20 = .ok (.dup, 1) := by decide +kernel
theorem dX6_add_21 : decode cX6_add 21 = .ok (.getfield 15, 3) := by decide +kernel
theorem dX6_add_24 : decode cX6_add 24 = .ok (.iconst 1, 1) := by decide +kernel
theorem dX6_add_25 : decode cX6_add 25 = .ok (.iadd, 1) := by decide +kernel
theorem dX6_add_26 : decode cX6_add 26 = .ok (.putfield 15, 3) := by decide +kernel
theorem dX6_add_29 : decode cX6_add 29 = .ok (.return_, 1) := by decide +kernel
theorem dX7_init_0 : decode cX7_init 0 = .ok (.aload_n 0, 1) := by decide +kernel
theorem dX7_init_1 : decode cX7_init 1 = .ok (.invokespecial 3, 3) := by decide +kernel
theorem dX7_init_4 : decode cX7_init 4 = .ok (.aload_n 0, 1) := by decide +kernel
theorem dX7_init_5 : decode cX7_init 5 = .ok (.sipush 343, 3) := by decide +kernel
theorem dX7_init_8 : decode cX7_init 8 = .ok (.newarray .long, 2) := by decide +kernel
theorem dX7_init_10 : decode cX7_init 10 = .ok (.putfield 11, 3) := by decide +kernel
theorem dX7_init_13 : decode cX7_init 13 = .ok (.aload_n 0, 1) := by decide +kernel
theorem dX7_init_14 : decode cX7_init 14 = .ok (.sipush 343, 3) := by decide +kernel
theorem dX7_init_17 : decode cX7_init 17 = .ok (.newarray .int, 2) := by decide +kernel
theorem dX7_init_19 : decode cX7_init 19 = .ok (.putfield 15, 3) := by decide +kernel
theorem dX7_init_22 : decode cX7_init 22 = .ok (.aload_n 0, 1) := by decide +kernel
theorem dX7_init_23 : decode cX7_init 23 = .ok (.sipush 343, 3) := by decide +kernel
theorem dX7_init_26 : decode cX7_init 26 = .ok (.newarray .long, 2) := by decide +kernel
theorem dX7_init_28 : decode cX7_init 28 = .ok (.putfield 19, 3) := by decide +kernel
theorem dX7_init_31 : decode cX7_init 31 = .ok (.aload_n 0, 1) := by decide +kernel
theorem dX7_init_32 : decode cX7_init 32 = .ok (.sipush 343, 3) := by decide +kernel
theorem dX7_init_35 : decode cX7_init 35 = .ok (.newarray .int, 2) := by decide +kernel
theorem dX7_init_37 : decode cX7_init 37 = .ok (.putfield 22, 3) := by decide +kernel
theorem dX7_init_40 : decode cX7_init 40 = .ok (.aload_n 0, 1) := by decide +kernel
theorem dX7_init_41 : decode cX7_init 41 = .ok (.iconst 0, 1) := by decide +kernel
theorem dX7_init_42 : decode cX7_init 42 = .ok (.putfield 25, 3) := by decide +kernel
theorem dX7_init_45 : decode cX7_init 45 = .ok (.aload_n 0, 1) := by decide +kernel
theorem dX7_init_46 : decode cX7_init 46 = .ok (.iconst 0, 1) := by decide +kernel
theorem dX7_init_47 : decode cX7_init 47 = .ok (.putfield 29, 3) := by decide +kernel
theorem dX7_init_50 : decode cX7_init 50 = .ok (.aload_n 0, 1) := by decide +kernel
theorem dX7_init_51 : decode cX7_init 51 = .ok (.iconst 0, 1) := by decide +kernel
theorem dX7_init_52 : decode cX7_init 52 = .ok (.putfield 32, 3) := by decide +kernel
theorem dX7_init_55 : decode cX7_init 55 = .ok (.aload_n 0, 1) := by decide +kernel
theorem dX7_init_56 : decode cX7_init 56 = .ok (.iconst 0, 1) := by decide +kernel
theorem dX7_init_57 : decode cX7_init 57 = .ok (.putfield 35, 3) := by decide +kernel
theorem dX7_init_60 : decode cX7_init 60 = .ok (.return_, 1) := by decide +kernel
theorem dX7_finds_0 : decode cX7_finds 0 = .ok (.aload_n 0, 1) := by decide +kernel
theorem dX7_finds_1 : decode cX7_finds 1 = .ok (.iconst 0, 1) := by decide +kernel
theorem dX7_finds_2 : decode cX7_finds 2 = .ok (.putfield 32, 3) := by decide +kernel
theorem dX7_finds_5 : decode cX7_finds 5 = .ok (.aload_n 0, 1) := by decide +kernel
theorem dX7_finds_6 : decode cX7_finds 6 = .ok (.iconst 0, 1) := by decide +kernel
theorem dX7_finds_7 : decode cX7_finds 7 = .ok (.putfield 35, 3) := by decide +kernel
theorem dX7_finds_10 : decode cX7_finds 10 = .ok (.aload_n 1, 1) := by decide +kernel
theorem dX7_finds_11 : decode cX7_finds 11 = .ok (.getfield 38, 3) := by decide +kernel
theorem dX7_finds_14 : decode cX7_finds 14 = .ok (.iload_n 3, 1) := by decide +kernel
theorem dX7_finds_15 : decode cX7_finds 15 = .ok (.iaload, 1) := by decide +kernel
theorem dX7_finds_16 : decode cX7_finds 16 = .ok (.iload 4, 2) := by decide +kernel
theorem dX7_finds_18 : decode cX7_finds 18 = .ok (.iand, 1) := by decide +kernel
theorem dX7_finds_19 : decode cX7_finds 19 = .ok (.iload 4, 2) := by decide +kernel
theorem dX7_finds_21 : decode cX7_finds 21 = .ok (.if_icmp .ne 5, 3) := by decide +kernel
theorem dX7_finds_24 : decode cX7_finds 24 = .ok (.iconst 1, 1) := by decide +kernel
theorem dX7_finds_25 : decode cX7_finds 25 = .ok (.ireturn, 1) := by decide +kernel
theorem dX7_finds_26 : decode cX7_finds 26 = .ok (.aload_n 0, 1) := by decide +kernel
theorem dX7_finds_27 : decode cX7_finds 27 = .ok (.getfield 11, 3) := by decide +kernel
theorem dX7_finds_30 : decode cX7_finds 30 = .ok (.iconst 0, 1) := by decide +kernel
theorem dX7_finds_31 : decode cX7_finds 31 = .ok (.aload_n 1, 1) := by decide +kernel
theorem dX7_finds_32 : decode cX7_finds 32 = .ok (.invokevirtual 43, 3) := by decide +kernel
theorem dX7_finds_35 : decode cX7_finds 35 = .ok (.lastore, 1) := by decide +kernel
theorem dX7_finds_36 : decode cX7_finds 36 = .ok (.aload_n 0, 1) := by decide +kernel
theorem dX7_finds_37 : decode cX7_finds 37 = .ok (.getfield 15, 3) := by decide +kernel
theorem dX7_finds_40 : decode cX7_finds 40 = .ok (.iconst 0, 1) := by decide +kernel
theorem dX7_finds_41 : decode cX7_finds 41 = .ok (.iconst 0, 1) := by decide +kernel
theorem dX7_finds_42 : decode cX7_finds 42 = .ok (.iastore, 1) := by decide +kernel
theorem dX7_finds_43 : decode cX7_finds 43 = .ok (.aload_n 0, 1) := by decide +kernel
theorem dX7_finds_44 : decode cX7_finds 44 = .ok (.iconst 1, 1) := by decide +kernel
theorem dX7_finds_45 : decode cX7_finds 45 = .ok (.putfield 25, 3) := by decide +kernel
theorem dX7_finds_48 : decode cX7_finds 48 = .ok (.aload_n 0, 1) := by decide +kernel
theorem dX7_finds_49 : decode cX7_finds 49 = .ok (.iconst 1, 1) := by decide +kernel
theorem dX7_finds_50 : decode cX7_finds 50 = .ok (.putfield 32, 3) := by decide +kernel
theorem dX7_finds_53 : decode cX7_finds 53 = .ok (.aload_n 0, 1) := by decide +kernel
theorem dX7_finds_54 : decode cX7_finds 54 = .ok (.getfield 32, 3) := by decide +kernel
theorem dX7_finds_57 : decode cX7_finds 57 = .ok (.iconst 4, 1) := by decide +kernel
theorem dX7_finds_58 : decode cX7_finds 58 = .ok (.if_icmp .gt 59, 3) := by decide +kernel
theorem dX7_finds_61 : decode cX7_finds 61 = .ok (.aload_n 0, 1) := by decide +kernel
theorem dX7_finds_62 : decode cX7_finds 62 = .ok (.iconst 0, 1) := by decide +kernel
theorem dX7_finds_63 : decode cX7_finds 63 = .ok (.putfield 29, 3) := by decide +kernel
theorem dX7_finds_66 : decode cX7_finds 66 = .ok (.iconst 0, 1) := by decide +kernel
theorem dX7_finds_67 : decode cX7_finds 67 = .ok (.istore 5, 2) := by decide +kernel
theorem dX7_finds_69 : decode cX7_finds 69 = .ok (.iload 5, 2) := by decide +kernel
theorem dX7_finds_71 : decode cX7_finds 71 = .ok (.aload_n 0, 1) := by decide +kernel
theorem dX7_finds_72 : decode cX7_finds 72 = .ok (.getfield 25, 3) := by decide +kernel
theorem dX7_finds_75 : decode cX7_finds 75 = .ok (.if_icmp .ge 25, 3) := by decide +kernel
theorem dX7_finds_78 : decode cX7_finds 78 = .ok (.aload_n 0, 1) := by decide +kernel
theorem dX7_finds_79 : decode cX7_finds 79 = .ok (.iload 5, 2) := by decide +kernel
theorem dX7_finds_81 : decode cX7_finds 81 = .ok (.aload_n 1, 1) := by decide +kernel
theorem dX7_finds_82 : decode cX7_finds 82 = .ok (.aload_n 2, 1) := by decide +kernel
theorem dX7_finds_83 : decode cX7_finds 83 = .ok (.iload_n 3, 1) := by decide +kernel
theorem dX7_finds_84 : decode cX7_finds 84 = .ok (.iload 4, 2) := by decide +kernel
theorem dX7_finds_86 : decode cX7_finds 86 = .ok (.invokevirtual 47, 3) := by decide +kernel
theorem dX7_finds_89 : decode cX7_finds 89 = .ok (.ifCond .eq 5, 3) := by decide +kernel
theorem dX7_finds_92 : decode cX7_finds 92 = .ok (.iconst 1, 1) := by decide +kernel
theorem dX7_finds_93 : decode cX7_finds 93 = .ok (.ireturn, 1) := by decide +kernel
theorem dX7_finds_94 : decode cX7_finds 94 = .ok (.iinc 5 1, 3) := by decide +kernel
theorem dX7_finds_97 : decode cX7_finds 97 = .ok (.goto (-28), 3) := by decide +kernel
theorem dX7_finds_100 : decode cX7_finds 100 = .ok (.aload_n 0, 1) := by decide +kernel
theorem dX7_finds_101 : decode cX7_finds 101 = .ok (.invokevirtual 51, 3) := by decide +kernel
theorem dX7_finds_104 : decode cX7_finds 104 = .ok (.aload_n 0, 1) := by decide +kernel
theorem dX7_finds_105 : decode cX7_finds 105 = .ok (.dup, 1) := by decide +kernel
theorem dX7_finds_106 : decode cX7_finds 106 = .ok (.getfield 32, 3) := by decide +kernel
theorem dX7_finds_109 : decode cX7_finds 109 = .ok (.iconst 1, 1) := by decide +kernel
theorem dX7_finds_110 : decode cX7_finds 110 = .ok (.iadd, 1) := by decide +kernel
theorem dX7_finds_111 : decode cX7_finds 111 = .ok (.putfield 32, 3) := by decide +kernel
theorem dX7_finds_114 : decode cX7_finds 114 = .ok (.goto (-61), 3) := by decide +kernel
theorem dX7_finds_117 : decode cX7_finds 117 = .ok (.iconst 0, 1) := by decide +kernel
theorem dX7_finds_118 : decode cX7_finds 118 = .ok (.ireturn, 1) := by decide +kernel
theorem dX7_findsFrom_0 : decode cX7_findsFrom 0 = .ok (.iconst 0, 1) := by decide +kernel
theorem dX7_findsFrom_1 : decode cX7_findsFrom 1 = .ok (.istore 6, 2) := by decide +kernel
theorem dX7_findsFrom_3 : decode cX7_findsFrom 3 = .ok (.iload 6, 2) := by decide +kernel
theorem dX7_findsFrom_5 : decode cX7_findsFrom 5 = .ok (.bipush 10, 2) := by decide +kernel
theorem dX7_findsFrom_7 : decode cX7_findsFrom 7 = .ok (.if_icmp .ge 101, 3) := by decide +kernel
theorem dX7_findsFrom_10 : decode cX7_findsFrom 10 = .ok (.aload_n 2, 1) := by decide +kernel
theorem dX7_findsFrom_11 : decode cX7_findsFrom 11 = .ok (.aload_n 0, 1) := by decide +kernel
theorem dX7_findsFrom_12 : decode cX7_findsFrom 12 = .ok (.getfield 11, 3) := by decide +kernel
theorem dX7_findsFrom_15 : decode cX7_findsFrom 15 = .ok (.iload_n 1, 1) := by decide +kernel
theorem dX7_findsFrom_16 : decode cX7_findsFrom 16 = .ok (.laload, 1) := by decide +kernel
theorem dX7_findsFrom_17 : decode cX7_findsFrom 17 = .ok (.invokevirtual 54, 3) := by decide +kernel
theorem dX7_findsFrom_20 : decode cX7_findsFrom 20 = .ok (.aload_n 2, 1) := by decide +kernel
theorem dX7_findsFrom_21 : decode cX7_findsFrom 21 = .ok (.getfield 58, 3) := by decide +kernel
theorem dX7_findsFrom_24 : decode cX7_findsFrom 24 = .ok (.iload 4, 2) := by decide +kernel
theorem dX7_findsFrom_26 : decode cX7_findsFrom 26 = .ok (.iaload, 1) := by decide +kernel
theorem dX7_findsFrom_27 : decode cX7_findsFrom 27 = .ok (.iload 6, 2) := by decide +kernel
theorem dX7_findsFrom_29 : decode cX7_findsFrom 29 = .ok (.if_icmp .eq 14, 3) := by decide +kernel
theorem dX7_findsFrom_32 : decode cX7_findsFrom 32 = .ok (.aload_n 2, 1) := by decide +kernel
theorem dX7_findsFrom_33 : decode cX7_findsFrom 33 = .ok (.iload 4, 2) := by decide +kernel
theorem dX7_findsFrom_35 : decode cX7_findsFrom 35 = .ok (.iload 6, 2) := by decide +kernel
theorem dX7_findsFrom_37 : decode cX7_findsFrom 37 = .ok (.invokevirtual 61, 3) := by decide +kernel
theorem dX7_findsFrom_40 : decode cX7_findsFrom 40 = .ok (.ifCond .eq 62, 3) := by decide +kernel
theorem dX7_findsFrom_43 : decode cX7_findsFrom 43 = .ok (.aload_n 2, 1) := by decide +kernel
theorem dX7_findsFrom_44 : decode cX7_findsFrom 44 = .ok (.aload_n 3, 1) := by decide +kernel
theorem dX7_findsFrom_45 : decode cX7_findsFrom 45 = .ok (.iconst 0, 1) := by decide +kernel
theorem dX7_findsFrom_46 : decode cX7_findsFrom 46 = .ok (.invokevirtual 65, 3) := by decide +kernel
theorem dX7_findsFrom_49 : decode cX7_findsFrom 49 = .ok (.aload_n 0, 1) := by decide +kernel
theorem dX7_findsFrom_50 : decode cX7_findsFrom 50 = .ok (.bipush 10, 2) := by decide +kernel
theorem dX7_findsFrom_52 : decode cX7_findsFrom 52 = .ok (.aload_n 0, 1) := by decide +kernel
theorem dX7_findsFrom_53 : decode cX7_findsFrom 53 = .ok (.getfield 15, 3) := by decide +kernel
theorem dX7_findsFrom_56 : decode cX7_findsFrom 56 = .ok (.iload_n 1, 1) := by decide +kernel
theorem dX7_findsFrom_57 : decode cX7_findsFrom 57 = .ok (.iaload, 1) := by decide +kernel
theorem dX7_findsFrom_58 : decode cX7_findsFrom 58 = .ok (.imul, 1) := by decide +kernel
theorem dX7_findsFrom_59 : decode cX7_findsFrom 59 = .ok (.iload 6, 2) := by decide +kernel
theorem dX7_findsFrom_61 : decode cX7_findsFrom 61 = .ok (.iadd, 1) := by decide +kernel
theorem dX7_findsFrom_62 : decode cX7_findsFrom 62 = .ok (.putfield 35, 3) := by decide +kernel
theorem dX7_findsFrom_65 : decode cX7_findsFrom 65 = .ok (.aload_n 2, 1) := by decide +kernel
theorem dX7_findsFrom_66 : decode cX7_findsFrom 66 = .ok (.getfield 38, 3) := by decide +kernel
theorem dX7_findsFrom_69 : decode cX7_findsFrom 69 = .ok (.iload 4, 2) := by decide +kernel
theorem dX7_findsFrom_71 : decode cX7_findsFrom 71 = .ok (.iaload, 1) := by decide +kernel
theorem dX7_findsFrom_72 : decode cX7_findsFrom 72 = .ok (.iload 5, 2) := by decide +kernel
theorem dX7_findsFrom_74 : decode cX7_findsFrom 74 = .ok (.iand, 1) := by decide +kernel
theorem dX7_findsFrom_75 : decode cX7_findsFrom 75 = .ok (.iload 5, 2) := by decide +kernel
theorem dX7_findsFrom_77 : decode cX7_findsFrom 77 = .ok (.if_icmp .ne 5, 3) := by decide +kernel
theorem dX7_findsFrom_80 : decode cX7_findsFrom 80 = .ok (.iconst 1, 1) := by decide +kernel
theorem dX7_findsFrom_81 : decode cX7_findsFrom 81 = .ok (.ireturn, 1) := by decide +kernel
theorem dX7_findsFrom_82 : decode cX7_findsFrom 82 = .ok (.aload_n 0, 1) := by decide +kernel
theorem dX7_findsFrom_83 : decode cX7_findsFrom 83 = .ok (.getfield 32, 3) := by decide +kernel
theorem dX7_findsFrom_86 : decode cX7_findsFrom 86 = .ok (.iconst 4, 1) := by decide +kernel
theorem dX7_findsFrom_87 : decode cX7_findsFrom 87 = .ok (.if_icmp .ge 15, 3) := by decide +kernel
theorem dX7_findsFrom_90 : decode cX7_findsFrom 90 = .ok (.aload_n 0, 1) := by decide +kernel
theorem dX7_findsFrom_91 : decode cX7_findsFrom 91 = .ok (.aload_n 2, 1) := by decide +kernel
theorem dX7_findsFrom_92 : decode cX7_findsFrom 92 = .ok (.invokevirtual 43, 3) := by decide +kernel
theorem dX7_findsFrom_95 : decode cX7_findsFrom 95 = .ok (.aload_n 0, 1) := by decide +kernel
theorem dX7_findsFrom_96 : decode cX7_findsFrom 96 = .ok (.getfield 35, 3) := by decide +kernel
theorem dX7_findsFrom_99 : decode cX7_findsFrom 99 = .ok (.invokevirtual 69, 3) := by decide +kernel
theorem dX7_findsFrom_102 : decode cX7_findsFrom 102 = .ok (.iinc 6 1, 3) := by decide +kernel
theorem dX7_findsFrom_105 : decode cX7_findsFrom 105 = .ok (.goto (-102), 3) := by decide +kernel
theorem dX7_findsFrom_108 : decode cX7_findsFrom 108 = .ok (.iconst 0, 1) := by decide +kernel
theorem dX7_findsFrom_109 : decode cX7_findsFrom 109 = .ok (.ireturn, 1) := by decide +kernel
theorem dX7_addNext_0 : decode cX7_addNext 0 = .ok (.iconst 0, 1) := by decide +kernel
theorem dX7_addNext_1 : decode cX7_addNext 1 = .ok (.istore 4, 2) := by decide +kernel
theorem dX7_addNext_3 : decode cX7_addNext 3 = .ok (.iload 4, 2) := by decide +kernel
theorem dX7_addNext_5 : decode cX7_addNext 5 = .ok (.aload_n 0, 1) := by decide +kernel
theorem dX7_addNext_6 : decode cX7_addNext 6 = .ok (.getfield 29, 3) := by decide +kernel
theorem dX7_addNext_9 : decode cX7_addNext 9 = .ok (.if_icmp .ge 22, 3) := by decide +kernel
theorem dX7_addNext_12 : decode cX7_addNext 12 = .ok (.aload_n 0, 1) := by decide +kernel
theorem dX7_addNext_13 : decode cX7_addNext 13 = .ok (.getfield 19, 3) := by decide +kernel
theorem dX7_addNext_16 : decode cX7_addNext 16 = .ok (.iload 4, 2) := by decide +kernel
theorem dX7_addNext_18 : decode cX7_addNext 18 = .ok (.laload, 1) := by decide +kernel
theorem dX7_addNext_19 : decode cX7_addNext 19 = .ok (.lload_n 1, 1) := by decide +kernel
theorem dX7_addNext_20 : decode cX7_addNext 20 = .ok (.lcmp, 1) := by decide +kernel
theorem dX7_addNext_21 : decode cX7_addNext 21 = .ok (.ifCond .ne 4, 3) := by decide +kernel
theorem dX7_addNext_24 : decode cX7_addNext 24 = .ok (.return_, 1) := by decide +kernel
theorem dX7_addNext_25 : decode cX7_addNext 25 = .ok (.iinc 4 1, 3) := by decide +kernel
theorem dX7_addNext_28 : decode cX7_addNext 28 = .ok (.goto (-25), 3) := by decide +kernel
theorem dX7_addNext_31 : decode cX7_addNext 31 = .ok (.aload_n 0, 1) := by decide +kernel
theorem dX7_addNext_32 : decode cX7_addNext 32 = .ok (.getfield 29, 3) := by decide +kernel
theorem dX7_addNext_35 : decode cX7_addNext 35 = .ok (.sipush 343, 3) := by decide +kernel
theorem dX7_addNext_38 : decode cX7_addNext 38 = .ok (.if_icmp .ge 33, 3) := by decide +kernel
theorem dX7_addNext_41 : decode cX7_addNext 41 = .ok (.aload_n 0, 1) := by decide +kernel
theorem dX7_addNext_42 : decode cX7_addNext 42 = .ok (.getfield 19, 3) := by decide +kernel
theorem dX7_addNext_45 : decode cX7_addNext 45 = .ok (.aload_n 0, 1) := by decide +kernel
theorem dX7_addNext_46 : decode cX7_addNext 46 = .ok (.getfield 29, 3) := by decide +kernel
theorem dX7_addNext_49 : decode cX7_addNext 49 = .ok (.lload_n 1, 1) := by decide +kernel
theorem dX7_addNext_50 : decode cX7_addNext 50 = .ok (.lastore, 1) := by decide +kernel
theorem dX7_addNext_51 : decode cX7_addNext 51 = .ok (.aload_n 0, 1) := by decide +kernel
theorem dX7_addNext_52 : decode cX7_addNext 52 = .ok (.getfield 22, 3) := by decide +kernel
theorem dX7_addNext_55 : decode cX7_addNext 55 = .ok (.aload_n 0, 1) := by decide +kernel
theorem dX7_addNext_56 : decode cX7_addNext 56 = .ok (.getfield 29, 3) := by decide +kernel
theorem dX7_addNext_59 : decode cX7_addNext 59 = .ok (.iload_n 3, 1) := by decide +kernel
theorem dX7_addNext_60 : decode cX7_addNext 60 = .ok (.iastore, 1) := by decide +kernel
theorem dX7_addNext_61 : decode cX7_addNext 61 = .ok (.aload_n 0, 1) := by decide +kernel
theorem dX7_addNext_62 : decode cX7_addNext 62 = .ok (.dup, 1) := by decide +kernel
theorem dX7_addNext_63 : decode cX7_addNext 63 = .ok (.getfield 29, 3) := by decide +kernel
theorem dX7_addNext_66 : decode cX7_addNext 66 = .ok (.iconst 1, 1) := by decide +kernel
theorem dX7_addNext_67 : decode cX7_addNext 67 = .ok (.iadd, 1) := by decide +kernel
theorem dX7_addNext_68 : decode cX7_addNext 68 = .ok (.putfield 29, 3) := by decide +kernel
theorem dX7_addNext_71 : decode cX7_addNext 71 = .ok (.return_, 1) := by decide +kernel
theorem dX7_turnToNext_0 : decode cX7_turnToNext 0 = .ok (.aload_n 0, 1) := by decide +kernel
theorem dX7_turnToNext_1 : decode cX7_turnToNext 1 = .ok (.getfield 19, 3) := by decide +kernel
theorem dX7_turnToNext_4 : decode cX7_turnToNext 4 = .ok (.iconst 0, 1) := by decide +kernel
theorem dX7_turnToNext_5 : decode cX7_turnToNext 5 = .ok (.aload_n 0, 1) := by decide +kernel
theorem dX7_turnToNext_6 : decode cX7_turnToNext 6 = .ok (.getfield 11, 3) := by decide +kernel
theorem dX7_turnToNext_9 : decode cX7_turnToNext 9 = .ok (.iconst 0, 1) := by decide +kernel
theorem dX7_turnToNext_10 : decode cX7_turnToNext 10 = .ok (.aload_n 0, 1) := by decide +kernel
theorem dX7_turnToNext_11 : decode cX7_turnToNext 11 = .ok (.getfield 29, 3) := by decide +kernel
theorem dX7_turnToNext_14 : decode cX7_turnToNext 14 = .ok (.invokestatic 73, 3) := by decide +kernel
theorem dX7_turnToNext_17 : decode cX7_turnToNext 17 = .ok (.aload_n 0, 1) := by decide +kernel
theorem dX7_turnToNext_18 : decode cX7_turnToNext 18 = .ok (.getfield 22, 3) := by decide +kernel
theorem dX7_turnToNext_21 : decode cX7_turnToNext 21 = .ok (.iconst 0, 1) := by decide +kernel
theorem dX7_turnToNext_22 : decode cX7_turnToNext 22 = .ok (.aload_n 0, 1) := by decide +kernel
theorem dX7_turnToNext_23 : decode cX7_turnToNext 23 = .ok (.getfield 15, 3) := by decide +kernel
theorem dX7_turnToNext_26 : decode cX7_turnToNext 26 = .ok (.iconst 0, 1) := by decide +kernel
theorem dX7_turnToNext_27 : decode cX7_turnToNext 27 = .ok (.aload_n 0, 1) := by decide +kernel
theorem dX7_turnToNext_28 : decode cX7_turnToNext 28 = .ok (.getfield 29, 3) := by decide +kernel
theorem dX7_turnToNext_31 : decode cX7_turnToNext 31 = .ok (.invokestatic 73, 3) := by decide +kernel
theorem dX7_turnToNext_34 : decode cX7_turnToNext 34 = .ok (.aload_n 0, 1) := by decide +kernel
theorem dX7_turnToNext_35 : decode cX7_turnToNext 35 = .ok (.aload_n 0, 1) := by decide +kernel
theorem dX7_turnToNext_36 : decode cX7_turnToNext 36 = .ok (.getfield 29, 3) := by decide +kernel
theorem dX7_turnToNext_39 : decode cX7_turnToNext 39 = .ok (.putfield 25, 3) := by decide +kernel
theorem dX7_turnToNext_42 : decode cX7_turnToNext 42 = .ok (.return_, 1) := by decide +kernel
theorem dX8_init_0 : decode cX8_init 0 = .ok (.aload_n 0, 1) := by decide +kernel
theorem dX8_init_1 : decode cX8_init 1 = .ok (.invokespecial 3, 3) := by decide +kernel
theorem dX8_init_4 : decode cX8_init 4 = .ok (.aload_n 0, 1) := by decide +kernel
theorem dX8_init_5 : decode cX8_init 5 = .ok (.iconst 2, 1) := by decide +kernel
theorem dX8_init_6 : decode cX8_init 6 = .ok (.newarray .long, 2) := by decide +kernel
theorem dX8_init_8 : decode cX8_init 8 = .ok (.putfield 9, 3) := by decide +kernel
theorem dX8_init_11 : decode cX8_init 11 = .ok (.aload_n 0, 1) := by decide +kernel
theorem dX8_init_12 : decode cX8_init 12 = .ok (.iconst 2, 1) := by decide +kernel
theorem dX8_init_13 : decode cX8_init 13 = .ok (.newarray .int, 2) := by decide +kernel
theorem dX8_init_15 : decode cX8_init 15 = .ok (.putfield 15, 3) := by decide +kernel
theorem dX8_init_18 : decode cX8_init 18 = .ok (.aload_n 0, 1) := by decide +kernel
theorem dX8_init_19 : decode cX8_init 19 = .ok (.iconst 2, 1) := by decide +kernel
theorem dX8_init_20 : decode cX8_init 20 = .ok (.newarray .boolean, 2) := by decide +kernel
theorem dX8_init_22 : decode cX8_init 22 = .ok (.putfield 19, 3) := by decide +kernel
theorem dX8_init_25 : decode cX8_init 25 = .ok (.return_, 1) := by decide +kernel
theorem dX8_clear_0 : decode cX8_clear 0 = .ok (.iconst 0, 1) := by decide +kernel
theorem dX8_clear_1 : decode cX8_clear 1 = .ok (.istore_n 1, 1) := by decide +kernel
theorem dX8_clear_2 : decode cX8_clear 2 = .ok (.iload_n 1, 1) := by decide +kernel
theorem dX8_clear_3 : decode cX8_clear 3 = .ok (.iconst 2, 1) := by decide +kernel
theorem dX8_clear_4 : decode cX8_clear 4 = .ok (.if_icmp .ge 16, 3) := by decide +kernel
theorem dX8_clear_7 : decode cX8_clear 7 = .ok (.aload_n 0, 1) := by decide +kernel
theorem dX8_clear_8 : decode cX8_clear 8 = .ok (.getfield 19, 3) := by decide +kernel
theorem dX8_clear_11 : decode cX8_clear 11 = .ok (.iload_n 1, 1) := by decide +kernel
theorem dX8_clear_12 : decode cX8_clear 12 = .ok (.iconst 0, 1) := by decide +kernel
theorem dX8_clear_13 : decode cX8_clear 13 = .ok (.bastore, 1) := by decide +kernel
theorem dX8_clear_14 : decode cX8_clear 14 = .ok (.iinc 1 1, 3) := by decide +kernel
theorem dX8_clear_17 : decode cX8_clear 17 = .ok (.goto (-15), 3) := by decide +kernel
theorem dX8_clear_20 : decode cX8_clear 20 = .ok (.return_, 1) := by decide +kernel
theorem dX8_holds_0 : decode cX8_holds 0 = .ok (.iload_n 1, 1) := by decide +kernel
theorem dX8_holds_1 : decode cX8_holds 1 = .ok (.invokestatic 23, 3) := by decide +kernel
theorem dX8_holds_4 : decode cX8_holds 4 = .ok (.ifCond .eq 16, 3) := by decide +kernel
theorem dX8_holds_7 : decode cX8_holds 7 = .ok (.aload_n 0, 1) := by decide +kernel
theorem dX8_holds_8 : decode cX8_holds 8 = .ok (.getfield 19, 3) := by decide +kernel
theorem dX8_holds_11 : decode cX8_holds 11 = .ok (.iload_n 1, 1) := by decide +kernel
theorem dX8_holds_12 : decode cX8_holds 12 = .ok (.baload, 1) := by decide +kernel
theorem dX8_holds_13 : decode cX8_holds 13 = .ok (.ifCond .eq 7, 3) := by decide +kernel
theorem dX8_holds_16 : decode cX8_holds 16 = .ok (.iconst 1, 1) := by decide +kernel
theorem dX8_holds_17 : decode cX8_holds 17 = .ok (.goto 4, 3) := by decide +kernel
theorem dX8_holds_20 : decode cX8_holds 20 = .ok (.iconst 0, 1) := by decide +kernel
theorem dX8_holds_21 : decode cX8_holds 21 = .ok (.ireturn, 1) := by decide +kernel
theorem dX8_put_0 : decode cX8_put 0 = .ok (.iload_n 1, 1) := by decide +kernel
theorem dX8_put_1 : decode cX8_put 1 = .ok (.invokestatic 23, 3) := by decide +kernel
theorem dX8_put_4 : decode cX8_put 4 = .ok (.ifCond .eq 30, 3) := by decide +kernel
theorem dX8_put_7 : decode cX8_put 7 = .ok (.aload_n 0, 1) := by decide +kernel
theorem dX8_put_8 : decode cX8_put 8 = .ok (.getfield 9, 3) := by decide +kernel
theorem dX8_put_11 : decode cX8_put 11 = .ok (.iload_n 1, 1) := by decide +kernel
theorem dX8_put_12 : decode cX8_put 12 = .ok (.aload_n 2, 1) := by decide +kernel
theorem dX8_put_13 : decode cX8_put 13 = .ok (.invokevirtual 27, 3) := by decide +kernel
theorem dX8_put_16 : decode cX8_put 16 = .ok (.lastore, 1) := by decide +kernel
theorem dX8_put_17 : decode cX8_put 17 = .ok (.aload_n 0, 1) := by decide +kernel
theorem dX8_put_18 : decode cX8_put 18 = .ok (.getfield 15, 3) := by decide +kernel
theorem dX8_put_21 : decode cX8_put 21 = .ok (.iload_n 1, 1) := by decide +kernel
theorem dX8_put_22 : decode cX8_put 22 = .ok (.aload_n 2, 1) := by decide +kernel
theorem dX8_put_23 : decode cX8_put 23 = .ok (.getfield 33, 3) := by decide +kernel
theorem dX8_put_26 : decode cX8_put 26 = .ok (.iastore, 1) := by decide +kernel
theorem dX8_put_27 : decode cX8_put 27 = .ok (.aload_n 0, 1) := by decide +kernel
theorem dX8_put_28 : decode cX8_put 28 = .ok (.getfield 19, 3) := by decide +kernel
theorem dX8_put_31 : decode cX8_put 31 = .ok (.iload_n 1, 1) := by decide +kernel
theorem dX8_put_32 : decode cX8_put 32 = .ok (.iconst 1, 1) := by decide +kernel
theorem dX8_put_33 : decode cX8_put 33 = .ok (.bastore, 1) := by decide +kernel
theorem dX8_put_34 : decode cX8_put 34 = .ok (.return_, 1) := by decide +kernel
theorem dX8_bringBack_0 : decode cX8_bringBack 0 = .ok (.aload_n 0, 1) := by decide +kernel
theorem dX8_bringBack_1 : decode cX8_bringBack 1 = .ok (.iload_n 1, 1) := by decide +kernel
theorem dX8_bringBack_2 : decode cX8_bringBack 2 = .ok (.invokevirtual 36, 3) := by decide +kernel
theorem dX8_bringBack_5 : decode cX8_bringBack 5 = .ok (.ifCond .eq 23, 3) := by decide +kernel
theorem dX8_bringBack_8 : decode cX8_bringBack 8 = .ok (.aload_n 2, 1) := by decide +kernel
theorem dX8_bringBack_9 : decode cX8_bringBack 9 = .ok (.aload_n 0, 1) := by decide +kernel
theorem dX8_bringBack_10 : decode cX8_bringBack 10 = .ok (.getfield 9, 3) := by decide +kernel
theorem dX8_bringBack_13 : decode cX8_bringBack 13 = .ok (.iload_n 1, 1) := by decide +kernel
theorem dX8_bringBack_14 : decode cX8_bringBack 14 = .ok (.laload, 1) := by decide +kernel
theorem dX8_bringBack_15 : decode cX8_bringBack 15 = .ok (.invokevirtual 39, 3) := by decide +kernel
theorem dX8_bringBack_18 : decode cX8_bringBack 18 = .ok (.aload_n 2, 1) := by decide +kernel
theorem dX8_bringBack_19 : decode cX8_bringBack 19 = .ok (.aload_n 0, 1) := by decide +kernel
theorem dX8_bringBack_20 : decode cX8_bringBack 20 = .ok (.getfield 15, 3) := by decide +kernel
theorem dX8_bringBack_23 : decode cX8_bringBack 23 = .ok (.iload_n 1, 1) := by decide +kernel
theorem dX8_bringBack_24 : decode cX8_bringBack 24 = .ok (.iaload, 1) := by decide +kernel
theorem dX8_bringBack_25 : decode cX8_bringBack 25 = .ok (.putfield 33, 3) := by decide +kernel
theorem dX8_bringBack_28 : decode cX8_bringBack 28 = .ok (.return_, 1) := by decide +kernel
theorem dX9_init_0 : decode cX9_init 0 = .ok (.aload_n 0, 1) := by decide +kernel
theorem dX9_init_1 : decode cX9_init 1 = .ok (.invokespecial 3, 3) := by decide +kernel
theorem dX9_init_4 : decode cX9_init 4 = .ok (.aload_n 0, 1) := by decide +kernel
theorem dX9_init_5 : decode cX9_init 5 = .ok (.iconst 0, 1) := by decide +kernel
theorem dX9_init_6 : decode cX9_init 6 = .ok (.putfield 9, 3) := by decide +kernel
theorem dX9_init_9 : decode cX9_init 9 = .ok (.aload_n 0, 1) := by decide +kernel
theorem dX9_init_10 : decode cX9_init 10 = .ok (.iconst 0, 1) := by decide +kernel
theorem dX9_init_11 : decode cX9_init 11 = .ok (.putfield 15, 3) := by decide +kernel
theorem dX9_init_14 : decode cX9_init 14 = .ok (.aload_n 0, 1) := by decide +kernel
theorem dX9_init_15 : decode cX9_init 15 = .ok (.iconst 0, 1) := by decide +kernel
theorem dX9_init_16 : decode cX9_init 16 = .ok (.putfield 18, 3) := by decide +kernel
theorem dX9_init_19 : decode cX9_init 19 = .ok (.aload_n 0, 1) := by decide +kernel
theorem dX9_init_20 : decode cX9_init 20 = .ok (.iconst 0, 1) := by decide +kernel
theorem dX9_init_21 : decode cX9_init 21 = .ok (.putfield 21, 3) := by decide +kernel
theorem dX9_init_24 : decode cX9_init 24 = .ok (.aload_n 0, 1) := by decide +kernel
theorem dX9_init_25 : decode cX9_init 25 = .ok (.bipush (-9), 2) := by decide +kernel
theorem dX9_init_27 : decode cX9_init 27 = .ok (.putfield 24, 3) := by decide +kernel
theorem dX9_init_30 : decode cX9_init 30 = .ok (.return_, 1) := by decide +kernel
theorem dX9_clear_0 : decode cX9_clear 0 = .ok (.aload_n 0, 1) := by decide +kernel
theorem dX9_clear_1 : decode cX9_clear 1 = .ok (.iconst 0, 1) := by decide +kernel
theorem dX9_clear_2 : decode cX9_clear 2 = .ok (.putfield 9, 3) := by decide +kernel
theorem dX9_clear_5 : decode cX9_clear 5 = .ok (.aload_n 0, 1) := by decide +kernel
theorem dX9_clear_6 : decode cX9_clear 6 = .ok (.iconst 0, 1) := by decide +kernel
theorem dX9_clear_7 : decode cX9_clear 7 = .ok (.putfield 15, 3) := by decide +kernel
theorem dX9_clear_10 : decode cX9_clear 10 = .ok (.aload_n 0, 1) := by decide +kernel
theorem dX9_clear_11 : decode cX9_clear 11 = .ok (.iconst 0, 1) := by decide +kernel
theorem dX9_clear_12 : decode cX9_clear 12 = .ok (.putfield 18, 3) := by decide +kernel
theorem dX9_clear_15 : decode cX9_clear 15 = .ok (.return_, 1) := by decide +kernel
theorem dX9_add_0 : decode cX9_add 0 = .ok (.iload_n 2, 1) := by decide +kernel
theorem dX9_add_1 : decode cX9_add 1 = .ok (.ifCond .eq 16, 3) := by decide +kernel
theorem dX9_add_4 : decode cX9_add 4 = .ok (.aload_n 0, 1) := by decide +kernel
theorem dX9_add_5 : decode cX9_add 5 = .ok (.dup, 1) := by decide +kernel
theorem dX9_add_6 : decode cX9_add 6 = .ok (.getfield 9, 3) := by decide +kernel
theorem dX9_add_9 : decode cX9_add 9 = .ok (.iload_n 1, 1) := by decide +kernel
theorem dX9_add_10 : decode cX9_add 10 = .ok (.ior, 1) := by decide +kernel
theorem dX9_add_11 : decode cX9_add 11 = .ok (.putfield 9, 3) := by decide +kernel
theorem dX9_add_14 : decode cX9_add 14 = .ok (.goto 13, 3) := by decide +kernel
theorem dX9_add_17 : decode cX9_add 17 = .ok (.aload_n 0, 1) := by decide +kernel
theorem dX9_add_18 : decode cX9_add 18 = .ok (.dup, 1) := by decide +kernel
theorem dX9_add_19 : decode cX9_add 19 = .ok (.getfield 15, 3) := by decide +kernel
theorem dX9_add_22 : decode cX9_add 22 = .ok (.iload_n 1, 1) := by decide +kernel
theorem dX9_add_23 : decode cX9_add 23 = .ok (.ior, 1) := by decide +kernel
theorem dX9_add_24 : decode cX9_add 24 = .ok (.putfield 15, 3) := by decide +kernel
theorem dX9_add_27 : decode cX9_add 27 = .ok (.aload_n 0, 1) := by decide +kernel
theorem dX9_add_28 : decode cX9_add 28 = .ok (.dup, 1) := by decide +kernel
theorem dX9_add_29 : decode cX9_add 29 = .ok (.getfield 18, 3) := by decide +kernel
theorem dX9_add_32 : decode cX9_add 32 = .ok (.iconst 1, 1) := by decide +kernel
theorem dX9_add_33 : decode cX9_add 33 = .ok (.iadd, 1) := by decide +kernel
theorem dX9_add_34 : decode cX9_add 34 = .ok (.putfield 18, 3) := by decide +kernel
theorem dX9_add_37 : decode cX9_add 37 = .ok (.return_, 1) := by decide +kernel
theorem dX9_look_0 : decode cX9_look 0 = .ok (.aload_n 0, 1) := by decide +kernel
theorem dX9_look_1 : decode cX9_look 1 = .ok (.iconst 0, 1) := by decide +kernel
theorem dX9_look_2 : decode cX9_look 2 = .ok (.putfield 21, 3) := by decide +kernel
theorem dX9_look_5 : decode cX9_look 5 = .ok (.aload_n 0, 1) := by decide +kernel
theorem dX9_look_6 : decode cX9_look 6 = .ok (.bipush (-9), 2) := by decide +kernel
theorem dX9_look_8 : decode cX9_look 8 = .ok (.putfield 24, 3) := by decide +kernel
theorem dX9_look_11 : decode cX9_look 11 = .ok (.iconst 0, 1) := by decide +kernel
theorem dX9_look_12 : decode cX9_look 12 = .ok (.istore_n 2, 1) := by decide +kernel
theorem dX9_look_13 : decode cX9_look 13 = .ok (.iload_n 2, 1) := by decide +kernel
theorem dX9_look_14 : decode cX9_look 14 = .ok (.iconst 1, 1) := by decide +kernel
theorem dX9_look_15 : decode cX9_look 15 = .ok (.if_icmp .gt 75, 3) := by decide +kernel
theorem dX9_look_18 : decode cX9_look 18 = .ok (.iconst 0, 1) := by decide +kernel
theorem dX9_look_19 : decode cX9_look 19 = .ok (.istore_n 3, 1) := by decide +kernel
theorem dX9_look_20 : decode cX9_look 20 = .ok (.iload_n 3, 1) := by decide +kernel
theorem dX9_look_21 : decode cX9_look 21 = .ok (.aload_n 1, 1) := by decide +kernel
theorem dX9_look_22 : decode cX9_look 22 = .ok (.getfield 27, 3) := by decide +kernel
theorem dX9_look_25 : decode cX9_look 25 = .ok (.if_icmp .ge 59, 3) := by decide +kernel
theorem dX9_look_28 : decode cX9_look 28 = .ok (.iconst 0, 1) := by decide +kernel
theorem dX9_look_29 : decode cX9_look 29 = .ok (.istore 4, 2) := by decide +kernel
theorem dX9_look_31 : decode cX9_look 31 = .ok (.iload 4, 2) := by decide +kernel
theorem dX9_look_33 : decode cX9_look 33 = .ok (.iconst 3, 1) := by decide +kernel
theorem dX9_look_34 : decode cX9_look 34 = .ok (.if_icmp .gt 44, 3) := by decide +kernel
theorem dX9_look_37 : decode cX9_look 37 = .ok (.aload_n 0, 1) := by decide +kernel
theorem dX9_look_38 : decode cX9_look 38 = .ok (.aload_n 1, 1) := by decide +kernel
theorem dX9_look_39 : decode cX9_look 39 = .ok (.iload_n 3, 1) := by decide +kernel
theorem dX9_look_40 : decode cX9_look 40 = .ok (.iload 4, 2) := by decide +kernel
theorem dX9_look_42 : decode cX9_look 42 = .ok (.iload_n 2, 1) := by decide +kernel
theorem dX9_look_43 : decode cX9_look 43 = .ok (.invokestatic 32, 3) := by decide +kernel
theorem dX9_look_46 : decode cX9_look 46 = .ok (.imul, 1) := by decide +kernel
theorem dX9_look_47 : decode cX9_look 47 = .ok (.invokestatic 36, 3) := by decide +kernel
theorem dX9_look_50 : decode cX9_look 50 = .ok (.invokevirtual 40, 3) := by decide +kernel
theorem dX9_look_53 : decode cX9_look 53 = .ok (.ifCond .eq 19, 3) := by decide +kernel
theorem dX9_look_56 : decode cX9_look 56 = .ok (.aload_n 0, 1) := by decide +kernel
theorem dX9_look_57 : decode cX9_look 57 = .ok (.bipush 100, 2) := by decide +kernel
theorem dX9_look_59 : decode cX9_look 59 = .ok (.iload_n 2, 1) := by decide +kernel
theorem dX9_look_60 : decode cX9_look 60 = .ok (.imul, 1) := by decide +kernel
theorem dX9_look_61 : decode cX9_look 61 = .ok (.bipush 10, 2) := by decide +kernel
theorem dX9_look_63 : decode cX9_look 63 = .ok (.iload_n 3, 1) := by decide +kernel
theorem dX9_look_64 : decode cX9_look 64 = .ok (.imul, 1) := by decide +kernel
theorem dX9_look_65 : decode cX9_look 65 = .ok (.iadd, 1) := by decide +kernel
theorem dX9_look_66 : decode cX9_look 66 = .ok (.iload 4, 2) := by decide +kernel
theorem dX9_look_68 : decode cX9_look 68 = .ok (.iadd, 1) := by decide +kernel
theorem dX9_look_69 : decode cX9_look 69 = .ok (.invokevirtual 44, 3) := by decide +kernel
theorem dX9_look_72 : decode cX9_look 72 = .ok (.iinc 4 1, 3) := by decide +kernel
theorem dX9_look_75 : decode cX9_look 75 = .ok (.goto (-44), 3) := by decide +kernel
theorem dX9_look_78 : decode cX9_look 78 = .ok (.iinc 3 1, 3) := by decide +kernel
theorem dX9_look_81 : decode cX9_look 81 = .ok (.goto (-61), 3) := by decide +kernel
theorem dX9_look_84 : decode cX9_look 84 = .ok (.iinc 2 1, 3) := by decide +kernel
theorem dX9_look_87 : decode cX9_look 87 = .ok (.goto (-74), 3) := by decide +kernel
theorem dX9_look_90 : decode cX9_look 90 = .ok (.return_, 1) := by decide +kernel
theorem dX9_fits_0 : decode cX9_fits 0 = .ok (.iload_n 1, 1) := by decide +kernel
theorem dX9_fits_1 : decode cX9_fits 1 = .ok (.aload_n 0, 1) := by decide +kernel
theorem dX9_fits_2 : decode cX9_fits 2 = .ok (.getfield 9, 3) := by decide +kernel
theorem dX9_fits_5 : decode cX9_fits 5 = .ok (.iand, 1) := by decide +kernel
theorem dX9_fits_6 : decode cX9_fits 6 = .ok (.aload_n 0, 1) := by decide +kernel
theorem dX9_fits_7 : decode cX9_fits 7 = .ok (.getfield 9, 3) := by decide +kernel
theorem dX9_fits_10 : decode cX9_fits 10 = .ok (.if_icmp .ne 16, 3) := by decide +kernel
theorem dX9_fits_13 : decode cX9_fits 13 = .ok (.iload_n 1, 1) := by decide +kernel
theorem dX9_fits_14 : decode cX9_fits 14 = .ok (.aload_n 0, 1) := by decide +kernel
theorem dX9_fits_15 : decode cX9_fits 15 = .ok (.getfield 15, 3) := by decide +kernel
theorem dX9_fits_18 : decode cX9_fits 18 = .ok (.iand, 1) := by decide +kernel
theorem dX9_fits_19 : decode cX9_fits 19 = .ok (.ifCond .ne 7, 3) := by decide +kernel
theorem dX9_fits_22 : decode cX9_fits 22 = .ok (.iconst 1, 1) := by decide +kernel
theorem dX9_fits_23 : decode cX9_fits 23 = .ok (.goto 4, 3) := by decide +kernel
theorem dX9_fits_26 : decode cX9_fits 26 = .ok (.iconst 0, 1) := by decide +kernel
theorem dX9_fits_27 : decode cX9_fits 27 = .ok (.ireturn, 1) := by decide +kernel
theorem dX9_takenIn_0 : decode cX9_takenIn 0 = .ok (.iconst 0, 1) := by decide +kernel
theorem dX9_takenIn_1 : decode cX9_takenIn 1 = .ok (.istore_n 3, 1) := by decide +kernel
theorem dX9_takenIn_2 : decode cX9_takenIn 2 = .ok (.iconst 0, 1) := by decide +kernel
theorem dX9_takenIn_3 : decode cX9_takenIn 3 = .ok (.istore 4, 2) := by decide +kernel
theorem dX9_takenIn_5 : decode cX9_takenIn 5 = .ok (.iload 4, 2) := by decide +kernel
theorem dX9_takenIn_7 : decode cX9_takenIn 7 = .ok (.aload_n 0, 1) := by decide +kernel
theorem dX9_takenIn_8 : decode cX9_takenIn 8 = .ok (.getfield 48, 3) := by decide +kernel
theorem dX9_takenIn_11 : decode cX9_takenIn 11 = .ok (.iload_n 1, 1) := by decide +kernel
theorem dX9_takenIn_12 : decode cX9_takenIn 12 = .ok (.iaload, 1) := by decide +kernel
theorem dX9_takenIn_13 : decode cX9_takenIn 13 = .ok (.if_icmp .ge 27, 3) := by decide +kernel
theorem dX9_takenIn_16 : decode cX9_takenIn 16 = .ok (.iload 4, 2) := by decide +kernel
theorem dX9_takenIn_18 : decode cX9_takenIn 18 = .ok (.iload_n 2, 1) := by decide +kernel
theorem dX9_takenIn_19 : decode cX9_takenIn 19 = .ok (.if_icmp .ge 21, 3) := by decide +kernel
theorem dX9_takenIn_22 : decode cX9_takenIn 22 = .ok (.iload_n 3, 1) := by decide +kernel
theorem dX9_takenIn_23 : decode cX9_takenIn 23 = .ok (.iconst 1, 1) := by decide +kernel
theorem dX9_takenIn_24 : decode cX9_takenIn 24 = .ok (.aload_n 0, 1) := by decide +kernel
theorem dX9_takenIn_25 : decode cX9_takenIn 25 = .ok (.iload_n 1, 1) := by decide +kernel
theorem dX9_takenIn_26 : decode cX9_takenIn 26 = .ok (.iload 4, 2) := by decide +kernel
theorem dX9_takenIn_28 : decode cX9_takenIn 28 = .ok (.invokevirtual 52, 3) := by decide +kernel
theorem dX9_takenIn_31 : decode cX9_takenIn 31 = .ok (.ishl, 1) := by decide +kernel
theorem dX9_takenIn_32 : decode cX9_takenIn 32 = .ok (.ior, 1) := by decide +kernel
theorem dX9_takenIn_33 : decode cX9_takenIn 33 = .ok (.istore_n 3, 1) := by decide +kernel
theorem dX9_takenIn_34 : decode cX9_takenIn 34 = .ok (.iinc 4 1, 3) := by decide +kernel
theorem dX9_takenIn_37 : decode cX9_takenIn 37 = .ok (.goto (-32), 3) := by decide +kernel
theorem dX9_takenIn_40 : decode cX9_takenIn 40 = .ok (.iload_n 3, 1) := by decide +kernel
theorem dX9_takenIn_41 : decode cX9_takenIn 41 = .ok (.ireturn, 1) := by decide +kernel
theorem dX9_noteFound_0 : decode cX9_noteFound 0 = .ok (.aload_n 0, 1) := by decide +kernel
theorem dX9_noteFound_1 : decode cX9_noteFound 1 = .ok (.getfield 21, 3) := by decide +kernel
theorem dX9_noteFound_4 : decode cX9_noteFound 4 = .ok (.ifCond .ne 8, 3) := by decide +kernel
theorem dX9_noteFound_7 : decode cX9_noteFound 7 = .ok (.aload_n 0, 1) := by decide +kernel
theorem dX9_noteFound_8 : decode cX9_noteFound 8 = .ok (.iload_n 1, 1) := by decide +kernel
theorem dX9_noteFound_9 : decode cX9_noteFound 9 = .ok (.putfield 24, 3) := by decide +kernel
theorem dX9_noteFound_12 : decode cX9_noteFound 12 = .ok (.aload_n 0, 1) := by decide +kernel
theorem dX9_noteFound_13 : decode cX9_noteFound 13 = .ok (.dup, 1) := by decide +kernel
theorem dX9_noteFound_14 : decode cX9_noteFound 14 = .ok (.getfield 21, 3) := by decide +kernel
theorem dX9_noteFound_17 : decode cX9_noteFound 17 = .ok (.iconst 1, 1) := by decide +kernel
theorem dX9_noteFound_18 : decode cX9_noteFound 18 = .ok (.iadd, 1) := by decide +kernel
theorem dX9_noteFound_19 : decode cX9_noteFound 19 = .ok (.putfield 21, 3) := by decide +kernel
theorem dX9_noteFound_22 : decode cX9_noteFound 22 = .ok (.return_, 1) := by decide +kernel
theorem dJ6_bitCount_0f7a4_0 : decode cJ6_bitCount_0f7a4 0 = .ok (.iload_n 0, 1) := by decide +kernel
theorem dJ6_bitCount_0f7a4_1 : decode cJ6_bitCount_0f7a4 1 = .ok (.iload_n 0, 1) := by decide +kernel
theorem dJ6_bitCount_0f7a4_2 : decode cJ6_bitCount_0f7a4 2 = .ok (.iconst 1, 1) := by decide +kernel
theorem dJ6_bitCount_0f7a4_3 : decode cJ6_bitCount_0f7a4 3 = .ok (.iushr, 1) := by decide +kernel
theorem dJ6_bitCount_0f7a4_4 : decode cJ6_bitCount_0f7a4 4 = .ok (.ldc_w 265, 3) := by decide +kernel
theorem dJ6_bitCount_0f7a4_7 : decode cJ6_bitCount_0f7a4 7 = .ok (.iand, 1) := by decide +kernel
theorem dJ6_bitCount_0f7a4_8 : decode cJ6_bitCount_0f7a4 8 = .ok (.isub, 1) := by decide +kernel
theorem dJ6_bitCount_0f7a4_9 : decode cJ6_bitCount_0f7a4 9 = .ok (.istore_n 0, 1) := by decide +kernel
theorem dJ6_bitCount_0f7a4_10 : decode cJ6_bitCount_0f7a4 10 = .ok (.iload_n 0, 1) := by decide +kernel
theorem dJ6_bitCount_0f7a4_11 : decode cJ6_bitCount_0f7a4 11 = .ok (.ldc_w 266, 3) := by decide +kernel
theorem dJ6_bitCount_0f7a4_14 : decode cJ6_bitCount_0f7a4 14 = .ok (.iand, 1) := by decide +kernel
theorem dJ6_bitCount_0f7a4_15 : decode cJ6_bitCount_0f7a4 15 = .ok (.iload_n 0, 1) := by decide +kernel
theorem dJ6_bitCount_0f7a4_16 : decode cJ6_bitCount_0f7a4 16 = .ok (.iconst 2, 1) := by decide +kernel
theorem dJ6_bitCount_0f7a4_17 : decode cJ6_bitCount_0f7a4 17 = .ok (.iushr, 1) := by decide +kernel
theorem dJ6_bitCount_0f7a4_18 : decode cJ6_bitCount_0f7a4 18 = .ok (.ldc_w 266, 3) := by decide +kernel
theorem dJ6_bitCount_0f7a4_21 : decode cJ6_bitCount_0f7a4 21 = .ok (.iand, 1) := by decide +kernel
theorem dJ6_bitCount_0f7a4_22 : decode cJ6_bitCount_0f7a4 22 = .ok (.iadd, 1) := by decide +kernel
theorem dJ6_bitCount_0f7a4_23 : decode cJ6_bitCount_0f7a4 23 = .ok (.istore_n 0, 1) := by decide +kernel
theorem dJ6_bitCount_0f7a4_24 : decode cJ6_bitCount_0f7a4 24 = .ok (.iload_n 0, 1) := by decide +kernel
theorem dJ6_bitCount_0f7a4_25 : decode cJ6_bitCount_0f7a4 25 = .ok (.iload_n 0, 1) := by decide +kernel
theorem dJ6_bitCount_0f7a4_26 : decode cJ6_bitCount_0f7a4 26 = .ok (.iconst 4, 1) := by decide +kernel
theorem dJ6_bitCount_0f7a4_27 : decode cJ6_bitCount_0f7a4 27 = .ok (.iushr, 1) := by decide +kernel
theorem dJ6_bitCount_0f7a4_28 : decode cJ6_bitCount_0f7a4 28 = .ok (.iadd, 1) := by decide +kernel
theorem dJ6_bitCount_0f7a4_29 : decode cJ6_bitCount_0f7a4 29 = .ok (.ldc_w 267, 3) := by decide +kernel
theorem dJ6_bitCount_0f7a4_32 : decode cJ6_bitCount_0f7a4 32 = .ok (.iand, 1) := by decide +kernel
theorem dJ6_bitCount_0f7a4_33 : decode cJ6_bitCount_0f7a4 33 = .ok (.istore_n 0, 1) := by decide +kernel
theorem dJ6_bitCount_0f7a4_34 : decode cJ6_bitCount_0f7a4 34 = .ok (.iload_n 0, 1) := by decide +kernel
theorem dJ6_bitCount_0f7a4_35 : decode cJ6_bitCount_0f7a4 35 = .ok (.iload_n 0, 1) := by decide +kernel
theorem dJ6_bitCount_0f7a4_36 : decode cJ6_bitCount_0f7a4 36 = .ok (.bipush 8, 2) := by decide +kernel
theorem dJ6_bitCount_0f7a4_38 : decode cJ6_bitCount_0f7a4 38 = .ok (.iushr, 1) := by decide +kernel
theorem dJ6_bitCount_0f7a4_39 : decode cJ6_bitCount_0f7a4 39 = .ok (.iadd, 1) := by decide +kernel
theorem dJ6_bitCount_0f7a4_40 : decode cJ6_bitCount_0f7a4 40 = .ok (.istore_n 0, 1) := by decide +kernel
theorem dJ6_bitCount_0f7a4_41 : decode cJ6_bitCount_0f7a4 41 = .ok (.iload_n 0, 1) := by decide +kernel
theorem dJ6_bitCount_0f7a4_42 : decode cJ6_bitCount_0f7a4 42 = .ok (.iload_n 0, 1) := by decide +kernel
theorem dJ6_bitCount_0f7a4_43 : decode cJ6_bitCount_0f7a4 43 = .ok (.bipush 16, 2) := by decide +kernel
theorem dJ6_bitCount_0f7a4_45 : decode cJ6_bitCount_0f7a4 45 = .ok (.iushr, 1) := by decide +kernel
theorem dJ6_bitCount_0f7a4_46 : decode cJ6_bitCount_0f7a4 46 = .ok (.iadd, 1) := by decide +kernel
theorem dJ6_bitCount_0f7a4_47 : decode cJ6_bitCount_0f7a4 47 = .ok (.istore_n 0, 1) := by decide +kernel
theorem dJ6_bitCount_0f7a4_48 : decode cJ6_bitCount_0f7a4 48 = .ok (.iload_n 0, 1) := by decide +kernel
theorem dJ6_bitCount_0f7a4_49 : decode cJ6_bitCount_0f7a4 49 = .ok (.bipush 63, 2) := by decide +kernel
theorem dJ6_bitCount_0f7a4_51 : decode cJ6_bitCount_0f7a4 51 = .ok (.iand, 1) := by decide +kernel
theorem dJ6_bitCount_0f7a4_52 : decode cJ6_bitCount_0f7a4 52 = .ok (.ireturn, 1) := by decide +kernel
