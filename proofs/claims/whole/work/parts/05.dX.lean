theorem dX1_init_0 : decode cX1_init 0 = .ok (.aload_n 0, 1) := by decide +kernel
theorem dX1_init_1 : decode cX1_init 1 = .ok (.invokespecial 3, 3) := by decide +kernel
theorem dX1_init_4 : decode cX1_init 4 = .ok (.aload_n 0, 1) := by decide +kernel
theorem dX1_init_5 : decode cX1_init 5 = .ok (.bipush 12, 2) := by decide +kernel
theorem dX1_init_7 : decode cX1_init 7 = .ok (.anewarray 9, 3) := by decide +kernel
theorem dX1_init_10 : decode cX1_init 10 = .ok (.putfield 11, 3) := by decide +kernel
theorem dX1_init_13 : decode cX1_init 13 = .ok (.iconst 0, 1) := by decide +kernel
theorem dX1_init_14 : decode cX1_init 14 = .ok (.istore_n 1, 1) := by decide +kernel
theorem dX1_init_15 : decode cX1_init 15 = .ok (.iload_n 1, 1) := by decide +kernel
theorem dX1_init_16 : decode cX1_init 16 = .ok (.bipush 12, 2) := by decide +kernel
theorem dX1_init_18 : decode cX1_init 18 = .ok (.if_icmp .ge 22, 3) := by decide +kernel
theorem dX1_init_21 : decode cX1_init 21 = .ok (.aload_n 0, 1) := by decide +kernel
theorem dX1_init_22 : decode cX1_init 22 = .ok (.getfield 11, 3) := by decide +kernel
theorem dX1_init_25 : decode cX1_init 25 = .ok (.iload_n 1, 1) := by decide +kernel
theorem dX1_init_26 : decode cX1_init 26 = .ok (.new 9, 3) := by decide +kernel
theorem dX1_init_29 : decode cX1_init 29 = .ok (.dup, 1) := by decide +kernel
theorem dX1_init_30 : decode cX1_init 30 = .ok (.invokespecial 17, 3) := by decide +kernel
theorem dX1_init_33 : decode cX1_init 33 = .ok (.aastore, 1) := by decide +kernel
theorem dX1_init_34 : decode cX1_init 34 = .ok (.iinc 1 1, 3) := by decide +kernel
theorem dX1_init_37 : decode cX1_init 37 = .ok (.goto (-22), 3) := by decide +kernel
theorem dX1_init_40 : decode cX1_init 40 = .ok (.return_, 1) := by decide +kernel
theorem dX1_copyFrom_0 : decode cX1_copyFrom 0 = .ok (.iconst 0, 1) := by decide +kernel
theorem dX1_copyFrom_1 : decode cX1_copyFrom 1 = .ok (.istore_n 2, 1) := by decide +kernel
theorem dX1_copyFrom_2 : decode cX1_copyFrom 2 = .ok (.iload_n 2, 1) := by decide +kernel
theorem dX1_copyFrom_3 : decode cX1_copyFrom 3 = .ok (.aload_n 1, 1) := by decide +kernel
theorem dX1_copyFrom_4 : decode cX1_copyFrom 4 = .ok (.getfield 18, 3) := by decide +kernel
theorem dX1_copyFrom_7 : decode cX1_copyFrom 7 = .ok (.if_icmp .ge 24, 3) := by decide +kernel
theorem dX1_copyFrom_10 : decode cX1_copyFrom 10 = .ok (.aload_n 0, 1) := by decide +kernel
theorem dX1_copyFrom_11 : decode cX1_copyFrom 11 = .ok (.getfield 11, 3) := by decide +kernel
theorem dX1_copyFrom_14 : decode cX1_copyFrom 14 = .ok (.iload_n 2, 1) := by decide +kernel
theorem dX1_copyFrom_15 : decode cX1_copyFrom 15 = .ok (.aaload, 1) := by decide +kernel
theorem dX1_copyFrom_16 : decode cX1_copyFrom 16 = .ok (.aload_n 1, 1) := by decide +kernel
theorem dX1_copyFrom_17 : decode cX1_copyFrom 17 = .ok (.getfield 11, 3) := by decide +kernel
theorem dX1_copyFrom_20 : decode cX1_copyFrom 20 = .ok (.iload_n 2, 1) := by decide +kernel
theorem dX1_copyFrom_21 : decode cX1_copyFrom 21 = .ok (.aaload, 1) := by decide +kernel
theorem dX1_copyFrom_22 : decode cX1_copyFrom 22 = .ok (.invokevirtual 22, 3) := by decide +kernel
theorem dX1_copyFrom_25 : decode cX1_copyFrom 25 = .ok (.iinc 2 1, 3) := by decide +kernel
theorem dX1_copyFrom_28 : decode cX1_copyFrom 28 = .ok (.goto (-26), 3) := by decide +kernel
theorem dX1_copyFrom_31 : decode cX1_copyFrom 31 = .ok (.aload_n 0, 1) := by decide +kernel
theorem dX1_copyFrom_32 : decode cX1_copyFrom 32 = .ok (.aload_n 1, 1) := by decide +kernel
theorem dX1_copyFrom_33 : decode cX1_copyFrom 33 = .ok (.getfield 18, 3) := by decide +kernel
theorem dX1_copyFrom_36 : decode cX1_copyFrom 36 = .ok (.putfield 18, 3) := by decide +kernel
theorem dX1_copyFrom_39 : decode cX1_copyFrom 39 = .ok (.aload_n 0, 1) := by decide +kernel
theorem dX1_copyFrom_40 : decode cX1_copyFrom 40 = .ok (.aload_n 1, 1) := by decide +kernel
theorem dX1_copyFrom_41 : decode cX1_copyFrom 41 = .ok (.getfield 26, 3) := by decide +kernel
theorem dX1_copyFrom_44 : decode cX1_copyFrom 44 = .ok (.putfield 26, 3) := by decide +kernel
theorem dX1_copyFrom_47 : decode cX1_copyFrom 47 = .ok (.aload_n 0, 1) := by decide +kernel
theorem dX1_copyFrom_48 : decode cX1_copyFrom 48 = .ok (.aload_n 1, 1) := by decide +kernel
theorem dX1_copyFrom_49 : decode cX1_copyFrom 49 = .ok (.getfield 29, 3) := by decide +kernel
theorem dX1_copyFrom_52 : decode cX1_copyFrom 52 = .ok (.putfield 29, 3) := by decide +kernel
theorem dX1_copyFrom_55 : decode cX1_copyFrom 55 = .ok (.aload_n 0, 1) := by decide +kernel
theorem dX1_copyFrom_56 : decode cX1_copyFrom 56 = .ok (.aload_n 1, 1) := by decide +kernel
theorem dX1_copyFrom_57 : decode cX1_copyFrom 57 = .ok (.getfield 32, 3) := by decide +kernel
theorem dX1_copyFrom_60 : decode cX1_copyFrom 60 = .ok (.putfield 32, 3) := by decide +kernel
theorem dX1_copyFrom_63 : decode cX1_copyFrom 63 = .ok (.aload_n 0, 1) := by decide +kernel
theorem dX1_copyFrom_64 : decode cX1_copyFrom 64 = .ok (.aload_n 1, 1) := by decide +kernel
theorem dX1_copyFrom_65 : decode cX1_copyFrom 65 = .ok (.getfield 35, 3) := by decide +kernel
theorem dX1_copyFrom_68 : decode cX1_copyFrom 68 = .ok (.putfield 35, 3) := by decide +kernel
theorem dX1_copyFrom_71 : decode cX1_copyFrom 71 = .ok (.aload_n 0, 1) := by decide +kernel
theorem dX1_copyFrom_72 : decode cX1_copyFrom 72 = .ok (.aload_n 1, 1) := by decide +kernel
theorem dX1_copyFrom_73 : decode cX1_copyFrom 73 = .ok (.getfield 38, 3) := by decide +kernel
theorem dX1_copyFrom_76 : decode cX1_copyFrom 76 = .ok (.putfield 38, 3) := by decide +kernel
theorem dX1_copyFrom_79 : decode cX1_copyFrom 79 = .ok (.aload_n 0, 1) := by decide +kernel
theorem dX1_copyFrom_80 : decode cX1_copyFrom 80 = .ok (.aload_n 1, 1) := by decide +kernel
theorem dX1_copyFrom_81 : decode cX1_copyFrom 81 = .ok (.getfield 42, 3) := by decide +kernel
theorem dX1_copyFrom_84 : decode cX1_copyFrom 84 = .ok (.putfield 42, 3) := by decide +kernel
theorem dX1_copyFrom_87 : decode cX1_copyFrom 87 = .ok (.aload_n 0, 1) := by decide +kernel
theorem dX1_copyFrom_88 : decode cX1_copyFrom 88 = .ok (.aload_n 1, 1) := by decide +kernel
theorem dX1_copyFrom_89 : decode cX1_copyFrom 89 = .ok (.getfield 45, 3) := by decide +kernel
theorem dX1_copyFrom_92 : decode cX1_copyFrom 92 = .ok (.putfield 45, 3) := by decide +kernel
theorem dX1_copyFrom_95 : decode cX1_copyFrom 95 = .ok (.aload_n 0, 1) := by decide +kernel
theorem dX1_copyFrom_96 : decode cX1_copyFrom 96 = .ok (.aload_n 1, 1) := by decide +kernel
theorem dX1_copyFrom_97 : decode cX1_copyFrom 97 = .ok (.getfield 48, 3) := by decide +kernel
theorem dX1_copyFrom_100 : decode cX1_copyFrom 100 = .ok (.putfield 48, 3) := by decide +kernel
theorem dX1_copyFrom_103 : decode cX1_copyFrom 103 = .ok (.aload_n 0, 1) := by decide +kernel
theorem dX1_copyFrom_104 : decode cX1_copyFrom 104 = .ok (.aload_n 1, 1) := by decide +kernel
theorem dX1_copyFrom_105 : decode cX1_copyFrom 105 = .ok (.getfield 51, 3) := by decide +kernel
theorem dX1_copyFrom_108 : decode cX1_copyFrom 108 = .ok (.putfield 51, 3) := by decide +kernel
theorem dX1_copyFrom_111 : decode cX1_copyFrom 111 = .ok (.aload_n 0, 1) := by decide +kernel
theorem dX1_copyFrom_112 : decode cX1_copyFrom 112 = .ok (.aload_n 1, 1) := by decide +kernel
theorem dX1_copyFrom_113 : decode cX1_copyFrom 113 = .ok (.getfield 54, 3) := by decide +kernel
theorem dX1_copyFrom_116 : decode cX1_copyFrom 116 = .ok (.putfield 54, 3) := by decide +kernel
theorem dX1_copyFrom_119 : decode cX1_copyFrom 119 = .ok (.return_, 1) := by decide +kernel
theorem dX1_isMember_0 : decode cX1_isMember 0 = .ok (.iload_n 1, 1) := by decide +kernel
theorem dX1_isMember_1 : decode cX1_isMember 1 = .ok (.ifCond .lt 15, 3) := by decide +kernel
theorem dX1_isMember_4 : decode cX1_isMember 4 = .ok (.iload_n 1, 1) := by decide +kernel
theorem dX1_isMember_5 : decode cX1_isMember 5 = .ok (.aload_n 0, 1) := by decide +kernel
theorem dX1_isMember_6 : decode cX1_isMember 6 = .ok (.getfield 18, 3) := by decide +kernel
theorem dX1_isMember_9 : decode cX1_isMember 9 = .ok (.if_icmp .ge 7, 3) := by decide +kernel
theorem dX1_isMember_12 : decode cX1_isMember 12 = .ok (.iconst 1, 1) := by decide +kernel
theorem dX1_isMember_13 : decode cX1_isMember 13 = .ok (.goto 4, 3) := by decide +kernel
theorem dX1_isMember_16 : decode cX1_isMember 16 = .ok (.iconst 0, 1) := by decide +kernel
theorem dX1_isMember_17 : decode cX1_isMember 17 = .ok (.ireturn, 1) := by decide +kernel
theorem dX1_faultOfAdding_0 : decode cX1_faultOfAdding 0 = .ok (.iload_n 1, 1) := by decide +kernel
theorem dX1_faultOfAdding_1 : decode cX1_faultOfAdding 1 = .ok (.invokestatic 57, 3) := by decide +kernel
theorem dX1_faultOfAdding_4 : decode cX1_faultOfAdding 4 = .ok (.ifCond .ne 7, 3) := by decide +kernel
theorem dX1_faultOfAdding_7 : decode cX1_faultOfAdding 7 = .ok (.getstatic 61, 3) := by decide +kernel
theorem dX1_faultOfAdding_10 : decode cX1_faultOfAdding 10 = .ok (.areturn, 1) := by decide +kernel
theorem dX1_faultOfAdding_11 : decode cX1_faultOfAdding 11 = .ok (.iload_n 2, 1) := by decide +kernel
theorem dX1_faultOfAdding_12 : decode cX1_faultOfAdding 12 = .ok (.iconst 1, 1) := by decide +kernel
theorem dX1_faultOfAdding_13 : decode cX1_faultOfAdding 13 = .ok (.if_icmp .lt 9, 3) := by decide +kernel
theorem dX1_faultOfAdding_16 : decode cX1_faultOfAdding 16 = .ok (.iload_n 2, 1) := by decide +kernel
theorem dX1_faultOfAdding_17 : decode cX1_faultOfAdding 17 = .ok (.bipush 20, 2) := by decide +kernel
theorem dX1_faultOfAdding_19 : decode cX1_faultOfAdding 19 = .ok (.if_icmp .le 7, 3) := by decide +kernel
theorem dX1_faultOfAdding_22 : decode cX1_faultOfAdding 22 = .ok (.getstatic 67, 3) := by decide +kernel
theorem dX1_faultOfAdding_25 : decode cX1_faultOfAdding 25 = .ok (.areturn, 1) := by decide +kernel
theorem dX1_faultOfAdding_26 : decode cX1_faultOfAdding 26 = .ok (.aload_n 0, 1) := by decide +kernel
theorem dX1_faultOfAdding_27 : decode cX1_faultOfAdding 27 = .ok (.getfield 18, 3) := by decide +kernel
theorem dX1_faultOfAdding_30 : decode cX1_faultOfAdding 30 = .ok (.bipush 12, 2) := by decide +kernel
theorem dX1_faultOfAdding_32 : decode cX1_faultOfAdding 32 = .ok (.if_icmp .lt 9, 3) := by decide +kernel
theorem dX1_faultOfAdding_35 : decode cX1_faultOfAdding 35 = .ok (.getstatic 70, 3) := by decide +kernel
theorem dX1_faultOfAdding_38 : decode cX1_faultOfAdding 38 = .ok (.goto 6, 3) := by decide +kernel
theorem dX1_faultOfAdding_41 : decode cX1_faultOfAdding 41 = .ok (.getstatic 73, 3) := by decide +kernel
theorem dX1_faultOfAdding_44 : decode cX1_faultOfAdding 44 = .ok (.areturn, 1) := by decide +kernel
theorem dX1_add_0 : decode cX1_add 0 = .ok (.aload_n 0, 1) := by decide +kernel
theorem dX1_add_1 : decode cX1_add 1 = .ok (.getfield 18, 3) := by decide +kernel
theorem dX1_add_4 : decode cX1_add 4 = .ok (.istore_n 3, 1) := by decide +kernel
theorem dX1_add_5 : decode cX1_add 5 = .ok (.aload_n 0, 1) := by decide +kernel
theorem dX1_add_6 : decode cX1_add 6 = .ok (.getfield 11, 3) := by decide +kernel
theorem dX1_add_9 : decode cX1_add 9 = .ok (.iload_n 3, 1) := by decide +kernel
theorem dX1_add_10 : decode cX1_add 10 = .ok (.aaload, 1) := by decide +kernel
theorem dX1_add_11 : decode cX1_add 11 = .ok (.iload_n 1, 1) := by decide +kernel
theorem dX1_add_12 : decode cX1_add 12 = .ok (.iload_n 2, 1) := by decide +kernel
theorem dX1_add_13 : decode cX1_add 13 = .ok (.invokevirtual 76, 3) := by decide +kernel
theorem dX1_add_16 : decode cX1_add 16 = .ok (.aload_n 0, 1) := by decide +kernel
theorem dX1_add_17 : decode cX1_add 17 = .ok (.dup, 1) := by decide +kernel
theorem dX1_add_18 : decode cX1_add 18 = .ok (.getfield 18, 3) := by decide +kernel
theorem dX1_add_21 : decode cX1_add 21 = .ok (.iconst 1, 1) := by decide +kernel
theorem dX1_add_22 : decode cX1_add 22 = .ok (.iadd, 1) := by decide +kernel
theorem dX1_add_23 : decode cX1_add 23 = .ok (.putfield 18, 3) := by decide +kernel
theorem dX1_add_26 : decode cX1_add 26 = .ok (.iload_n 3, 1) := by decide +kernel
theorem dX1_add_27 : decode cX1_add 27 = .ok (.ireturn, 1) := by decide +kernel
theorem dX1_faultOfWind_0 : decode cX1_faultOfWind 0 = .ok (.iload_n 1, 1) := by decide +kernel
theorem dX1_faultOfWind_1 : decode cX1_faultOfWind 1 = .ok (.ifCond .lt 13, 3) := by decide +kernel
theorem dX1_faultOfWind_4 : decode cX1_faultOfWind 4 = .ok (.iload_n 1, 1) := by decide +kernel
theorem dX1_faultOfWind_5 : decode cX1_faultOfWind 5 = .ok (.bipush 8, 2) := by decide +kernel
theorem dX1_faultOfWind_7 : decode cX1_faultOfWind 7 = .ok (.if_icmp .ge 7, 3) := by decide +kernel
theorem dX1_faultOfWind_10 : decode cX1_faultOfWind 10 = .ok (.iconst 1, 1) := by decide +kernel
theorem dX1_faultOfWind_11 : decode cX1_faultOfWind 11 = .ok (.goto 4, 3) := by decide +kernel
theorem dX1_faultOfWind_14 : decode cX1_faultOfWind 14 = .ok (.iconst 0, 1) := by decide +kernel
theorem dX1_faultOfWind_15 : decode cX1_faultOfWind 15 = .ok (.istore_n 3, 1) := by decide +kernel
theorem dX1_faultOfWind_16 : decode cX1_faultOfWind 16 = .ok (.iload_n 2, 1) := by decide +kernel
theorem dX1_faultOfWind_17 : decode cX1_faultOfWind 17 = .ok (.ifCond .lt 13, 3) := by decide +kernel
theorem dX1_faultOfWind_20 : decode cX1_faultOfWind 20 = .ok (.iload_n 2, 1) := by decide +kernel
theorem dX1_faultOfWind_21 : decode cX1_faultOfWind 21 = .ok (.bipush 12, 2) := by decide +kernel
theorem dX1_faultOfWind_23 : decode cX1_faultOfWind 23 = .ok (.if_icmp .gt 7, 3) := by decide +kernel
theorem dX1_faultOfWind_26 : decode cX1_faultOfWind 26 = .ok (.iconst 1, 1) := by decide +kernel
theorem dX1_faultOfWind_27 : decode cX1_faultOfWind 27 = .ok (.goto 4, 3) := by decide +kernel
theorem dX1_faultOfWind_30 : decode cX1_faultOfWind 30 = .ok (.iconst 0, 1) := by decide +kernel
theorem dX1_faultOfWind_31 : decode cX1_faultOfWind 31 = .ok (.istore 4, 2) := by decide +kernel
theorem dX1_faultOfWind_33 : decode cX1_faultOfWind 33 = .ok (.iload_n 3, 1) := by decide +kernel
theorem dX1_faultOfWind_34 : decode cX1_faultOfWind 34 = .ok (.ifCond .eq 14, 3) := by decide +kernel
theorem dX1_faultOfWind_37 : decode cX1_faultOfWind 37 = .ok (.iload 4, 2) := by decide +kernel
theorem dX1_faultOfWind_39 : decode cX1_faultOfWind 39 = .ok (.ifCond .eq 9, 3) := by decide +kernel
theorem dX1_faultOfWind_42 : decode cX1_faultOfWind 42 = .ok (.getstatic 73, 3) := by decide +kernel
theorem dX1_faultOfWind_45 : decode cX1_faultOfWind 45 = .ok (.goto 6, 3) := by decide +kernel
theorem dX1_faultOfWind_48 : decode cX1_faultOfWind 48 = .ok (.getstatic 67, 3) := by decide +kernel
theorem dX1_faultOfWind_51 : decode cX1_faultOfWind 51 = .ok (.areturn, 1) := by decide +kernel
theorem dX1_turnWind_0 : decode cX1_turnWind 0 = .ok (.aload_n 0, 1) := by decide +kernel
theorem dX1_turnWind_1 : decode cX1_turnWind 1 = .ok (.getfield 26, 3) := by decide +kernel
theorem dX1_turnWind_4 : decode cX1_turnWind 4 = .ok (.iload_n 1, 1) := by decide +kernel
theorem dX1_turnWind_5 : decode cX1_turnWind 5 = .ok (.invokestatic 80, 3) := by decide +kernel
theorem dX1_turnWind_8 : decode cX1_turnWind 8 = .ok (.istore_n 3, 1) := by decide +kernel
theorem dX1_turnWind_9 : decode cX1_turnWind 9 = .ok (.aload_n 0, 1) := by decide +kernel
theorem dX1_turnWind_10 : decode cX1_turnWind 10 = .ok (.iload_n 1, 1) := by decide +kernel
theorem dX1_turnWind_11 : decode cX1_turnWind 11 = .ok (.putfield 26, 3) := by decide +kernel
theorem dX1_turnWind_14 : decode cX1_turnWind 14 = .ok (.aload_n 0, 1) := by decide +kernel
theorem dX1_turnWind_15 : decode cX1_turnWind 15 = .ok (.iload_n 2, 1) := by decide +kernel
theorem dX1_turnWind_16 : decode cX1_turnWind 16 = .ok (.putfield 29, 3) := by decide +kernel
theorem dX1_turnWind_19 : decode cX1_turnWind 19 = .ok (.iload_n 3, 1) := by decide +kernel
theorem dX1_turnWind_20 : decode cX1_turnWind 20 = .ok (.ireturn, 1) := by decide +kernel
theorem dX1_faultOfPassing_0 : decode cX1_faultOfPassing 0 = .ok (.iload_n 1, 1) := by decide +kernel
theorem dX1_faultOfPassing_1 : decode cX1_faultOfPassing 1 = .ok (.iconst 1, 1) := by decide +kernel
theorem dX1_faultOfPassing_2 : decode cX1_faultOfPassing 2 = .ok (.if_icmp .lt 9, 3) := by decide +kernel
theorem dX1_faultOfPassing_5 : decode cX1_faultOfPassing 5 = .ok (.iload_n 1, 1) := by decide +kernel
theorem dX1_faultOfPassing_6 : decode cX1_faultOfPassing 6 = .ok (.bipush 30, 2) := by decide +kernel
theorem dX1_faultOfPassing_8 : decode cX1_faultOfPassing 8 = .ok (.if_icmp .le 9, 3) := by decide +kernel
theorem dX1_faultOfPassing_11 : decode cX1_faultOfPassing 11 = .ok (.getstatic 67, 3) := by decide +kernel
theorem dX1_faultOfPassing_14 : decode cX1_faultOfPassing 14 = .ok (.goto 6, 3) := by decide +kernel
theorem dX1_faultOfPassing_17 : decode cX1_faultOfPassing 17 = .ok (.getstatic 73, 3) := by decide +kernel
theorem dX1_faultOfPassing_20 : decode cX1_faultOfPassing 20 = .ok (.areturn, 1) := by decide +kernel
theorem dX1_pass_0 : decode cX1_pass 0 = .ok (.iconst 0, 1) := by decide +kernel
theorem dX1_pass_1 : decode cX1_pass 1 = .ok (.istore_n 2, 1) := by decide +kernel
theorem dX1_pass_2 : decode cX1_pass 2 = .ok (.iconst 0, 1) := by decide +kernel
theorem dX1_pass_3 : decode cX1_pass 3 = .ok (.istore_n 3, 1) := by decide +kernel
theorem dX1_pass_4 : decode cX1_pass 4 = .ok (.iload_n 3, 1) := by decide +kernel
theorem dX1_pass_5 : decode cX1_pass 5 = .ok (.iload_n 1, 1) := by decide +kernel
theorem dX1_pass_6 : decode cX1_pass 6 = .ok (.if_icmp .ge 30, 3) := by decide +kernel
theorem dX1_pass_9 : decode cX1_pass 9 = .ok (.aload_n 0, 1) := by decide +kernel
theorem dX1_pass_10 : decode cX1_pass 10 = .ok (.getfield 38, 3) := by decide +kernel
theorem dX1_pass_13 : decode cX1_pass 13 = .ok (.ifCond .eq 10, 3) := by decide +kernel
theorem dX1_pass_16 : decode cX1_pass 16 = .ok (.aload_n 0, 1) := by decide +kernel
theorem dX1_pass_17 : decode cX1_pass 17 = .ok (.invokevirtual 84, 3) := by decide +kernel
theorem dX1_pass_20 : decode cX1_pass 20 = .ok (.goto 10, 3) := by decide +kernel
theorem dX1_pass_23 : decode cX1_pass 23 = .ok (.iload_n 2, 1) := by decide +kernel
theorem dX1_pass_24 : decode cX1_pass 24 = .ok (.aload_n 0, 1) := by decide +kernel
theorem dX1_pass_25 : decode cX1_pass 25 = .ok (.invokevirtual 87, 3) := by decide +kernel
theorem dX1_pass_28 : decode cX1_pass 28 = .ok (.iadd, 1) := by decide +kernel
theorem dX1_pass_29 : decode cX1_pass 29 = .ok (.istore_n 2, 1) := by decide +kernel
theorem dX1_pass_30 : decode cX1_pass 30 = .ok (.iinc 3 1, 3) := by decide +kernel
theorem dX1_pass_33 : decode cX1_pass 33 = .ok (.goto (-29), 3) := by decide +kernel
theorem dX1_pass_36 : decode cX1_pass 36 = .ok (.aload_n 0, 1) := by decide +kernel
theorem dX1_pass_37 : decode cX1_pass 37 = .ok (.dup, 1) := by decide +kernel
theorem dX1_pass_38 : decode cX1_pass 38 = .ok (.getfield 32, 3) := by decide +kernel
theorem dX1_pass_41 : decode cX1_pass 41 = .ok (.iload_n 1, 1) := by decide +kernel
theorem dX1_pass_42 : decode cX1_pass 42 = .ok (.iadd, 1) := by decide +kernel
theorem dX1_pass_43 : decode cX1_pass 43 = .ok (.putfield 32, 3) := by decide +kernel
theorem dX1_pass_46 : decode cX1_pass 46 = .ok (.aload_n 0, 1) := by decide +kernel
theorem dX1_pass_47 : decode cX1_pass 47 = .ok (.dup, 1) := by decide +kernel
theorem dX1_pass_48 : decode cX1_pass 48 = .ok (.getfield 35, 3) := by decide +kernel
theorem dX1_pass_51 : decode cX1_pass 51 = .ok (.iload_n 2, 1) := by decide +kernel
theorem dX1_pass_52 : decode cX1_pass 52 = .ok (.iadd, 1) := by decide +kernel
theorem dX1_pass_53 : decode cX1_pass 53 = .ok (.putfield 35, 3) := by decide +kernel
theorem dX1_pass_56 : decode cX1_pass 56 = .ok (.iload_n 2, 1) := by decide +kernel
theorem dX1_pass_57 : decode cX1_pass 57 = .ok (.ireturn, 1) := by decide +kernel
theorem dX1_passWorkShift_0 : decode cX1_passWorkShift 0 = .ok (.iconst 0, 1) := by decide +kernel
theorem dX1_passWorkShift_1 : decode cX1_passWorkShift 1 = .ok (.istore_n 1, 1) := by decide +kernel
theorem dX1_passWorkShift_2 : decode cX1_passWorkShift 2 = .ok (.iconst 0, 1) := by decide +kernel
theorem dX1_passWorkShift_3 : decode cX1_passWorkShift 3 = .ok (.istore_n 2, 1) := by decide +kernel
theorem dX1_passWorkShift_4 : decode cX1_passWorkShift 4 = .ok (.iload_n 2, 1) := by decide +kernel
theorem dX1_passWorkShift_5 : decode cX1_passWorkShift 5 = .ok (.aload_n 0, 1) := by decide +kernel
theorem dX1_passWorkShift_6 : decode cX1_passWorkShift 6 = .ok (.getfield 18, 3) := by decide +kernel
theorem dX1_passWorkShift_9 : decode cX1_passWorkShift 9 = .ok (.if_icmp .ge 59, 3) := by decide +kernel
theorem dX1_passWorkShift_12 : decode cX1_passWorkShift 12 = .ok (.aload_n 0, 1) := by decide +kernel
theorem dX1_passWorkShift_13 : decode cX1_passWorkShift 13 = .ok (.getfield 11, 3) := by decide +kernel
theorem dX1_passWorkShift_16 : decode cX1_passWorkShift 16 = .ok (.iload_n 2, 1) := by decide +kernel
theorem dX1_passWorkShift_17 : decode cX1_passWorkShift 17 = .ok (.aaload, 1) := by decide +kernel
theorem dX1_passWorkShift_18 : decode cX1_passWorkShift 18 = .ok (.astore_n 3, 1) := by decide +kernel
theorem dX1_passWorkShift_19 : decode cX1_passWorkShift 19 = .ok (.iload_n 1, 1) := by decide +kernel
theorem dX1_passWorkShift_20 : decode cX1_passWorkShift 20 = .ok (.aload_n 3, 1) := by decide +kernel
theorem dX1_passWorkShift_21 : decode cX1_passWorkShift 21 = .ok (.getfield 91, 3) := by decide +kernel
theorem dX1_passWorkShift_24 : decode cX1_passWorkShift 24 = .ok (.aload_n 0, 1) := by decide +kernel
theorem dX1_passWorkShift_25 : decode cX1_passWorkShift 25 = .ok (.getfield 26, 3) := by decide +kernel
theorem dX1_passWorkShift_28 : decode cX1_passWorkShift 28 = .ok (.invokestatic 80, 3) := by decide +kernel
theorem dX1_passWorkShift_31 : decode cX1_passWorkShift 31 = .ok (.iadd, 1) := by decide +kernel
theorem dX1_passWorkShift_32 : decode cX1_passWorkShift 32 = .ok (.istore_n 1, 1) := by decide +kernel
theorem dX1_passWorkShift_33 : decode cX1_passWorkShift 33 = .ok (.aload_n 3, 1) := by decide +kernel
theorem dX1_passWorkShift_34 : decode cX1_passWorkShift 34 = .ok (.aload_n 0, 1) := by decide +kernel
theorem dX1_passWorkShift_35 : decode cX1_passWorkShift 35 = .ok (.getfield 26, 3) := by decide +kernel
theorem dX1_passWorkShift_38 : decode cX1_passWorkShift 38 = .ok (.putfield 91, 3) := by decide +kernel
theorem dX1_passWorkShift_41 : decode cX1_passWorkShift 41 = .ok (.aload_n 0, 1) := by decide +kernel
theorem dX1_passWorkShift_42 : decode cX1_passWorkShift 42 = .ok (.getfield 29, 3) := by decide +kernel
theorem dX1_passWorkShift_45 : decode cX1_passWorkShift 45 = .ok (.iconst 1, 1) := by decide +kernel
theorem dX1_passWorkShift_46 : decode cX1_passWorkShift 46 = .ok (.if_icmp .lt 16, 3) := by decide +kernel
theorem dX1_passWorkShift_49 : decode cX1_passWorkShift 49 = .ok (.aload_n 3, 1) := by decide +kernel
theorem dX1_passWorkShift_50 : decode cX1_passWorkShift 50 = .ok (.dup, 1) := by decide +kernel
theorem dX1_passWorkShift_51 : decode cX1_passWorkShift 51 = .ok (.getfield 94, 3) := by decide +kernel
theorem dX1_passWorkShift_54 : decode cX1_passWorkShift 54 = .ok (.aload_n 3, 1) := by decide +kernel
theorem dX1_passWorkShift_55 : decode cX1_passWorkShift 55 = .ok (.getfield 97, 3) := by decide +kernel
theorem dX1_passWorkShift_58 : decode cX1_passWorkShift 58 = .ok (.iadd, 1) := by decide +kernel
theorem dX1_passWorkShift_59 : decode cX1_passWorkShift 59 = .ok (.putfield 94, 3) := by decide +kernel
theorem dX1_passWorkShift_62 : decode cX1_passWorkShift 62 = .ok (.iinc 2 1, 3) := by decide +kernel
theorem dX1_passWorkShift_65 : decode cX1_passWorkShift 65 = .ok (.goto (-61), 3) := by decide +kernel
theorem dX1_passWorkShift_68 : decode cX1_passWorkShift 68 = .ok (.iload_n 1, 1) := by decide +kernel
theorem dX1_passWorkShift_69 : decode cX1_passWorkShift 69 = .ok (.ireturn, 1) := by decide +kernel
theorem dX1_passStrikeShift_0 : decode cX1_passStrikeShift 0 = .ok (.aload_n 0, 1) := by decide +kernel
theorem dX1_passStrikeShift_1 : decode cX1_passStrikeShift 1 = .ok (.dup, 1) := by decide +kernel
theorem dX1_passStrikeShift_2 : decode cX1_passStrikeShift 2 = .ok (.getfield 42, 3) := by decide +kernel
theorem dX1_passStrikeShift_5 : decode cX1_passStrikeShift 5 = .ok (.iconst 1, 1) := by decide +kernel
theorem dX1_passStrikeShift_6 : decode cX1_passStrikeShift 6 = .ok (.iadd, 1) := by decide +kernel
theorem dX1_passStrikeShift_7 : decode cX1_passStrikeShift 7 = .ok (.putfield 42, 3) := by decide +kernel
theorem dX1_passStrikeShift_10 : decode cX1_passStrikeShift 10 = .ok (.iconst 0, 1) := by decide +kernel
theorem dX1_passStrikeShift_11 : decode cX1_passStrikeShift 11 = .ok (.istore_n 1, 1) := by decide +kernel
theorem dX1_passStrikeShift_12 : decode cX1_passStrikeShift 12 = .ok (.iload_n 1, 1) := by decide +kernel
theorem dX1_passStrikeShift_13 : decode cX1_passStrikeShift 13 = .ok (.aload_n 0, 1) := by decide +kernel
theorem dX1_passStrikeShift_14 : decode cX1_passStrikeShift 14 = .ok (.getfield 18, 3) := by decide +kernel
theorem dX1_passStrikeShift_17 : decode cX1_passStrikeShift 17 = .ok (.if_icmp .ge 24, 3) := by decide +kernel
theorem dX1_passStrikeShift_20 : decode cX1_passStrikeShift 20 = .ok (.aload_n 0, 1) := by decide +kernel
theorem dX1_passStrikeShift_21 : decode cX1_passStrikeShift 21 = .ok (.getfield 11, 3) := by decide +kernel
theorem dX1_passStrikeShift_24 : decode cX1_passStrikeShift 24 = .ok (.iload_n 1, 1) := by decide +kernel
theorem dX1_passStrikeShift_25 : decode cX1_passStrikeShift 25 = .ok (.aaload, 1) := by decide +kernel
theorem dX1_passStrikeShift_26 : decode cX1_passStrikeShift 26 = .ok (.dup, 1) := by decide +kernel
theorem dX1_passStrikeShift_27 : decode cX1_passStrikeShift 27 = .ok (.getfield 100, 3) := by decide +kernel
theorem dX1_passStrikeShift_30 : decode cX1_passStrikeShift 30 = .ok (.iconst 1, 1) := by decide +kernel
theorem dX1_passStrikeShift_31 : decode cX1_passStrikeShift 31 = .ok (.iadd, 1) := by decide +kernel
theorem dX1_passStrikeShift_32 : decode cX1_passStrikeShift 32 = .ok (.putfield 100, 3) := by decide +kernel
theorem dX1_passStrikeShift_35 : decode cX1_passStrikeShift 35 = .ok (.iinc 1 1, 3) := by decide +kernel
theorem dX1_passStrikeShift_38 : decode cX1_passStrikeShift 38 = .ok (.goto (-26), 3) := by decide +kernel
theorem dX1_passStrikeShift_41 : decode cX1_passStrikeShift 41 = .ok (.iconst 0, 1) := by decide +kernel
theorem dX1_passStrikeShift_42 : decode cX1_passStrikeShift 42 = .ok (.istore_n 1, 1) := by decide +kernel
theorem dX1_passStrikeShift_43 : decode cX1_passStrikeShift 43 = .ok (.iload_n 1, 1) := by decide +kernel
theorem dX1_passStrikeShift_44 : decode cX1_passStrikeShift 44 = .ok (.aload_n 0, 1) := by decide +kernel
theorem dX1_passStrikeShift_45 : decode cX1_passStrikeShift 45 = .ok (.getfield 18, 3) := by decide +kernel
theorem dX1_passStrikeShift_48 : decode cX1_passStrikeShift 48 = .ok (.if_icmp .ge 42, 3) := by decide +kernel
theorem dX1_passStrikeShift_51 : decode cX1_passStrikeShift 51 = .ok (.aload_n 0, 1) := by decide +kernel
theorem dX1_passStrikeShift_52 : decode cX1_passStrikeShift 52 = .ok (.getfield 48, 3) := by decide +kernel
theorem dX1_passStrikeShift_55 : decode cX1_passStrikeShift 55 = .ok (.iconst 2, 1) := by decide +kernel
theorem dX1_passStrikeShift_56 : decode cX1_passStrikeShift 56 = .ok (.if_icmp .lt 28, 3) := by decide +kernel
theorem dX1_passStrikeShift_59 : decode cX1_passStrikeShift 59 = .ok (.aload_n 0, 1) := by decide +kernel
theorem dX1_passStrikeShift_60 : decode cX1_passStrikeShift 60 = .ok (.dup, 1) := by decide +kernel
theorem dX1_passStrikeShift_61 : decode cX1_passStrikeShift 61 = .ok (.getfield 48, 3) := by decide +kernel
theorem dX1_passStrikeShift_64 : decode cX1_passStrikeShift 64 = .ok (.iconst 2, 1) := by decide +kernel
theorem dX1_passStrikeShift_65 : decode cX1_passStrikeShift 65 = .ok (.isub, 1) := by decide +kernel
theorem dX1_passStrikeShift_66 : decode cX1_passStrikeShift 66 = .ok (.putfield 48, 3) := by decide +kernel
theorem dX1_passStrikeShift_69 : decode cX1_passStrikeShift 69 = .ok (.aload_n 0, 1) := by decide +kernel
theorem dX1_passStrikeShift_70 : decode cX1_passStrikeShift 70 = .ok (.getfield 11, 3) := by decide +kernel
theorem dX1_passStrikeShift_73 : decode cX1_passStrikeShift 73 = .ok (.iload_n 1, 1) := by decide +kernel
theorem dX1_passStrikeShift_74 : decode cX1_passStrikeShift 74 = .ok (.aaload, 1) := by decide +kernel
theorem dX1_passStrikeShift_75 : decode cX1_passStrikeShift 75 = .ok (.dup, 1) := by decide +kernel
theorem dX1_passStrikeShift_76 : decode cX1_passStrikeShift 76 = .ok (.getfield 103, 3) := by decide +kernel
theorem dX1_passStrikeShift_79 : decode cX1_passStrikeShift 79 = .ok (.iconst 2, 1) := by decide +kernel
theorem dX1_passStrikeShift_80 : decode cX1_passStrikeShift 80 = .ok (.iadd, 1) := by decide +kernel
theorem dX1_passStrikeShift_81 : decode cX1_passStrikeShift 81 = .ok (.putfield 103, 3) := by decide +kernel
theorem dX1_passStrikeShift_84 : decode cX1_passStrikeShift 84 = .ok (.iinc 1 1, 3) := by decide +kernel
theorem dX1_passStrikeShift_87 : decode cX1_passStrikeShift 87 = .ok (.goto (-44), 3) := by decide +kernel
theorem dX1_passStrikeShift_90 : decode cX1_passStrikeShift 90 = .ok (.iconst 0, 1) := by decide +kernel
theorem dX1_passStrikeShift_91 : decode cX1_passStrikeShift 91 = .ok (.istore_n 1, 1) := by decide +kernel
theorem dX1_passStrikeShift_92 : decode cX1_passStrikeShift 92 = .ok (.iload_n 1, 1) := by decide +kernel
theorem dX1_passStrikeShift_93 : decode cX1_passStrikeShift 93 = .ok (.aload_n 0, 1) := by decide +kernel
theorem dX1_passStrikeShift_94 : decode cX1_passStrikeShift 94 = .ok (.getfield 18, 3) := by decide +kernel
theorem dX1_passStrikeShift_97 : decode cX1_passStrikeShift 97 = .ok (.if_icmp .ge 32, 3) := by decide +kernel
theorem dX1_passStrikeShift_100 : decode cX1_passStrikeShift 100 = .ok (.aload_n 0, 1) := by decide +kernel
theorem dX1_passStrikeShift_101 : decode cX1_passStrikeShift 101 = .ok (.getfield 11, 3) := by decide +kernel
theorem dX1_passStrikeShift_104 : decode cX1_passStrikeShift 104 = .ok (.iload_n 1, 1) := by decide +kernel
theorem dX1_passStrikeShift_105 : decode cX1_passStrikeShift 105 = .ok (.aaload, 1) := by decide +kernel
theorem dX1_passStrikeShift_106 : decode cX1_passStrikeShift 106 = .ok (.getfield 106, 3) := by decide +kernel
theorem dX1_passStrikeShift_109 : decode cX1_passStrikeShift 109 = .ok (.iconst (-1), 1) := by decide +kernel
theorem dX1_passStrikeShift_110 : decode cX1_passStrikeShift 110 = .ok (.if_icmp .eq 13, 3) := by decide +kernel
theorem dX1_passStrikeShift_113 : decode cX1_passStrikeShift 113 = .ok (.aload_n 0, 1) := by decide +kernel
theorem dX1_passStrikeShift_114 : decode cX1_passStrikeShift 114 = .ok (.aload_n 0, 1) := by decide +kernel
theorem dX1_passStrikeShift_115 : decode cX1_passStrikeShift 115 = .ok (.getfield 11, 3) := by decide +kernel
theorem dX1_passStrikeShift_118 : decode cX1_passStrikeShift 118 = .ok (.iload_n 1, 1) := by decide +kernel
theorem dX1_passStrikeShift_119 : decode cX1_passStrikeShift 119 = .ok (.aaload, 1) := by decide +kernel
theorem dX1_passStrikeShift_120 : decode cX1_passStrikeShift 120 = .ok (.invokevirtual 109, 3) := by decide +kernel
theorem dX1_passStrikeShift_123 : decode cX1_passStrikeShift 123 = .ok (.iinc 1 1, 3) := by decide +kernel
theorem dX1_passStrikeShift_126 : decode cX1_passStrikeShift 126 = .ok (.goto (-34), 3) := by decide +kernel
theorem dX1_passStrikeShift_129 : decode cX1_passStrikeShift 129 = .ok (.return_, 1) := by decide +kernel
theorem dX1_standOnPicket_0 : decode cX1_standOnPicket 0 = .ok (.aload_n 0, 1) := by decide +kernel
theorem dX1_standOnPicket_1 : decode cX1_standOnPicket 1 = .ok (.aload_n 1, 1) := by decide +kernel
theorem dX1_standOnPicket_2 : decode cX1_standOnPicket 2 = .ok (.getfield 106, 3) := by decide +kernel
theorem dX1_standOnPicket_5 : decode cX1_standOnPicket 5 = .ok (.invokevirtual 112, 3) := by decide +kernel
theorem dX1_standOnPicket_8 : decode cX1_standOnPicket 8 = .ok (.istore_n 2, 1) := by decide +kernel
theorem dX1_standOnPicket_9 : decode cX1_standOnPicket 9 = .ok (.iload_n 2, 1) := by decide +kernel
theorem dX1_standOnPicket_10 : decode cX1_standOnPicket 10 = .ok (.iconst 2, 1) := by decide +kernel
theorem dX1_standOnPicket_11 : decode cX1_standOnPicket 11 = .ok (.invokestatic 116, 3) := by decide +kernel
theorem dX1_standOnPicket_14 : decode cX1_standOnPicket 14 = .ok (.istore_n 3, 1) := by decide +kernel
theorem dX1_standOnPicket_15 : decode cX1_standOnPicket 15 = .ok (.aload_n 1, 1) := by decide +kernel
theorem dX1_standOnPicket_16 : decode cX1_standOnPicket 16 = .ok (.getfield 121, 3) := by decide +kernel
theorem dX1_standOnPicket_19 : decode cX1_standOnPicket 19 = .ok (.iload_n 3, 1) := by decide +kernel
theorem dX1_standOnPicket_20 : decode cX1_standOnPicket 20 = .ok (.if_icmp .ge 28, 3) := by decide +kernel
theorem dX1_standOnPicket_23 : decode cX1_standOnPicket 23 = .ok (.aload_n 1, 1) := by decide +kernel
theorem dX1_standOnPicket_24 : decode cX1_standOnPicket 24 = .ok (.dup, 1) := by decide +kernel
theorem dX1_standOnPicket_25 : decode cX1_standOnPicket 25 = .ok (.getfield 124, 3) := by decide +kernel
theorem dX1_standOnPicket_28 : decode cX1_standOnPicket 28 = .ok (.iconst 1, 1) := by decide +kernel
theorem dX1_standOnPicket_29 : decode cX1_standOnPicket 29 = .ok (.iadd, 1) := by decide +kernel
theorem dX1_standOnPicket_30 : decode cX1_standOnPicket 30 = .ok (.putfield 124, 3) := by decide +kernel
theorem dX1_standOnPicket_33 : decode cX1_standOnPicket 33 = .ok (.aload_n 1, 1) := by decide +kernel
theorem dX1_standOnPicket_34 : decode cX1_standOnPicket 34 = .ok (.dup, 1) := by decide +kernel
theorem dX1_standOnPicket_35 : decode cX1_standOnPicket 35 = .ok (.getfield 121, 3) := by decide +kernel
theorem dX1_standOnPicket_38 : decode cX1_standOnPicket 38 = .ok (.iload_n 2, 1) := by decide +kernel
theorem dX1_standOnPicket_39 : decode cX1_standOnPicket 39 = .ok (.iload_n 3, 1) := by decide +kernel
theorem dX1_standOnPicket_40 : decode cX1_standOnPicket 40 = .ok (.isub, 1) := by decide +kernel
theorem dX1_standOnPicket_41 : decode cX1_standOnPicket 41 = .ok (.iadd, 1) := by decide +kernel
theorem dX1_standOnPicket_42 : decode cX1_standOnPicket 42 = .ok (.putfield 121, 3) := by decide +kernel
theorem dX1_standOnPicket_45 : decode cX1_standOnPicket 45 = .ok (.goto 13, 3) := by decide +kernel
theorem dX1_standOnPicket_48 : decode cX1_standOnPicket 48 = .ok (.aload_n 1, 1) := by decide +kernel
theorem dX1_standOnPicket_49 : decode cX1_standOnPicket 49 = .ok (.dup, 1) := by decide +kernel
theorem dX1_standOnPicket_50 : decode cX1_standOnPicket 50 = .ok (.getfield 121, 3) := by decide +kernel
theorem dX1_standOnPicket_53 : decode cX1_standOnPicket 53 = .ok (.iload_n 3, 1) := by decide +kernel
theorem dX1_standOnPicket_54 : decode cX1_standOnPicket 54 = .ok (.isub, 1) := by decide +kernel
theorem dX1_standOnPicket_55 : decode cX1_standOnPicket 55 = .ok (.putfield 121, 3) := by decide +kernel
theorem dX1_standOnPicket_58 : decode cX1_standOnPicket 58 = .ok (.return_, 1) := by decide +kernel
theorem dX1_faultOfVoting_0 : decode cX1_faultOfVoting 0 = .ok (.aload_n 0, 1) := by decide +kernel
theorem dX1_faultOfVoting_1 : decode cX1_faultOfVoting 1 = .ok (.iload_n 1, 1) := by decide +kernel
theorem dX1_faultOfVoting_2 : decode cX1_faultOfVoting 2 = .ok (.invokevirtual 127, 3) := by decide +kernel
theorem dX1_faultOfVoting_5 : decode cX1_faultOfVoting 5 = .ok (.ifCond .ne 7, 3) := by decide +kernel
theorem dX1_faultOfVoting_8 : decode cX1_faultOfVoting 8 = .ok (.getstatic 61, 3) := by decide +kernel
theorem dX1_faultOfVoting_11 : decode cX1_faultOfVoting 11 = .ok (.areturn, 1) := by decide +kernel
theorem dX1_faultOfVoting_12 : decode cX1_faultOfVoting 12 = .ok (.aload_n 0, 1) := by decide +kernel
theorem dX1_faultOfVoting_13 : decode cX1_faultOfVoting 13 = .ok (.getfield 38, 3) := by decide +kernel
theorem dX1_faultOfVoting_16 : decode cX1_faultOfVoting 16 = .ok (.ifCond .eq 9, 3) := by decide +kernel
theorem dX1_faultOfVoting_19 : decode cX1_faultOfVoting 19 = .ok (.getstatic 70, 3) := by decide +kernel
theorem dX1_faultOfVoting_22 : decode cX1_faultOfVoting 22 = .ok (.goto 6, 3) := by decide +kernel
theorem dX1_faultOfVoting_25 : decode cX1_faultOfVoting 25 = .ok (.getstatic 73, 3) := by decide +kernel
theorem dX1_faultOfVoting_28 : decode cX1_faultOfVoting 28 = .ok (.areturn, 1) := by decide +kernel
theorem dX1_castVote_0 : decode cX1_castVote 0 = .ok (.aload_n 0, 1) := by decide +kernel
theorem dX1_castVote_1 : decode cX1_castVote 1 = .ok (.getfield 11, 3) := by decide +kernel
theorem dX1_castVote_4 : decode cX1_castVote 4 = .ok (.iload_n 1, 1) := by decide +kernel
theorem dX1_castVote_5 : decode cX1_castVote 5 = .ok (.aaload, 1) := by decide +kernel
theorem dX1_castVote_6 : decode cX1_castVote 6 = .ok (.iload_n 2, 1) := by decide +kernel
theorem dX1_castVote_7 : decode cX1_castVote 7 = .ok (.ifCond .eq 7, 3) := by decide +kernel
theorem dX1_castVote_10 : decode cX1_castVote 10 = .ok (.iconst 1, 1) := by decide +kernel
theorem dX1_castVote_11 : decode cX1_castVote 11 = .ok (.goto 4, 3) := by decide +kernel
theorem dX1_castVote_14 : decode cX1_castVote 14 = .ok (.iconst 2, 1) := by decide +kernel
theorem dX1_castVote_15 : decode cX1_castVote 15 = .ok (.putfield 130, 3) := by decide +kernel
theorem dX1_castVote_18 : decode cX1_castVote 18 = .ok (.aload_n 0, 1) := by decide +kernel
theorem dX1_castVote_19 : decode cX1_castVote 19 = .ok (.invokevirtual 133, 3) := by decide +kernel
theorem dX1_castVote_22 : decode cX1_castVote 22 = .ok (.ireturn, 1) := by decide +kernel
theorem dX1_faultOfStriking_0 : decode cX1_faultOfStriking 0 = .ok (.aload_n 0, 1) := by decide +kernel
theorem dX1_faultOfStriking_1 : decode cX1_faultOfStriking 1 = .ok (.getfield 38, 3) := by decide +kernel
theorem dX1_faultOfStriking_4 : decode cX1_faultOfStriking 4 = .ok (.ifCond .eq 7, 3) := by decide +kernel
theorem dX1_faultOfStriking_7 : decode cX1_faultOfStriking 7 = .ok (.getstatic 70, 3) := by decide +kernel
theorem dX1_faultOfStriking_10 : decode cX1_faultOfStriking 10 = .ok (.areturn, 1) := by decide +kernel
theorem dX1_faultOfStriking_11 : decode cX1_faultOfStriking 11 = .ok (.iconst 2, 1) := by decide +kernel
theorem dX1_faultOfStriking_12 : decode cX1_faultOfStriking 12 = .ok (.aload_n 0, 1) := by decide +kernel
theorem dX1_faultOfStriking_13 : decode cX1_faultOfStriking 13 = .ok (.invokevirtual 133, 3) := by decide +kernel
theorem dX1_faultOfStriking_16 : decode cX1_faultOfStriking 16 = .ok (.imul, 1) := by decide +kernel
theorem dX1_faultOfStriking_17 : decode cX1_faultOfStriking 17 = .ok (.aload_n 0, 1) := by decide +kernel
theorem dX1_faultOfStriking_18 : decode cX1_faultOfStriking 18 = .ok (.getfield 18, 3) := by decide +kernel
theorem dX1_faultOfStriking_21 : decode cX1_faultOfStriking 21 = .ok (.if_icmp .le 9, 3) := by decide +kernel
theorem dX1_faultOfStriking_24 : decode cX1_faultOfStriking 24 = .ok (.getstatic 73, 3) := by decide +kernel
theorem dX1_faultOfStriking_27 : decode cX1_faultOfStriking 27 = .ok (.goto 6, 3) := by decide +kernel
theorem dX1_faultOfStriking_30 : decode cX1_faultOfStriking 30 = .ok (.getstatic 136, 3) := by decide +kernel
theorem dX1_faultOfStriking_33 : decode cX1_faultOfStriking 33 = .ok (.areturn, 1) := by decide +kernel
theorem dX1_beginStrike_0 : decode cX1_beginStrike 0 = .ok (.iconst 0, 1) := by decide +kernel
theorem dX1_beginStrike_1 : decode cX1_beginStrike 1 = .ok (.istore_n 1, 1) := by decide +kernel
theorem dX1_beginStrike_2 : decode cX1_beginStrike 2 = .ok (.iload_n 1, 1) := by decide +kernel
theorem dX1_beginStrike_3 : decode cX1_beginStrike 3 = .ok (.aload_n 0, 1) := by decide +kernel
theorem dX1_beginStrike_4 : decode cX1_beginStrike 4 = .ok (.getfield 18, 3) := by decide +kernel
theorem dX1_beginStrike_7 : decode cX1_beginStrike 7 = .ok (.if_icmp .ge 19, 3) := by decide +kernel
theorem dX1_beginStrike_10 : decode cX1_beginStrike 10 = .ok (.aload_n 0, 1) := by decide +kernel
theorem dX1_beginStrike_11 : decode cX1_beginStrike 11 = .ok (.getfield 11, 3) := by decide +kernel
theorem dX1_beginStrike_14 : decode cX1_beginStrike 14 = .ok (.iload_n 1, 1) := by decide +kernel
theorem dX1_beginStrike_15 : decode cX1_beginStrike 15 = .ok (.aaload, 1) := by decide +kernel
theorem dX1_beginStrike_16 : decode cX1_beginStrike 16 = .ok (.iconst 0, 1) := by decide +kernel
theorem dX1_beginStrike_17 : decode cX1_beginStrike 17 = .ok (.putfield 130, 3) := by decide +kernel
theorem dX1_beginStrike_20 : decode cX1_beginStrike 20 = .ok (.iinc 1 1, 3) := by decide +kernel
theorem dX1_beginStrike_23 : decode cX1_beginStrike 23 = .ok (.goto (-21), 3) := by decide +kernel
theorem dX1_beginStrike_26 : decode cX1_beginStrike 26 = .ok (.aload_n 0, 1) := by decide +kernel
theorem dX1_beginStrike_27 : decode cX1_beginStrike 27 = .ok (.iconst 1, 1) := by decide +kernel
theorem dX1_beginStrike_28 : decode cX1_beginStrike 28 = .ok (.putfield 38, 3) := by decide +kernel
theorem dX1_beginStrike_31 : decode cX1_beginStrike 31 = .ok (.aload_n 0, 1) := by decide +kernel
theorem dX1_beginStrike_32 : decode cX1_beginStrike 32 = .ok (.iconst 0, 1) := by decide +kernel
theorem dX1_beginStrike_33 : decode cX1_beginStrike 33 = .ok (.putfield 42, 3) := by decide +kernel
theorem dX1_beginStrike_36 : decode cX1_beginStrike 36 = .ok (.aload_n 0, 1) := by decide +kernel
theorem dX1_beginStrike_37 : decode cX1_beginStrike 37 = .ok (.dup, 1) := by decide +kernel
theorem dX1_beginStrike_38 : decode cX1_beginStrike 38 = .ok (.getfield 45, 3) := by decide +kernel
theorem dX1_beginStrike_41 : decode cX1_beginStrike 41 = .ok (.iconst 1, 1) := by decide +kernel
theorem dX1_beginStrike_42 : decode cX1_beginStrike 42 = .ok (.iadd, 1) := by decide +kernel
theorem dX1_beginStrike_43 : decode cX1_beginStrike 43 = .ok (.putfield 45, 3) := by decide +kernel
theorem dX1_beginStrike_46 : decode cX1_beginStrike 46 = .ok (.aload_n 0, 1) := by decide +kernel
theorem dX1_beginStrike_47 : decode cX1_beginStrike 47 = .ok (.getfield 45, 3) := by decide +kernel
theorem dX1_beginStrike_50 : decode cX1_beginStrike 50 = .ok (.ireturn, 1) := by decide +kernel
theorem dX1_faultOfPaying_0 : decode cX1_faultOfPaying 0 = .ok (.iload_n 1, 1) := by decide +kernel
theorem dX1_faultOfPaying_1 : decode cX1_faultOfPaying 1 = .ok (.iconst 1, 1) := by decide +kernel
theorem dX1_faultOfPaying_2 : decode cX1_faultOfPaying 2 = .ok (.if_icmp .lt 10, 3) := by decide +kernel
theorem dX1_faultOfPaying_5 : decode cX1_faultOfPaying 5 = .ok (.iload_n 1, 1) := by decide +kernel
theorem dX1_faultOfPaying_6 : decode cX1_faultOfPaying 6 = .ok (.sipush 999, 3) := by decide +kernel
theorem dX1_faultOfPaying_9 : decode cX1_faultOfPaying 9 = .ok (.if_icmp .le 7, 3) := by decide +kernel
theorem dX1_faultOfPaying_12 : decode cX1_faultOfPaying 12 = .ok (.getstatic 67, 3) := by decide +kernel
theorem dX1_faultOfPaying_15 : decode cX1_faultOfPaying 15 = .ok (.areturn, 1) := by decide +kernel
theorem dX1_faultOfPaying_16 : decode cX1_faultOfPaying 16 = .ok (.aload_n 0, 1) := by decide +kernel
theorem dX1_faultOfPaying_17 : decode cX1_faultOfPaying 17 = .ok (.getfield 48, 3) := by decide +kernel
theorem dX1_faultOfPaying_20 : decode cX1_faultOfPaying 20 = .ok (.iload_n 1, 1) := by decide +kernel
theorem dX1_faultOfPaying_21 : decode cX1_faultOfPaying 21 = .ok (.iadd, 1) := by decide +kernel
theorem dX1_faultOfPaying_22 : decode cX1_faultOfPaying 22 = .ok (.sipush 9999, 3) := by decide +kernel
theorem dX1_faultOfPaying_25 : decode cX1_faultOfPaying 25 = .ok (.if_icmp .le 9, 3) := by decide +kernel
theorem dX1_faultOfPaying_28 : decode cX1_faultOfPaying 28 = .ok (.getstatic 70, 3) := by decide +kernel
theorem dX1_faultOfPaying_31 : decode cX1_faultOfPaying 31 = .ok (.goto 6, 3) := by decide +kernel
theorem dX1_faultOfPaying_34 : decode cX1_faultOfPaying 34 = .ok (.getstatic 73, 3) := by decide +kernel
theorem dX1_faultOfPaying_37 : decode cX1_faultOfPaying 37 = .ok (.areturn, 1) := by decide +kernel
theorem dX1_pay_0 : decode cX1_pay 0 = .ok (.aload_n 0, 1) := by decide +kernel
theorem dX1_pay_1 : decode cX1_pay 1 = .ok (.dup, 1) := by decide +kernel
theorem dX1_pay_2 : decode cX1_pay 2 = .ok (.getfield 48, 3) := by decide +kernel
theorem dX1_pay_5 : decode cX1_pay 5 = .ok (.iload_n 1, 1) := by decide +kernel
theorem dX1_pay_6 : decode cX1_pay 6 = .ok (.iadd, 1) := by decide +kernel
theorem dX1_pay_7 : decode cX1_pay 7 = .ok (.putfield 48, 3) := by decide +kernel
theorem dX1_pay_10 : decode cX1_pay 10 = .ok (.aload_n 0, 1) := by decide +kernel
theorem dX1_pay_11 : decode cX1_pay 11 = .ok (.getfield 48, 3) := by decide +kernel
theorem dX1_pay_14 : decode cX1_pay 14 = .ok (.ireturn, 1) := by decide +kernel
theorem dX1_faultOfSigning_0 : decode cX1_faultOfSigning 0 = .ok (.iload_n 1, 1) := by decide +kernel
theorem dX1_faultOfSigning_1 : decode cX1_faultOfSigning 1 = .ok (.invokestatic 57, 3) := by decide +kernel
theorem dX1_faultOfSigning_4 : decode cX1_faultOfSigning 4 = .ok (.ifCond .eq 11, 3) := by decide +kernel
theorem dX1_faultOfSigning_7 : decode cX1_faultOfSigning 7 = .ok (.aload_n 0, 1) := by decide +kernel
theorem dX1_faultOfSigning_8 : decode cX1_faultOfSigning 8 = .ok (.iload_n 2, 1) := by decide +kernel
theorem dX1_faultOfSigning_9 : decode cX1_faultOfSigning 9 = .ok (.invokevirtual 127, 3) := by decide +kernel
theorem dX1_faultOfSigning_12 : decode cX1_faultOfSigning 12 = .ok (.ifCond .ne 7, 3) := by decide +kernel
theorem dX1_faultOfSigning_15 : decode cX1_faultOfSigning 15 = .ok (.getstatic 61, 3) := by decide +kernel
theorem dX1_faultOfSigning_18 : decode cX1_faultOfSigning 18 = .ok (.areturn, 1) := by decide +kernel
theorem dX1_faultOfSigning_19 : decode cX1_faultOfSigning 19 = .ok (.aload_n 0, 1) := by decide +kernel
theorem dX1_faultOfSigning_20 : decode cX1_faultOfSigning 20 = .ok (.getfield 38, 3) := by decide +kernel
theorem dX1_faultOfSigning_23 : decode cX1_faultOfSigning 23 = .ok (.ifCond .eq 12, 3) := by decide +kernel
theorem dX1_faultOfSigning_26 : decode cX1_faultOfSigning 26 = .ok (.aload_n 0, 1) := by decide +kernel
theorem dX1_faultOfSigning_27 : decode cX1_faultOfSigning 27 = .ok (.iload_n 1, 1) := by decide +kernel
theorem dX1_faultOfSigning_28 : decode cX1_faultOfSigning 28 = .ok (.invokevirtual 112, 3) := by decide +kernel
theorem dX1_faultOfSigning_31 : decode cX1_faultOfSigning 31 = .ok (.iconst 4, 1) := by decide +kernel
theorem dX1_faultOfSigning_32 : decode cX1_faultOfSigning 32 = .ok (.if_icmp .lt 7, 3) := by decide +kernel
theorem dX1_faultOfSigning_35 : decode cX1_faultOfSigning 35 = .ok (.getstatic 70, 3) := by decide +kernel
theorem dX1_faultOfSigning_38 : decode cX1_faultOfSigning 38 = .ok (.areturn, 1) := by decide +kernel
theorem dX1_faultOfSigning_39 : decode cX1_faultOfSigning 39 = .ok (.aload_n 0, 1) := by decide +kernel
theorem dX1_faultOfSigning_40 : decode cX1_faultOfSigning 40 = .ok (.getfield 11, 3) := by decide +kernel
theorem dX1_faultOfSigning_43 : decode cX1_faultOfSigning 43 = .ok (.iload_n 2, 1) := by decide +kernel
theorem dX1_faultOfSigning_44 : decode cX1_faultOfSigning 44 = .ok (.aaload, 1) := by decide +kernel
theorem dX1_faultOfSigning_45 : decode cX1_faultOfSigning 45 = .ok (.getfield 106, 3) := by decide +kernel
theorem dX1_faultOfSigning_48 : decode cX1_faultOfSigning 48 = .ok (.iconst (-1), 1) := by decide +kernel
theorem dX1_faultOfSigning_49 : decode cX1_faultOfSigning 49 = .ok (.if_icmp .eq 9, 3) := by decide +kernel
theorem dX1_faultOfSigning_52 : decode cX1_faultOfSigning 52 = .ok (.getstatic 136, 3) := by decide +kernel
theorem dX1_faultOfSigning_55 : decode cX1_faultOfSigning 55 = .ok (.goto 6, 3) := by decide +kernel
theorem dX1_faultOfSigning_58 : decode cX1_faultOfSigning 58 = .ok (.getstatic 73, 3) := by decide +kernel
theorem dX1_faultOfSigning_61 : decode cX1_faultOfSigning 61 = .ok (.areturn, 1) := by decide +kernel
theorem dX1_putOnList_0 : decode cX1_putOnList 0 = .ok (.aload_n 0, 1) := by decide +kernel
theorem dX1_putOnList_1 : decode cX1_putOnList 1 = .ok (.iload_n 1, 1) := by decide +kernel
theorem dX1_putOnList_2 : decode cX1_putOnList 2 = .ok (.invokevirtual 112, 3) := by decide +kernel
theorem dX1_putOnList_5 : decode cX1_putOnList 5 = .ok (.istore_n 3, 1) := by decide +kernel
theorem dX1_putOnList_6 : decode cX1_putOnList 6 = .ok (.aload_n 0, 1) := by decide +kernel
theorem dX1_putOnList_7 : decode cX1_putOnList 7 = .ok (.getfield 11, 3) := by decide +kernel
theorem dX1_putOnList_10 : decode cX1_putOnList 10 = .ok (.iload_n 2, 1) := by decide +kernel
theorem dX1_putOnList_11 : decode cX1_putOnList 11 = .ok (.aaload, 1) := by decide +kernel
theorem dX1_putOnList_12 : decode cX1_putOnList 12 = .ok (.iload_n 1, 1) := by decide +kernel
theorem dX1_putOnList_13 : decode cX1_putOnList 13 = .ok (.putfield 106, 3) := by decide +kernel
theorem dX1_putOnList_16 : decode cX1_putOnList 16 = .ok (.aload_n 0, 1) := by decide +kernel
theorem dX1_putOnList_17 : decode cX1_putOnList 17 = .ok (.getfield 11, 3) := by decide +kernel
theorem dX1_putOnList_20 : decode cX1_putOnList 20 = .ok (.iload_n 2, 1) := by decide +kernel
theorem dX1_putOnList_21 : decode cX1_putOnList 21 = .ok (.aaload, 1) := by decide +kernel
theorem dX1_putOnList_22 : decode cX1_putOnList 22 = .ok (.iload_n 3, 1) := by decide +kernel
theorem dX1_putOnList_23 : decode cX1_putOnList 23 = .ok (.putfield 121, 3) := by decide +kernel
theorem dX1_putOnList_26 : decode cX1_putOnList 26 = .ok (.iload_n 3, 1) := by decide +kernel
theorem dX1_putOnList_27 : decode cX1_putOnList 27 = .ok (.iconst 1, 1) := by decide +kernel
theorem dX1_putOnList_28 : decode cX1_putOnList 28 = .ok (.iadd, 1) := by decide +kernel
theorem dX1_putOnList_29 : decode cX1_putOnList 29 = .ok (.ireturn, 1) := by decide +kernel
theorem dX1_faultOfStrikingOff_0 : decode cX1_faultOfStrikingOff 0 = .ok (.aload_n 0, 1) := by decide +kernel
theorem dX1_faultOfStrikingOff_1 : decode cX1_faultOfStrikingOff 1 = .ok (.iload_n 1, 1) := by decide +kernel
theorem dX1_faultOfStrikingOff_2 : decode cX1_faultOfStrikingOff 2 = .ok (.invokevirtual 127, 3) := by decide +kernel
theorem dX1_faultOfStrikingOff_5 : decode cX1_faultOfStrikingOff 5 = .ok (.ifCond .ne 7, 3) := by decide +kernel
theorem dX1_faultOfStrikingOff_8 : decode cX1_faultOfStrikingOff 8 = .ok (.getstatic 61, 3) := by decide +kernel
theorem dX1_faultOfStrikingOff_11 : decode cX1_faultOfStrikingOff 11 = .ok (.areturn, 1) := by decide +kernel
theorem dX1_faultOfStrikingOff_12 : decode cX1_faultOfStrikingOff 12 = .ok (.aload_n 0, 1) := by decide +kernel
theorem dX1_faultOfStrikingOff_13 : decode cX1_faultOfStrikingOff 13 = .ok (.getfield 11, 3) := by decide +kernel
theorem dX1_faultOfStrikingOff_16 : decode cX1_faultOfStrikingOff 16 = .ok (.iload_n 1, 1) := by decide +kernel
theorem dX1_faultOfStrikingOff_17 : decode cX1_faultOfStrikingOff 17 = .ok (.aaload, 1) := by decide +kernel
theorem dX1_faultOfStrikingOff_18 : decode cX1_faultOfStrikingOff 18 = .ok (.getfield 106, 3) := by decide +kernel
theorem dX1_faultOfStrikingOff_21 : decode cX1_faultOfStrikingOff 21 = .ok (.iconst (-1), 1) := by decide +kernel
theorem dX1_faultOfStrikingOff_22 : decode cX1_faultOfStrikingOff 22 = .ok (.if_icmp .ne 9, 3) := by decide +kernel
theorem dX1_faultOfStrikingOff_25 : decode cX1_faultOfStrikingOff 25 = .ok (.getstatic 139, 3) := by decide +kernel
theorem dX1_faultOfStrikingOff_28 : decode cX1_faultOfStrikingOff 28 = .ok (.goto 6, 3) := by decide +kernel
theorem dX1_faultOfStrikingOff_31 : decode cX1_faultOfStrikingOff 31 = .ok (.getstatic 73, 3) := by decide +kernel
theorem dX1_faultOfStrikingOff_34 : decode cX1_faultOfStrikingOff 34 = .ok (.areturn, 1) := by decide +kernel
theorem dX1_takeOffList_0 : decode cX1_takeOffList 0 = .ok (.aload_n 0, 1) := by decide +kernel
theorem dX1_takeOffList_1 : decode cX1_takeOffList 1 = .ok (.getfield 11, 3) := by decide +kernel
theorem dX1_takeOffList_4 : decode cX1_takeOffList 4 = .ok (.iload_n 1, 1) := by decide +kernel
theorem dX1_takeOffList_5 : decode cX1_takeOffList 5 = .ok (.aaload, 1) := by decide +kernel
theorem dX1_takeOffList_6 : decode cX1_takeOffList 6 = .ok (.getfield 106, 3) := by decide +kernel
theorem dX1_takeOffList_9 : decode cX1_takeOffList 9 = .ok (.istore_n 2, 1) := by decide +kernel
theorem dX1_takeOffList_10 : decode cX1_takeOffList 10 = .ok (.aload_n 0, 1) := by decide +kernel
theorem dX1_takeOffList_11 : decode cX1_takeOffList 11 = .ok (.getfield 11, 3) := by decide +kernel
theorem dX1_takeOffList_14 : decode cX1_takeOffList 14 = .ok (.iload_n 1, 1) := by decide +kernel
theorem dX1_takeOffList_15 : decode cX1_takeOffList 15 = .ok (.aaload, 1) := by decide +kernel
theorem dX1_takeOffList_16 : decode cX1_takeOffList 16 = .ok (.getfield 121, 3) := by decide +kernel
theorem dX1_takeOffList_19 : decode cX1_takeOffList 19 = .ok (.istore_n 3, 1) := by decide +kernel
theorem dX1_takeOffList_20 : decode cX1_takeOffList 20 = .ok (.aload_n 0, 1) := by decide +kernel
theorem dX1_takeOffList_21 : decode cX1_takeOffList 21 = .ok (.getfield 11, 3) := by decide +kernel
theorem dX1_takeOffList_24 : decode cX1_takeOffList 24 = .ok (.iload_n 1, 1) := by decide +kernel
theorem dX1_takeOffList_25 : decode cX1_takeOffList 25 = .ok (.aaload, 1) := by decide +kernel
theorem dX1_takeOffList_26 : decode cX1_takeOffList 26 = .ok (.iconst (-1), 1) := by decide +kernel
theorem dX1_takeOffList_27 : decode cX1_takeOffList 27 = .ok (.putfield 106, 3) := by decide +kernel
theorem dX1_takeOffList_30 : decode cX1_takeOffList 30 = .ok (.iconst 0, 1) := by decide +kernel
theorem dX1_takeOffList_31 : decode cX1_takeOffList 31 = .ok (.istore 4, 2) := by decide +kernel
theorem dX1_takeOffList_33 : decode cX1_takeOffList 33 = .ok (.iload 4, 2) := by decide +kernel
theorem dX1_takeOffList_35 : decode cX1_takeOffList 35 = .ok (.aload_n 0, 1) := by decide +kernel
theorem dX1_takeOffList_36 : decode cX1_takeOffList 36 = .ok (.getfield 18, 3) := by decide +kernel
theorem dX1_takeOffList_39 : decode cX1_takeOffList 39 = .ok (.if_icmp .ge 47, 3) := by decide +kernel
theorem dX1_takeOffList_42 : decode cX1_takeOffList 42 = .ok (.aload_n 0, 1) := by decide +kernel
theorem dX1_takeOffList_43 : decode cX1_takeOffList 43 = .ok (.getfield 11, 3) := by decide +kernel
theorem dX1_takeOffList_46 : decode cX1_takeOffList 46 = .ok (.iload 4, 2) := by decide +kernel
theorem dX1_takeOffList_48 : decode cX1_takeOffList 48 = .ok (.aaload, 1) := by decide +kernel
theorem dX1_takeOffList_49 : decode cX1_takeOffList 49 = .ok (.astore 5, 2) := by decide +kernel
theorem dX1_takeOffList_51 : decode cX1_takeOffList 51 = .ok (.aload 5, 2) := by decide +kernel
theorem dX1_takeOffList_53 : decode cX1_takeOffList 53 = .ok (.getfield 106, 3) := by decide +kernel
theorem dX1_takeOffList_56 : decode cX1_takeOffList 56 = .ok (.iload_n 2, 1) := by decide +kernel
theorem dX1_takeOffList_57 : decode cX1_takeOffList 57 = .ok (.if_icmp .ne 23, 3) := by decide +kernel
theorem dX1_takeOffList_60 : decode cX1_takeOffList 60 = .ok (.aload 5, 2) := by decide +kernel
theorem dX1_takeOffList_62 : decode cX1_takeOffList 62 = .ok (.getfield 121, 3) := by decide +kernel
theorem dX1_takeOffList_65 : decode cX1_takeOffList 65 = .ok (.iload_n 3, 1) := by decide +kernel
theorem dX1_takeOffList_66 : decode cX1_takeOffList 66 = .ok (.if_icmp .le 14, 3) := by decide +kernel
theorem dX1_takeOffList_69 : decode cX1_takeOffList 69 = .ok (.aload 5, 2) := by decide +kernel
theorem dX1_takeOffList_71 : decode cX1_takeOffList 71 = .ok (.dup, 1) := by decide +kernel
theorem dX1_takeOffList_72 : decode cX1_takeOffList 72 = .ok (.getfield 121, 3) := by decide +kernel
theorem dX1_takeOffList_75 : decode cX1_takeOffList 75 = .ok (.iconst 1, 1) := by decide +kernel
theorem dX1_takeOffList_76 : decode cX1_takeOffList 76 = .ok (.isub, 1) := by decide +kernel
theorem dX1_takeOffList_77 : decode cX1_takeOffList 77 = .ok (.putfield 121, 3) := by decide +kernel
theorem dX1_takeOffList_80 : decode cX1_takeOffList 80 = .ok (.iinc 4 1, 3) := by decide +kernel
theorem dX1_takeOffList_83 : decode cX1_takeOffList 83 = .ok (.goto (-50), 3) := by decide +kernel
theorem dX1_takeOffList_86 : decode cX1_takeOffList 86 = .ok (.iload_n 2, 1) := by decide +kernel
theorem dX1_takeOffList_87 : decode cX1_takeOffList 87 = .ok (.ireturn, 1) := by decide +kernel
theorem dX1_faultOfOffering_0 : decode cX1_faultOfOffering 0 = .ok (.iload_n 1, 1) := by decide +kernel
theorem dX1_faultOfOffering_1 : decode cX1_faultOfOffering 1 = .ok (.iconst 1, 1) := by decide +kernel
theorem dX1_faultOfOffering_2 : decode cX1_faultOfOffering 2 = .ok (.if_icmp .lt 9, 3) := by decide +kernel
theorem dX1_faultOfOffering_5 : decode cX1_faultOfOffering 5 = .ok (.iload_n 1, 1) := by decide +kernel
theorem dX1_faultOfOffering_6 : decode cX1_faultOfOffering 6 = .ok (.bipush 50, 2) := by decide +kernel
theorem dX1_faultOfOffering_8 : decode cX1_faultOfOffering 8 = .ok (.if_icmp .le 7, 3) := by decide +kernel
theorem dX1_faultOfOffering_11 : decode cX1_faultOfOffering 11 = .ok (.getstatic 67, 3) := by decide +kernel
theorem dX1_faultOfOffering_14 : decode cX1_faultOfOffering 14 = .ok (.areturn, 1) := by decide +kernel
theorem dX1_faultOfOffering_15 : decode cX1_faultOfOffering 15 = .ok (.aload_n 0, 1) := by decide +kernel
theorem dX1_faultOfOffering_16 : decode cX1_faultOfOffering 16 = .ok (.getfield 38, 3) := by decide +kernel
theorem dX1_faultOfOffering_19 : decode cX1_faultOfOffering 19 = .ok (.ifCond .eq 9, 3) := by decide +kernel
theorem dX1_faultOfOffering_22 : decode cX1_faultOfOffering 22 = .ok (.getstatic 73, 3) := by decide +kernel
theorem dX1_faultOfOffering_25 : decode cX1_faultOfOffering 25 = .ok (.goto 6, 3) := by decide +kernel
theorem dX1_faultOfOffering_28 : decode cX1_faultOfOffering 28 = .ok (.getstatic 70, 3) := by decide +kernel
theorem dX1_faultOfOffering_31 : decode cX1_faultOfOffering 31 = .ok (.areturn, 1) := by decide +kernel
theorem dX1_offer_0 : decode cX1_offer 0 = .ok (.aload_n 0, 1) := by decide +kernel
theorem dX1_offer_1 : decode cX1_offer 1 = .ok (.invokevirtual 142, 3) := by decide +kernel
theorem dX1_offer_4 : decode cX1_offer 4 = .ok (.istore_n 2, 1) := by decide +kernel
theorem dX1_offer_5 : decode cX1_offer 5 = .ok (.iconst 0, 1) := by decide +kernel
theorem dX1_offer_6 : decode cX1_offer 6 = .ok (.istore_n 3, 1) := by decide +kernel
theorem dX1_offer_7 : decode cX1_offer 7 = .ok (.iload_n 3, 1) := by decide +kernel
theorem dX1_offer_8 : decode cX1_offer 8 = .ok (.aload_n 0, 1) := by decide +kernel
theorem dX1_offer_9 : decode cX1_offer 9 = .ok (.getfield 18, 3) := by decide +kernel
theorem dX1_offer_12 : decode cX1_offer 12 = .ok (.if_icmp .ge 19, 3) := by decide +kernel
theorem dX1_offer_15 : decode cX1_offer 15 = .ok (.aload_n 0, 1) := by decide +kernel
theorem dX1_offer_16 : decode cX1_offer 16 = .ok (.getfield 11, 3) := by decide +kernel
theorem dX1_offer_19 : decode cX1_offer 19 = .ok (.iload_n 3, 1) := by decide +kernel
theorem dX1_offer_20 : decode cX1_offer 20 = .ok (.aaload, 1) := by decide +kernel
theorem dX1_offer_21 : decode cX1_offer 21 = .ok (.iconst 0, 1) := by decide +kernel
theorem dX1_offer_22 : decode cX1_offer 22 = .ok (.putfield 145, 3) := by decide +kernel
theorem dX1_offer_25 : decode cX1_offer 25 = .ok (.iinc 3 1, 3) := by decide +kernel
theorem dX1_offer_28 : decode cX1_offer 28 = .ok (.goto (-21), 3) := by decide +kernel
theorem dX1_offer_31 : decode cX1_offer 31 = .ok (.aload_n 0, 1) := by decide +kernel
theorem dX1_offer_32 : decode cX1_offer 32 = .ok (.iload_n 1, 1) := by decide +kernel
theorem dX1_offer_33 : decode cX1_offer 33 = .ok (.putfield 51, 3) := by decide +kernel
theorem dX1_offer_36 : decode cX1_offer 36 = .ok (.iload_n 2, 1) := by decide +kernel
theorem dX1_offer_37 : decode cX1_offer 37 = .ok (.ireturn, 1) := by decide +kernel
theorem dX1_faultOfAccepting_0 : decode cX1_faultOfAccepting 0 = .ok (.aload_n 0, 1) := by decide +kernel
theorem dX1_faultOfAccepting_1 : decode cX1_faultOfAccepting 1 = .ok (.iload_n 1, 1) := by decide +kernel
theorem dX1_faultOfAccepting_2 : decode cX1_faultOfAccepting 2 = .ok (.invokevirtual 127, 3) := by decide +kernel
theorem dX1_faultOfAccepting_5 : decode cX1_faultOfAccepting 5 = .ok (.ifCond .ne 7, 3) := by decide +kernel
theorem dX1_faultOfAccepting_8 : decode cX1_faultOfAccepting 8 = .ok (.getstatic 61, 3) := by decide +kernel
theorem dX1_faultOfAccepting_11 : decode cX1_faultOfAccepting 11 = .ok (.areturn, 1) := by decide +kernel
theorem dX1_faultOfAccepting_12 : decode cX1_faultOfAccepting 12 = .ok (.aload_n 0, 1) := by decide +kernel
theorem dX1_faultOfAccepting_13 : decode cX1_faultOfAccepting 13 = .ok (.getfield 51, 3) := by decide +kernel
theorem dX1_faultOfAccepting_16 : decode cX1_faultOfAccepting 16 = .ok (.ifCond .ne 7, 3) := by decide +kernel
theorem dX1_faultOfAccepting_19 : decode cX1_faultOfAccepting 19 = .ok (.getstatic 139, 3) := by decide +kernel
theorem dX1_faultOfAccepting_22 : decode cX1_faultOfAccepting 22 = .ok (.areturn, 1) := by decide +kernel
theorem dX1_faultOfAccepting_23 : decode cX1_faultOfAccepting 23 = .ok (.aload_n 0, 1) := by decide +kernel
theorem dX1_faultOfAccepting_24 : decode cX1_faultOfAccepting 24 = .ok (.getfield 11, 3) := by decide +kernel
theorem dX1_faultOfAccepting_27 : decode cX1_faultOfAccepting 27 = .ok (.iload_n 1, 1) := by decide +kernel
theorem dX1_faultOfAccepting_28 : decode cX1_faultOfAccepting 28 = .ok (.aaload, 1) := by decide +kernel
theorem dX1_faultOfAccepting_29 : decode cX1_faultOfAccepting 29 = .ok (.getfield 145, 3) := by decide +kernel
theorem dX1_faultOfAccepting_32 : decode cX1_faultOfAccepting 32 = .ok (.ifCond .eq 9, 3) := by decide +kernel
theorem dX1_faultOfAccepting_35 : decode cX1_faultOfAccepting 35 = .ok (.getstatic 70, 3) := by decide +kernel
theorem dX1_faultOfAccepting_38 : decode cX1_faultOfAccepting 38 = .ok (.goto 6, 3) := by decide +kernel
theorem dX1_faultOfAccepting_41 : decode cX1_faultOfAccepting 41 = .ok (.getstatic 73, 3) := by decide +kernel
theorem dX1_faultOfAccepting_44 : decode cX1_faultOfAccepting 44 = .ok (.areturn, 1) := by decide +kernel
theorem dX1_takeAcceptance_0 : decode cX1_takeAcceptance 0 = .ok (.aload_n 0, 1) := by decide +kernel
theorem dX1_takeAcceptance_1 : decode cX1_takeAcceptance 1 = .ok (.getfield 11, 3) := by decide +kernel
theorem dX1_takeAcceptance_4 : decode cX1_takeAcceptance 4 = .ok (.iload_n 1, 1) := by decide +kernel
theorem dX1_takeAcceptance_5 : decode cX1_takeAcceptance 5 = .ok (.aaload, 1) := by decide +kernel
theorem dX1_takeAcceptance_6 : decode cX1_takeAcceptance 6 = .ok (.iconst 1, 1) := by decide +kernel
theorem dX1_takeAcceptance_7 : decode cX1_takeAcceptance 7 = .ok (.putfield 145, 3) := by decide +kernel
theorem dX1_takeAcceptance_10 : decode cX1_takeAcceptance 10 = .ok (.iconst 2, 1) := by decide +kernel
theorem dX1_takeAcceptance_11 : decode cX1_takeAcceptance 11 = .ok (.aload_n 0, 1) := by decide +kernel
theorem dX1_takeAcceptance_12 : decode cX1_takeAcceptance 12 = .ok (.invokevirtual 142, 3) := by decide +kernel
theorem dX1_takeAcceptance_15 : decode cX1_takeAcceptance 15 = .ok (.imul, 1) := by decide +kernel
theorem dX1_takeAcceptance_16 : decode cX1_takeAcceptance 16 = .ok (.aload_n 0, 1) := by decide +kernel
theorem dX1_takeAcceptance_17 : decode cX1_takeAcceptance 17 = .ok (.getfield 18, 3) := by decide +kernel
theorem dX1_takeAcceptance_20 : decode cX1_takeAcceptance 20 = .ok (.if_icmp .le 7, 3) := by decide +kernel
theorem dX1_takeAcceptance_23 : decode cX1_takeAcceptance 23 = .ok (.iconst 1, 1) := by decide +kernel
theorem dX1_takeAcceptance_24 : decode cX1_takeAcceptance 24 = .ok (.goto 4, 3) := by decide +kernel
theorem dX1_takeAcceptance_27 : decode cX1_takeAcceptance 27 = .ok (.iconst 0, 1) := by decide +kernel
theorem dX1_takeAcceptance_28 : decode cX1_takeAcceptance 28 = .ok (.istore_n 2, 1) := by decide +kernel
theorem dX1_takeAcceptance_29 : decode cX1_takeAcceptance 29 = .ok (.iload_n 2, 1) := by decide +kernel
theorem dX1_takeAcceptance_30 : decode cX1_takeAcceptance 30 = .ok (.ifCond .eq 7, 3) := by decide +kernel
theorem dX1_takeAcceptance_33 : decode cX1_takeAcceptance 33 = .ok (.aload_n 0, 1) := by decide +kernel
theorem dX1_takeAcceptance_34 : decode cX1_takeAcceptance 34 = .ok (.invokevirtual 148, 3) := by decide +kernel
theorem dX1_takeAcceptance_37 : decode cX1_takeAcceptance 37 = .ok (.iload_n 2, 1) := by decide +kernel
theorem dX1_takeAcceptance_38 : decode cX1_takeAcceptance 38 = .ok (.ireturn, 1) := by decide +kernel
theorem dX1_settle_0 : decode cX1_settle 0 = .ok (.iconst 0, 1) := by decide +kernel
theorem dX1_settle_1 : decode cX1_settle 1 = .ok (.istore_n 1, 1) := by decide +kernel
theorem dX1_settle_2 : decode cX1_settle 2 = .ok (.iload_n 1, 1) := by decide +kernel
theorem dX1_settle_3 : decode cX1_settle 3 = .ok (.aload_n 0, 1) := by decide +kernel
theorem dX1_settle_4 : decode cX1_settle 4 = .ok (.getfield 18, 3) := by decide +kernel
theorem dX1_settle_7 : decode cX1_settle 7 = .ok (.if_icmp .ge 41, 3) := by decide +kernel
theorem dX1_settle_10 : decode cX1_settle 10 = .ok (.aload_n 0, 1) := by decide +kernel
theorem dX1_settle_11 : decode cX1_settle 11 = .ok (.getfield 11, 3) := by decide +kernel
theorem dX1_settle_14 : decode cX1_settle 14 = .ok (.iload_n 1, 1) := by decide +kernel
theorem dX1_settle_15 : decode cX1_settle 15 = .ok (.aaload, 1) := by decide +kernel
theorem dX1_settle_16 : decode cX1_settle 16 = .ok (.astore_n 2, 1) := by decide +kernel
theorem dX1_settle_17 : decode cX1_settle 17 = .ok (.aload_n 2, 1) := by decide +kernel
theorem dX1_settle_18 : decode cX1_settle 18 = .ok (.aload_n 2, 1) := by decide +kernel
theorem dX1_settle_19 : decode cX1_settle 19 = .ok (.getfield 97, 3) := by decide +kernel
theorem dX1_settle_22 : decode cX1_settle 22 = .ok (.aload_n 0, 1) := by decide +kernel
theorem dX1_settle_23 : decode cX1_settle 23 = .ok (.getfield 51, 3) := by decide +kernel
theorem dX1_settle_26 : decode cX1_settle 26 = .ok (.invokestatic 151, 3) := by decide +kernel
theorem dX1_settle_29 : decode cX1_settle 29 = .ok (.putfield 97, 3) := by decide +kernel
theorem dX1_settle_32 : decode cX1_settle 32 = .ok (.aload_n 2, 1) := by decide +kernel
theorem dX1_settle_33 : decode cX1_settle 33 = .ok (.iconst 0, 1) := by decide +kernel
theorem dX1_settle_34 : decode cX1_settle 34 = .ok (.putfield 145, 3) := by decide +kernel
theorem dX1_settle_37 : decode cX1_settle 37 = .ok (.aload_n 2, 1) := by decide +kernel
theorem dX1_settle_38 : decode cX1_settle 38 = .ok (.iconst (-1), 1) := by decide +kernel
theorem dX1_settle_39 : decode cX1_settle 39 = .ok (.putfield 106, 3) := by decide +kernel
theorem dX1_settle_42 : decode cX1_settle 42 = .ok (.iinc 1 1, 3) := by decide +kernel
theorem dX1_settle_45 : decode cX1_settle 45 = .ok (.goto (-43), 3) := by decide +kernel
theorem dX1_settle_48 : decode cX1_settle 48 = .ok (.aload_n 0, 1) := by decide +kernel
theorem dX1_settle_49 : decode cX1_settle 49 = .ok (.iconst 0, 1) := by decide +kernel
theorem dX1_settle_50 : decode cX1_settle 50 = .ok (.putfield 51, 3) := by decide +kernel
theorem dX1_settle_53 : decode cX1_settle 53 = .ok (.aload_n 0, 1) := by decide +kernel
theorem dX1_settle_54 : decode cX1_settle 54 = .ok (.iconst 0, 1) := by decide +kernel
theorem dX1_settle_55 : decode cX1_settle 55 = .ok (.putfield 38, 3) := by decide +kernel
theorem dX1_settle_58 : decode cX1_settle 58 = .ok (.aload_n 0, 1) := by decide +kernel
theorem dX1_settle_59 : decode cX1_settle 59 = .ok (.dup, 1) := by decide +kernel
theorem dX1_settle_60 : decode cX1_settle 60 = .ok (.getfield 54, 3) := by decide +kernel
theorem dX1_settle_63 : decode cX1_settle 63 = .ok (.iconst 1, 1) := by decide +kernel
theorem dX1_settle_64 : decode cX1_settle 64 = .ok (.iadd, 1) := by decide +kernel
theorem dX1_settle_65 : decode cX1_settle 65 = .ok (.putfield 54, 3) := by decide +kernel
theorem dX1_settle_68 : decode cX1_settle 68 = .ok (.return_, 1) := by decide +kernel
theorem dX1_faultOf_0 : decode cX1_faultOf 0 = .ok (.getstatic 154, 3) := by decide +kernel
theorem dX1_faultOf_3 : decode cX1_faultOf 3 = .ok (.aload_n 1, 1) := by decide +kernel
theorem dX1_faultOf_4 : decode cX1_faultOf 4 = .ok (.getfield 160, 3) := by decide +kernel
theorem dX1_faultOf_7 : decode cX1_faultOf 7 = .ok (.invokevirtual 166, 3) := by decide +kernel
theorem dX1_faultOf_10 : decode cX1_faultOf 10 = .ok (.iaload, 1) := by decide +kernel
theorem dX1_faultOf_11 : decode cX1_faultOf 11 = .ok (.tableswitch 138 1 9 #[49, 62, 75, 84, 93, 98, 107, 120, 129], 49) := by decide +kernel
theorem dX1_faultOf_60 : decode cX1_faultOf 60 = .ok (.aload_n 0, 1) := by decide +kernel
theorem dX1_faultOf_61 : decode cX1_faultOf 61 = .ok (.aload_n 1, 1) := by decide +kernel
theorem dX1_faultOf_62 : decode cX1_faultOf 62 = .ok (.getfield 171, 3) := by decide +kernel
theorem dX1_faultOf_65 : decode cX1_faultOf 65 = .ok (.aload_n 1, 1) := by decide +kernel
theorem dX1_faultOf_66 : decode cX1_faultOf 66 = .ok (.getfield 174, 3) := by decide +kernel
theorem dX1_faultOf_69 : decode cX1_faultOf 69 = .ok (.invokevirtual 177, 3) := by decide +kernel
theorem dX1_faultOf_72 : decode cX1_faultOf 72 = .ok (.areturn, 1) := by decide +kernel
theorem dX1_faultOf_73 : decode cX1_faultOf 73 = .ok (.aload_n 0, 1) := by decide +kernel
theorem dX1_faultOf_74 : decode cX1_faultOf 74 = .ok (.aload_n 1, 1) := by decide +kernel
theorem dX1_faultOf_75 : decode cX1_faultOf 75 = .ok (.getfield 171, 3) := by decide +kernel
theorem dX1_faultOf_78 : decode cX1_faultOf 78 = .ok (.aload_n 1, 1) := by decide +kernel
theorem dX1_faultOf_79 : decode cX1_faultOf 79 = .ok (.getfield 174, 3) := by decide +kernel
theorem dX1_faultOf_82 : decode cX1_faultOf 82 = .ok (.invokevirtual 181, 3) := by decide +kernel
theorem dX1_faultOf_85 : decode cX1_faultOf 85 = .ok (.areturn, 1) := by decide +kernel
theorem dX1_faultOf_86 : decode cX1_faultOf 86 = .ok (.aload_n 0, 1) := by decide +kernel
theorem dX1_faultOf_87 : decode cX1_faultOf 87 = .ok (.aload_n 1, 1) := by decide +kernel
theorem dX1_faultOf_88 : decode cX1_faultOf 88 = .ok (.getfield 174, 3) := by decide +kernel
theorem dX1_faultOf_91 : decode cX1_faultOf 91 = .ok (.invokevirtual 184, 3) := by decide +kernel
theorem dX1_faultOf_94 : decode cX1_faultOf 94 = .ok (.areturn, 1) := by decide +kernel
theorem dX1_faultOf_95 : decode cX1_faultOf 95 = .ok (.aload_n 0, 1) := by decide +kernel
theorem dX1_faultOf_96 : decode cX1_faultOf 96 = .ok (.aload_n 1, 1) := by decide +kernel
theorem dX1_faultOf_97 : decode cX1_faultOf 97 = .ok (.getfield 174, 3) := by decide +kernel
theorem dX1_faultOf_100 : decode cX1_faultOf 100 = .ok (.invokevirtual 188, 3) := by decide +kernel
theorem dX1_faultOf_103 : decode cX1_faultOf 103 = .ok (.areturn, 1) := by decide +kernel
theorem dX1_faultOf_104 : decode cX1_faultOf 104 = .ok (.aload_n 0, 1) := by decide +kernel
theorem dX1_faultOf_105 : decode cX1_faultOf 105 = .ok (.invokevirtual 191, 3) := by decide +kernel
theorem dX1_faultOf_108 : decode cX1_faultOf 108 = .ok (.areturn, 1) := by decide +kernel
theorem dX1_faultOf_109 : decode cX1_faultOf 109 = .ok (.aload_n 0, 1) := by decide +kernel
theorem dX1_faultOf_110 : decode cX1_faultOf 110 = .ok (.aload_n 1, 1) := by decide +kernel
theorem dX1_faultOf_111 : decode cX1_faultOf 111 = .ok (.getfield 174, 3) := by decide +kernel
theorem dX1_faultOf_114 : decode cX1_faultOf 114 = .ok (.invokevirtual 195, 3) := by decide +kernel
theorem dX1_faultOf_117 : decode cX1_faultOf 117 = .ok (.areturn, 1) := by decide +kernel
theorem dX1_faultOf_118 : decode cX1_faultOf 118 = .ok (.aload_n 0, 1) := by decide +kernel
theorem dX1_faultOf_119 : decode cX1_faultOf 119 = .ok (.aload_n 1, 1) := by decide +kernel
theorem dX1_faultOf_120 : decode cX1_faultOf 120 = .ok (.getfield 171, 3) := by decide +kernel
theorem dX1_faultOf_123 : decode cX1_faultOf 123 = .ok (.aload_n 1, 1) := by decide +kernel
theorem dX1_faultOf_124 : decode cX1_faultOf 124 = .ok (.getfield 174, 3) := by decide +kernel
theorem dX1_faultOf_127 : decode cX1_faultOf 127 = .ok (.invokevirtual 198, 3) := by decide +kernel
theorem dX1_faultOf_130 : decode cX1_faultOf 130 = .ok (.areturn, 1) := by decide +kernel
theorem dX1_faultOf_131 : decode cX1_faultOf 131 = .ok (.aload_n 0, 1) := by decide +kernel
theorem dX1_faultOf_132 : decode cX1_faultOf 132 = .ok (.aload_n 1, 1) := by decide +kernel
theorem dX1_faultOf_133 : decode cX1_faultOf 133 = .ok (.getfield 174, 3) := by decide +kernel
theorem dX1_faultOf_136 : decode cX1_faultOf 136 = .ok (.invokevirtual 201, 3) := by decide +kernel
theorem dX1_faultOf_139 : decode cX1_faultOf 139 = .ok (.areturn, 1) := by decide +kernel
theorem dX1_faultOf_140 : decode cX1_faultOf 140 = .ok (.aload_n 0, 1) := by decide +kernel
theorem dX1_faultOf_141 : decode cX1_faultOf 141 = .ok (.aload_n 1, 1) := by decide +kernel
theorem dX1_faultOf_142 : decode cX1_faultOf 142 = .ok (.getfield 174, 3) := by decide +kernel
theorem dX1_faultOf_145 : decode cX1_faultOf 145 = .ok (.invokevirtual 204, 3) := by decide +kernel
theorem dX1_faultOf_148 : decode cX1_faultOf 148 = .ok (.areturn, 1) := by decide +kernel
theorem dX1_faultOf_149 : decode cX1_faultOf 149 = .ok (.aload_n 0, 1) := by decide +kernel
theorem dX1_faultOf_150 : decode cX1_faultOf 150 = .ok (.aload_n 1, 1) := by decide +kernel
theorem dX1_faultOf_151 : decode cX1_faultOf 151 = .ok (.getfield 174, 3) := by decide +kernel
theorem dX1_faultOf_154 : decode cX1_faultOf 154 = .ok (.invokevirtual 207, 3) := by decide +kernel
theorem dX1_faultOf_157 : decode cX1_faultOf 157 = .ok (.areturn, 1) := by decide +kernel
theorem dX1_carryOut_0 : decode cX1_carryOut 0 = .ok (.getstatic 154, 3) := by decide +kernel
theorem dX1_carryOut_3 : decode cX1_carryOut 3 = .ok (.aload_n 1, 1) := by decide +kernel
theorem dX1_carryOut_4 : decode cX1_carryOut 4 = .ok (.getfield 160, 3) := by decide +kernel
theorem dX1_carryOut_7 : decode cX1_carryOut 7 = .ok (.invokevirtual 166, 3) := by decide +kernel
theorem dX1_carryOut_10 : decode cX1_carryOut 10 = .ok (.iaload, 1) := by decide +kernel
theorem dX1_carryOut_11 : decode cX1_carryOut 11 = .ok (.tableswitch 169 1 9 #[49, 65, 81, 93, 109, 117, 129, 145, 157], 49) := by decide +kernel
theorem dX1_carryOut_60 : decode cX1_carryOut 60 = .ok (.aload_n 0, 1) := by decide +kernel
theorem dX1_carryOut_61 : decode cX1_carryOut 61 = .ok (.aload_n 1, 1) := by decide +kernel
theorem dX1_carryOut_62 : decode cX1_carryOut 62 = .ok (.getfield 171, 3) := by decide +kernel
theorem dX1_carryOut_65 : decode cX1_carryOut 65 = .ok (.aload_n 1, 1) := by decide +kernel
theorem dX1_carryOut_66 : decode cX1_carryOut 66 = .ok (.getfield 174, 3) := by decide +kernel
theorem dX1_carryOut_69 : decode cX1_carryOut 69 = .ok (.invokevirtual 210, 3) := by decide +kernel
theorem dX1_carryOut_72 : decode cX1_carryOut 72 = .ok (.pop, 1) := by decide +kernel
theorem dX1_carryOut_73 : decode cX1_carryOut 73 = .ok (.goto 116, 3) := by decide +kernel
theorem dX1_carryOut_76 : decode cX1_carryOut 76 = .ok (.aload_n 0, 1) := by decide +kernel
theorem dX1_carryOut_77 : decode cX1_carryOut 77 = .ok (.aload_n 1, 1) := by decide +kernel
theorem dX1_carryOut_78 : decode cX1_carryOut 78 = .ok (.getfield 171, 3) := by decide +kernel
theorem dX1_carryOut_81 : decode cX1_carryOut 81 = .ok (.aload_n 1, 1) := by decide +kernel
theorem dX1_carryOut_82 : decode cX1_carryOut 82 = .ok (.getfield 174, 3) := by decide +kernel
theorem dX1_carryOut_85 : decode cX1_carryOut 85 = .ok (.invokevirtual 213, 3) := by decide +kernel
theorem dX1_carryOut_88 : decode cX1_carryOut 88 = .ok (.pop, 1) := by decide +kernel
theorem dX1_carryOut_89 : decode cX1_carryOut 89 = .ok (.goto 100, 3) := by decide +kernel
theorem dX1_carryOut_92 : decode cX1_carryOut 92 = .ok (.aload_n 0, 1) := by decide +kernel
theorem dX1_carryOut_93 : decode cX1_carryOut 93 = .ok (.aload_n 1, 1) := by decide +kernel
theorem dX1_carryOut_94 : decode cX1_carryOut 94 = .ok (.getfield 174, 3) := by decide +kernel
theorem dX1_carryOut_97 : decode cX1_carryOut 97 = .ok (.invokevirtual 216, 3) := by decide +kernel
theorem dX1_carryOut_100 : decode cX1_carryOut 100 = .ok (.pop, 1) := by decide +kernel
theorem dX1_carryOut_101 : decode cX1_carryOut 101 = .ok (.goto 88, 3) := by decide +kernel
theorem dX1_carryOut_104 : decode cX1_carryOut 104 = .ok (.aload_n 0, 1) := by decide +kernel
theorem dX1_carryOut_105 : decode cX1_carryOut 105 = .ok (.aload_n 1, 1) := by decide +kernel
theorem dX1_carryOut_106 : decode cX1_carryOut 106 = .ok (.getfield 174, 3) := by decide +kernel
theorem dX1_carryOut_109 : decode cX1_carryOut 109 = .ok (.aload_n 1, 1) := by decide +kernel
theorem dX1_carryOut_110 : decode cX1_carryOut 110 = .ok (.getfield 219, 3) := by decide +kernel
theorem dX1_carryOut_113 : decode cX1_carryOut 113 = .ok (.invokevirtual 222, 3) := by decide +kernel
theorem dX1_carryOut_116 : decode cX1_carryOut 116 = .ok (.pop, 1) := by decide +kernel
theorem dX1_carryOut_117 : decode cX1_carryOut 117 = .ok (.goto 72, 3) := by decide +kernel
theorem dX1_carryOut_120 : decode cX1_carryOut 120 = .ok (.aload_n 0, 1) := by decide +kernel
theorem dX1_carryOut_121 : decode cX1_carryOut 121 = .ok (.invokevirtual 226, 3) := by decide +kernel
theorem dX1_carryOut_124 : decode cX1_carryOut 124 = .ok (.pop, 1) := by decide +kernel
theorem dX1_carryOut_125 : decode cX1_carryOut 125 = .ok (.goto 64, 3) := by decide +kernel
theorem dX1_carryOut_128 : decode cX1_carryOut 128 = .ok (.aload_n 0, 1) := by decide +kernel
theorem dX1_carryOut_129 : decode cX1_carryOut 129 = .ok (.aload_n 1, 1) := by decide +kernel
theorem dX1_carryOut_130 : decode cX1_carryOut 130 = .ok (.getfield 174, 3) := by decide +kernel
theorem dX1_carryOut_133 : decode cX1_carryOut 133 = .ok (.invokevirtual 229, 3) := by decide +kernel
theorem dX1_carryOut_136 : decode cX1_carryOut 136 = .ok (.pop, 1) := by decide +kernel
theorem dX1_carryOut_137 : decode cX1_carryOut 137 = .ok (.goto 52, 3) := by decide +kernel
theorem dX1_carryOut_140 : decode cX1_carryOut 140 = .ok (.aload_n 0, 1) := by decide +kernel
theorem dX1_carryOut_141 : decode cX1_carryOut 141 = .ok (.aload_n 1, 1) := by decide +kernel
theorem dX1_carryOut_142 : decode cX1_carryOut 142 = .ok (.getfield 171, 3) := by decide +kernel
theorem dX1_carryOut_145 : decode cX1_carryOut 145 = .ok (.aload_n 1, 1) := by decide +kernel
theorem dX1_carryOut_146 : decode cX1_carryOut 146 = .ok (.getfield 174, 3) := by decide +kernel
theorem dX1_carryOut_149 : decode cX1_carryOut 149 = .ok (.invokevirtual 232, 3) := by decide +kernel
theorem dX1_carryOut_152 : decode cX1_carryOut 152 = .ok (.pop, 1) := by decide +kernel
theorem dX1_carryOut_153 : decode cX1_carryOut 153 = .ok (.goto 36, 3) := by decide +kernel
theorem dX1_carryOut_156 : decode cX1_carryOut 156 = .ok (.aload_n 0, 1) := by decide +kernel
theorem dX1_carryOut_157 : decode cX1_carryOut 157 = .ok (.aload_n 1, 1) := by decide +kernel
theorem dX1_carryOut_158 : decode cX1_carryOut 158 = .ok (.getfield 174, 3) := by decide +kernel
theorem dX1_carryOut_161 : decode cX1_carryOut 161 = .ok (.invokevirtual 235, 3) := by decide +kernel
theorem dX1_carryOut_164 : decode cX1_carryOut 164 = .ok (.pop, 1) := by decide +kernel
theorem dX1_carryOut_165 : decode cX1_carryOut 165 = .ok (.goto 24, 3) := by decide +kernel
theorem dX1_carryOut_168 : decode cX1_carryOut 168 = .ok (.aload_n 0, 1) := by decide +kernel
theorem dX1_carryOut_169 : decode cX1_carryOut 169 = .ok (.aload_n 1, 1) := by decide +kernel
theorem dX1_carryOut_170 : decode cX1_carryOut 170 = .ok (.getfield 174, 3) := by decide +kernel
theorem dX1_carryOut_173 : decode cX1_carryOut 173 = .ok (.invokevirtual 238, 3) := by decide +kernel
theorem dX1_carryOut_176 : decode cX1_carryOut 176 = .ok (.pop, 1) := by decide +kernel
theorem dX1_carryOut_177 : decode cX1_carryOut 177 = .ok (.goto 12, 3) := by decide +kernel
theorem dX1_carryOut_180 : decode cX1_carryOut 180 = .ok (.aload_n 0, 1) := by decide +kernel
theorem dX1_carryOut_181 : decode cX1_carryOut 181 = .ok (.aload_n 1, 1) := by decide +kernel
theorem dX1_carryOut_182 : decode cX1_carryOut 182 = .ok (.getfield 174, 3) := by decide +kernel
theorem dX1_carryOut_185 : decode cX1_carryOut 185 = .ok (.invokevirtual 241, 3) := by decide +kernel
theorem dX1_carryOut_188 : decode cX1_carryOut 188 = .ok (.pop, 1) := by decide +kernel
theorem dX1_carryOut_189 : decode cX1_carryOut 189 = .ok (.return_, 1) := by decide +kernel
theorem dX1_countOnRoof_0 : decode cX1_countOnRoof 0 = .ok (.iconst 0, 1) := by decide +kernel
theorem dX1_countOnRoof_1 : decode cX1_countOnRoof 1 = .ok (.istore_n 2, 1) := by decide +kernel
theorem dX1_countOnRoof_2 : decode cX1_countOnRoof 2 = .ok (.iconst 0, 1) := by decide +kernel
theorem dX1_countOnRoof_3 : decode cX1_countOnRoof 3 = .ok (.istore_n 3, 1) := by decide +kernel
theorem dX1_countOnRoof_4 : decode cX1_countOnRoof 4 = .ok (.iload_n 3, 1) := by decide +kernel
theorem dX1_countOnRoof_5 : decode cX1_countOnRoof 5 = .ok (.aload_n 0, 1) := by decide +kernel
theorem dX1_countOnRoof_6 : decode cX1_countOnRoof 6 = .ok (.getfield 18, 3) := by decide +kernel
theorem dX1_countOnRoof_9 : decode cX1_countOnRoof 9 = .ok (.if_icmp .ge 25, 3) := by decide +kernel
theorem dX1_countOnRoof_12 : decode cX1_countOnRoof 12 = .ok (.aload_n 0, 1) := by decide +kernel
theorem dX1_countOnRoof_13 : decode cX1_countOnRoof 13 = .ok (.getfield 11, 3) := by decide +kernel
theorem dX1_countOnRoof_16 : decode cX1_countOnRoof 16 = .ok (.iload_n 3, 1) := by decide +kernel
theorem dX1_countOnRoof_17 : decode cX1_countOnRoof 17 = .ok (.aaload, 1) := by decide +kernel
theorem dX1_countOnRoof_18 : decode cX1_countOnRoof 18 = .ok (.getfield 244, 3) := by decide +kernel
theorem dX1_countOnRoof_21 : decode cX1_countOnRoof 21 = .ok (.iload_n 1, 1) := by decide +kernel
theorem dX1_countOnRoof_22 : decode cX1_countOnRoof 22 = .ok (.if_icmp .ne 6, 3) := by decide +kernel
theorem dX1_countOnRoof_25 : decode cX1_countOnRoof 25 = .ok (.iinc 2 1, 3) := by decide +kernel
theorem dX1_countOnRoof_28 : decode cX1_countOnRoof 28 = .ok (.iinc 3 1, 3) := by decide +kernel
theorem dX1_countOnRoof_31 : decode cX1_countOnRoof 31 = .ok (.goto (-27), 3) := by decide +kernel
theorem dX1_countOnRoof_34 : decode cX1_countOnRoof 34 = .ok (.iload_n 2, 1) := by decide +kernel
theorem dX1_countOnRoof_35 : decode cX1_countOnRoof 35 = .ok (.ireturn, 1) := by decide +kernel
theorem dX1_countOnList_0 : decode cX1_countOnList 0 = .ok (.iconst 0, 1) := by decide +kernel
theorem dX1_countOnList_1 : decode cX1_countOnList 1 = .ok (.istore_n 2, 1) := by decide +kernel
theorem dX1_countOnList_2 : decode cX1_countOnList 2 = .ok (.iconst 0, 1) := by decide +kernel
theorem dX1_countOnList_3 : decode cX1_countOnList 3 = .ok (.istore_n 3, 1) := by decide +kernel
theorem dX1_countOnList_4 : decode cX1_countOnList 4 = .ok (.iload_n 3, 1) := by decide +kernel
theorem dX1_countOnList_5 : decode cX1_countOnList 5 = .ok (.aload_n 0, 1) := by decide +kernel
theorem dX1_countOnList_6 : decode cX1_countOnList 6 = .ok (.getfield 18, 3) := by decide +kernel
theorem dX1_countOnList_9 : decode cX1_countOnList 9 = .ok (.if_icmp .ge 25, 3) := by decide +kernel
theorem dX1_countOnList_12 : decode cX1_countOnList 12 = .ok (.aload_n 0, 1) := by decide +kernel
theorem dX1_countOnList_13 : decode cX1_countOnList 13 = .ok (.getfield 11, 3) := by decide +kernel
theorem dX1_countOnList_16 : decode cX1_countOnList 16 = .ok (.iload_n 3, 1) := by decide +kernel
theorem dX1_countOnList_17 : decode cX1_countOnList 17 = .ok (.aaload, 1) := by decide +kernel
theorem dX1_countOnList_18 : decode cX1_countOnList 18 = .ok (.getfield 106, 3) := by decide +kernel
theorem dX1_countOnList_21 : decode cX1_countOnList 21 = .ok (.iload_n 1, 1) := by decide +kernel
theorem dX1_countOnList_22 : decode cX1_countOnList 22 = .ok (.if_icmp .ne 6, 3) := by decide +kernel
theorem dX1_countOnList_25 : decode cX1_countOnList 25 = .ok (.iinc 2 1, 3) := by decide +kernel
theorem dX1_countOnList_28 : decode cX1_countOnList 28 = .ok (.iinc 3 1, 3) := by decide +kernel
theorem dX1_countOnList_31 : decode cX1_countOnList 31 = .ok (.goto (-27), 3) := by decide +kernel
theorem dX1_countOnList_34 : decode cX1_countOnList 34 = .ok (.iload_n 2, 1) := by decide +kernel
theorem dX1_countOnList_35 : decode cX1_countOnList 35 = .ok (.ireturn, 1) := by decide +kernel
theorem dX1_findOnList_0 : decode cX1_findOnList 0 = .ok (.iconst 0, 1) := by decide +kernel
theorem dX1_findOnList_1 : decode cX1_findOnList 1 = .ok (.istore_n 3, 1) := by decide +kernel
theorem dX1_findOnList_2 : decode cX1_findOnList 2 = .ok (.iload_n 3, 1) := by decide +kernel
theorem dX1_findOnList_3 : decode cX1_findOnList 3 = .ok (.aload_n 0, 1) := by decide +kernel
theorem dX1_findOnList_4 : decode cX1_findOnList 4 = .ok (.getfield 18, 3) := by decide +kernel
theorem dX1_findOnList_7 : decode cX1_findOnList 7 = .ok (.if_icmp .ge 37, 3) := by decide +kernel
theorem dX1_findOnList_10 : decode cX1_findOnList 10 = .ok (.aload_n 0, 1) := by decide +kernel
theorem dX1_findOnList_11 : decode cX1_findOnList 11 = .ok (.getfield 11, 3) := by decide +kernel
theorem dX1_findOnList_14 : decode cX1_findOnList 14 = .ok (.iload_n 3, 1) := by decide +kernel
theorem dX1_findOnList_15 : decode cX1_findOnList 15 = .ok (.aaload, 1) := by decide +kernel
theorem dX1_findOnList_16 : decode cX1_findOnList 16 = .ok (.astore 4, 2) := by decide +kernel
theorem dX1_findOnList_18 : decode cX1_findOnList 18 = .ok (.aload 4, 2) := by decide +kernel
theorem dX1_findOnList_20 : decode cX1_findOnList 20 = .ok (.getfield 106, 3) := by decide +kernel
theorem dX1_findOnList_23 : decode cX1_findOnList 23 = .ok (.iload_n 1, 1) := by decide +kernel
theorem dX1_findOnList_24 : decode cX1_findOnList 24 = .ok (.if_icmp .ne 14, 3) := by decide +kernel
theorem dX1_findOnList_27 : decode cX1_findOnList 27 = .ok (.aload 4, 2) := by decide +kernel
theorem dX1_findOnList_29 : decode cX1_findOnList 29 = .ok (.getfield 121, 3) := by decide +kernel
theorem dX1_findOnList_32 : decode cX1_findOnList 32 = .ok (.iload_n 2, 1) := by decide +kernel
theorem dX1_findOnList_33 : decode cX1_findOnList 33 = .ok (.if_icmp .ne 5, 3) := by decide +kernel
theorem dX1_findOnList_36 : decode cX1_findOnList 36 = .ok (.iload_n 3, 1) := by decide +kernel
theorem dX1_findOnList_37 : decode cX1_findOnList 37 = .ok (.ireturn, 1) := by decide +kernel
theorem dX1_findOnList_38 : decode cX1_findOnList 38 = .ok (.iinc 3 1, 3) := by decide +kernel
theorem dX1_findOnList_41 : decode cX1_findOnList 41 = .ok (.goto (-39), 3) := by decide +kernel
theorem dX1_findOnList_44 : decode cX1_findOnList 44 = .ok (.iconst (-1), 1) := by decide +kernel
theorem dX1_findOnList_45 : decode cX1_findOnList 45 = .ok (.ireturn, 1) := by decide +kernel
theorem dX1_countVotesFor_0 : decode cX1_countVotesFor 0 = .ok (.iconst 0, 1) := by decide +kernel
theorem dX1_countVotesFor_1 : decode cX1_countVotesFor 1 = .ok (.istore_n 1, 1) := by decide +kernel
theorem dX1_countVotesFor_2 : decode cX1_countVotesFor 2 = .ok (.iconst 0, 1) := by decide +kernel
theorem dX1_countVotesFor_3 : decode cX1_countVotesFor 3 = .ok (.istore_n 2, 1) := by decide +kernel
theorem dX1_countVotesFor_4 : decode cX1_countVotesFor 4 = .ok (.iload_n 2, 1) := by decide +kernel
theorem dX1_countVotesFor_5 : decode cX1_countVotesFor 5 = .ok (.aload_n 0, 1) := by decide +kernel
theorem dX1_countVotesFor_6 : decode cX1_countVotesFor 6 = .ok (.getfield 18, 3) := by decide +kernel
theorem dX1_countVotesFor_9 : decode cX1_countVotesFor 9 = .ok (.if_icmp .ge 25, 3) := by decide +kernel
theorem dX1_countVotesFor_12 : decode cX1_countVotesFor 12 = .ok (.aload_n 0, 1) := by decide +kernel
theorem dX1_countVotesFor_13 : decode cX1_countVotesFor 13 = .ok (.getfield 11, 3) := by decide +kernel
theorem dX1_countVotesFor_16 : decode cX1_countVotesFor 16 = .ok (.iload_n 2, 1) := by decide +kernel
theorem dX1_countVotesFor_17 : decode cX1_countVotesFor 17 = .ok (.aaload, 1) := by decide +kernel
theorem dX1_countVotesFor_18 : decode cX1_countVotesFor 18 = .ok (.getfield 130, 3) := by decide +kernel
theorem dX1_countVotesFor_21 : decode cX1_countVotesFor 21 = .ok (.iconst 1, 1) := by decide +kernel
theorem dX1_countVotesFor_22 : decode cX1_countVotesFor 22 = .ok (.if_icmp .ne 6, 3) := by decide +kernel
theorem dX1_countVotesFor_25 : decode cX1_countVotesFor 25 = .ok (.iinc 1 1, 3) := by decide +kernel
theorem dX1_countVotesFor_28 : decode cX1_countVotesFor 28 = .ok (.iinc 2 1, 3) := by decide +kernel
theorem dX1_countVotesFor_31 : decode cX1_countVotesFor 31 = .ok (.goto (-27), 3) := by decide +kernel
theorem dX1_countVotesFor_34 : decode cX1_countVotesFor 34 = .ok (.iload_n 1, 1) := by decide +kernel
theorem dX1_countVotesFor_35 : decode cX1_countVotesFor 35 = .ok (.ireturn, 1) := by decide +kernel
theorem dX1_countAcceptances_0 : decode cX1_countAcceptances 0 = .ok (.iconst 0, 1) := by decide +kernel
theorem dX1_countAcceptances_1 : decode cX1_countAcceptances 1 = .ok (.istore_n 1, 1) := by decide +kernel
theorem dX1_countAcceptances_2 : decode cX1_countAcceptances 2 = .ok (.iconst 0, 1) := by decide +kernel
theorem dX1_countAcceptances_3 : decode cX1_countAcceptances 3 = .ok (.istore_n 2, 1) := by decide +kernel
theorem dX1_countAcceptances_4 : decode cX1_countAcceptances 4 = .ok (.iload_n 2, 1) := by decide +kernel
theorem dX1_countAcceptances_5 : decode cX1_countAcceptances 5 = .ok (.aload_n 0, 1) := by decide +kernel
theorem dX1_countAcceptances_6 : decode cX1_countAcceptances 6 = .ok (.getfield 18, 3) := by decide +kernel
theorem dX1_countAcceptances_9 : decode cX1_countAcceptances 9 = .ok (.if_icmp .ge 24, 3) := by decide +kernel
theorem dX1_countAcceptances_12 : decode cX1_countAcceptances 12 = .ok (.aload_n 0, 1) := by decide +kernel
theorem dX1_countAcceptances_13 : decode cX1_countAcceptances 13 = .ok (.getfield 11, 3) := by decide +kernel
theorem dX1_countAcceptances_16 : decode cX1_countAcceptances 16 = .ok (.iload_n 2, 1) := by decide +kernel
theorem dX1_countAcceptances_17 : decode cX1_countAcceptances 17 = .ok (.aaload, 1) := by decide +kernel
theorem dX1_countAcceptances_18 : decode cX1_countAcceptances 18 = .ok (.getfield 145, 3) := by decide +kernel
theorem dX1_countAcceptances_21 : decode cX1_countAcceptances 21 = .ok (.ifCond .eq 6, 3) := by decide +kernel
theorem dX1_countAcceptances_24 : decode cX1_countAcceptances 24 = .ok (.iinc 1 1, 3) := by decide +kernel
theorem dX1_countAcceptances_27 : decode cX1_countAcceptances 27 = .ok (.iinc 2 1, 3) := by decide +kernel
theorem dX1_countAcceptances_30 : decode cX1_countAcceptances 30 = .ok (.goto (-26), 3) := by decide +kernel
theorem dX1_countAcceptances_33 : decode cX1_countAcceptances 33 = .ok (.iload_n 1, 1) := by decide +kernel
theorem dX1_countAcceptances_34 : decode cX1_countAcceptances 34 = .ok (.ireturn, 1) := by decide +kernel
theorem dX1_findRank_0 : decode cX1_findRank 0 = .ok (.iconst 0, 1) := by decide +kernel
theorem dX1_findRank_1 : decode cX1_findRank 1 = .ok (.istore_n 2, 1) := by decide +kernel
theorem dX1_findRank_2 : decode cX1_findRank 2 = .ok (.iload_n 2, 1) := by decide +kernel
theorem dX1_findRank_3 : decode cX1_findRank 3 = .ok (.aload_n 0, 1) := by decide +kernel
theorem dX1_findRank_4 : decode cX1_findRank 4 = .ok (.getfield 18, 3) := by decide +kernel
theorem dX1_findRank_7 : decode cX1_findRank 7 = .ok (.if_icmp .ge 20, 3) := by decide +kernel
theorem dX1_findRank_10 : decode cX1_findRank 10 = .ok (.aload_n 0, 1) := by decide +kernel
theorem dX1_findRank_11 : decode cX1_findRank 11 = .ok (.iload_n 2, 1) := by decide +kernel
theorem dX1_findRank_12 : decode cX1_findRank 12 = .ok (.invokevirtual 247, 3) := by decide +kernel
theorem dX1_findRank_15 : decode cX1_findRank 15 = .ok (.iload_n 1, 1) := by decide +kernel
theorem dX1_findRank_16 : decode cX1_findRank 16 = .ok (.if_icmp .ne 5, 3) := by decide +kernel
theorem dX1_findRank_19 : decode cX1_findRank 19 = .ok (.iload_n 2, 1) := by decide +kernel
theorem dX1_findRank_20 : decode cX1_findRank 20 = .ok (.ireturn, 1) := by decide +kernel
theorem dX1_findRank_21 : decode cX1_findRank 21 = .ok (.iinc 2 1, 3) := by decide +kernel
theorem dX1_findRank_24 : decode cX1_findRank 24 = .ok (.goto (-22), 3) := by decide +kernel
theorem dX1_findRank_27 : decode cX1_findRank 27 = .ok (.iconst (-1), 1) := by decide +kernel
theorem dX1_findRank_28 : decode cX1_findRank 28 = .ok (.ireturn, 1) := by decide +kernel
theorem dX1_rankOf_0 : decode cX1_rankOf 0 = .ok (.iconst 0, 1) := by decide +kernel
theorem dX1_rankOf_1 : decode cX1_rankOf 1 = .ok (.istore_n 2, 1) := by decide +kernel
theorem dX1_rankOf_2 : decode cX1_rankOf 2 = .ok (.iconst 0, 1) := by decide +kernel
theorem dX1_rankOf_3 : decode cX1_rankOf 3 = .ok (.istore_n 3, 1) := by decide +kernel
theorem dX1_rankOf_4 : decode cX1_rankOf 4 = .ok (.iload_n 3, 1) := by decide +kernel
theorem dX1_rankOf_5 : decode cX1_rankOf 5 = .ok (.aload_n 0, 1) := by decide +kernel
theorem dX1_rankOf_6 : decode cX1_rankOf 6 = .ok (.getfield 18, 3) := by decide +kernel
theorem dX1_rankOf_9 : decode cX1_rankOf 9 = .ok (.if_icmp .ge 58, 3) := by decide +kernel
theorem dX1_rankOf_12 : decode cX1_rankOf 12 = .ok (.iload_n 3, 1) := by decide +kernel
theorem dX1_rankOf_13 : decode cX1_rankOf 13 = .ok (.iload_n 1, 1) := by decide +kernel
theorem dX1_rankOf_14 : decode cX1_rankOf 14 = .ok (.if_icmp .ge 21, 3) := by decide +kernel
theorem dX1_rankOf_17 : decode cX1_rankOf 17 = .ok (.aload_n 0, 1) := by decide +kernel
theorem dX1_rankOf_18 : decode cX1_rankOf 18 = .ok (.getfield 11, 3) := by decide +kernel
theorem dX1_rankOf_21 : decode cX1_rankOf 21 = .ok (.iload_n 3, 1) := by decide +kernel
theorem dX1_rankOf_22 : decode cX1_rankOf 22 = .ok (.aaload, 1) := by decide +kernel
theorem dX1_rankOf_23 : decode cX1_rankOf 23 = .ok (.aload_n 0, 1) := by decide +kernel
theorem dX1_rankOf_24 : decode cX1_rankOf 24 = .ok (.getfield 11, 3) := by decide +kernel
theorem dX1_rankOf_27 : decode cX1_rankOf 27 = .ok (.iload_n 1, 1) := by decide +kernel
theorem dX1_rankOf_28 : decode cX1_rankOf 28 = .ok (.aaload, 1) := by decide +kernel
theorem dX1_rankOf_29 : decode cX1_rankOf 29 = .ok (.invokevirtual 250, 3) := by decide +kernel
theorem dX1_rankOf_32 : decode cX1_rankOf 32 = .ok (.ifCond .ne 26, 3) := by decide +kernel
theorem dX1_rankOf_35 : decode cX1_rankOf 35 = .ok (.iload_n 3, 1) := by decide +kernel
theorem dX1_rankOf_36 : decode cX1_rankOf 36 = .ok (.iload_n 1, 1) := by decide +kernel
theorem dX1_rankOf_37 : decode cX1_rankOf 37 = .ok (.if_icmp .le 24, 3) := by decide +kernel
theorem dX1_rankOf_40 : decode cX1_rankOf 40 = .ok (.aload_n 0, 1) := by decide +kernel
theorem dX1_rankOf_41 : decode cX1_rankOf 41 = .ok (.getfield 11, 3) := by decide +kernel
theorem dX1_rankOf_44 : decode cX1_rankOf 44 = .ok (.iload_n 1, 1) := by decide +kernel
theorem dX1_rankOf_45 : decode cX1_rankOf 45 = .ok (.aaload, 1) := by decide +kernel
theorem dX1_rankOf_46 : decode cX1_rankOf 46 = .ok (.aload_n 0, 1) := by decide +kernel
theorem dX1_rankOf_47 : decode cX1_rankOf 47 = .ok (.getfield 11, 3) := by decide +kernel
theorem dX1_rankOf_50 : decode cX1_rankOf 50 = .ok (.iload_n 3, 1) := by decide +kernel
theorem dX1_rankOf_51 : decode cX1_rankOf 51 = .ok (.aaload, 1) := by decide +kernel
theorem dX1_rankOf_52 : decode cX1_rankOf 52 = .ok (.invokevirtual 250, 3) := by decide +kernel
theorem dX1_rankOf_55 : decode cX1_rankOf 55 = .ok (.ifCond .ne 6, 3) := by decide +kernel
theorem dX1_rankOf_58 : decode cX1_rankOf 58 = .ok (.iinc 2 1, 3) := by decide +kernel
theorem dX1_rankOf_61 : decode cX1_rankOf 61 = .ok (.iinc 3 1, 3) := by decide +kernel
theorem dX1_rankOf_64 : decode cX1_rankOf 64 = .ok (.goto (-60), 3) := by decide +kernel
theorem dX1_rankOf_67 : decode cX1_rankOf 67 = .ok (.iload_n 2, 1) := by decide +kernel
theorem dX1_rankOf_68 : decode cX1_rankOf 68 = .ok (.ireturn, 1) := by decide +kernel
theorem dX1_divideFund_0 : decode cX1_divideFund 0 = .ok (.aload_n 0, 1) := by decide +kernel
theorem dX1_divideFund_1 : decode cX1_divideFund 1 = .ok (.getfield 18, 3) := by decide +kernel
theorem dX1_divideFund_4 : decode cX1_divideFund 4 = .ok (.ifCond .ne 7, 3) := by decide +kernel
theorem dX1_divideFund_7 : decode cX1_divideFund 7 = .ok (.iconst 0, 1) := by decide +kernel
theorem dX1_divideFund_8 : decode cX1_divideFund 8 = .ok (.goto 14, 3) := by decide +kernel
theorem dX1_divideFund_11 : decode cX1_divideFund 11 = .ok (.aload_n 0, 1) := by decide +kernel
theorem dX1_divideFund_12 : decode cX1_divideFund 12 = .ok (.getfield 48, 3) := by decide +kernel
theorem dX1_divideFund_15 : decode cX1_divideFund 15 = .ok (.iconst 2, 1) := by decide +kernel
theorem dX1_divideFund_16 : decode cX1_divideFund 16 = .ok (.aload_n 0, 1) := by decide +kernel
theorem dX1_divideFund_17 : decode cX1_divideFund 17 = .ok (.getfield 18, 3) := by decide +kernel
theorem dX1_divideFund_20 : decode cX1_divideFund 20 = .ok (.imul, 1) := by decide +kernel
theorem dX1_divideFund_21 : decode cX1_divideFund 21 = .ok (.idiv, 1) := by decide +kernel
theorem dX1_divideFund_22 : decode cX1_divideFund 22 = .ok (.ireturn, 1) := by decide +kernel
theorem dX1_payOutCopyOfFund_0 : decode cX1_payOutCopyOfFund 0 = .ok (.aload_n 0, 1) := by decide +kernel
theorem dX1_payOutCopyOfFund_1 : decode cX1_payOutCopyOfFund 1 = .ok (.getfield 48, 3) := by decide +kernel
theorem dX1_payOutCopyOfFund_4 : decode cX1_payOutCopyOfFund 4 = .ok (.istore_n 1, 1) := by decide +kernel
theorem dX1_payOutCopyOfFund_5 : decode cX1_payOutCopyOfFund 5 = .ok (.iconst 0, 1) := by decide +kernel
theorem dX1_payOutCopyOfFund_6 : decode cX1_payOutCopyOfFund 6 = .ok (.istore_n 2, 1) := by decide +kernel
theorem dX1_payOutCopyOfFund_7 : decode cX1_payOutCopyOfFund 7 = .ok (.iload_n 2, 1) := by decide +kernel
theorem dX1_payOutCopyOfFund_8 : decode cX1_payOutCopyOfFund 8 = .ok (.sipush 9999, 3) := by decide +kernel
theorem dX1_payOutCopyOfFund_11 : decode cX1_payOutCopyOfFund 11 = .ok (.if_icmp .ge 35, 3) := by decide +kernel
theorem dX1_payOutCopyOfFund_14 : decode cX1_payOutCopyOfFund 14 = .ok (.iconst 0, 1) := by decide +kernel
theorem dX1_payOutCopyOfFund_15 : decode cX1_payOutCopyOfFund 15 = .ok (.istore_n 3, 1) := by decide +kernel
theorem dX1_payOutCopyOfFund_16 : decode cX1_payOutCopyOfFund 16 = .ok (.iload_n 3, 1) := by decide +kernel
theorem dX1_payOutCopyOfFund_17 : decode cX1_payOutCopyOfFund 17 = .ok (.aload_n 0, 1) := by decide +kernel
theorem dX1_payOutCopyOfFund_18 : decode cX1_payOutCopyOfFund 18 = .ok (.getfield 18, 3) := by decide +kernel
theorem dX1_payOutCopyOfFund_21 : decode cX1_payOutCopyOfFund 21 = .ok (.if_icmp .ge 19, 3) := by decide +kernel
theorem dX1_payOutCopyOfFund_24 : decode cX1_payOutCopyOfFund 24 = .ok (.iload_n 1, 1) := by decide +kernel
theorem dX1_payOutCopyOfFund_25 : decode cX1_payOutCopyOfFund 25 = .ok (.iconst 2, 1) := by decide +kernel
theorem dX1_payOutCopyOfFund_26 : decode cX1_payOutCopyOfFund 26 = .ok (.if_icmp .ge 5, 3) := by decide +kernel
theorem dX1_payOutCopyOfFund_29 : decode cX1_payOutCopyOfFund 29 = .ok (.iload_n 2, 1) := by decide +kernel
theorem dX1_payOutCopyOfFund_30 : decode cX1_payOutCopyOfFund 30 = .ok (.ireturn, 1) := by decide +kernel
theorem dX1_payOutCopyOfFund_31 : decode cX1_payOutCopyOfFund 31 = .ok (.iinc 1 (-2), 3) := by decide +kernel
theorem dX1_payOutCopyOfFund_34 : decode cX1_payOutCopyOfFund 34 = .ok (.iinc 3 1, 3) := by decide +kernel
theorem dX1_payOutCopyOfFund_37 : decode cX1_payOutCopyOfFund 37 = .ok (.goto (-21), 3) := by decide +kernel
theorem dX1_payOutCopyOfFund_40 : decode cX1_payOutCopyOfFund 40 = .ok (.iinc 2 1, 3) := by decide +kernel
theorem dX1_payOutCopyOfFund_43 : decode cX1_payOutCopyOfFund 43 = .ok (.goto (-36), 3) := by decide +kernel
theorem dX1_payOutCopyOfFund_46 : decode cX1_payOutCopyOfFund 46 = .ok (.iconst 0, 1) := by decide +kernel
theorem dX1_payOutCopyOfFund_47 : decode cX1_payOutCopyOfFund 47 = .ok (.ireturn, 1) := by decide +kernel
theorem dX1_sumWages_0 : decode cX1_sumWages 0 = .ok (.lconst 0, 1) := by decide +kernel
theorem dX1_sumWages_1 : decode cX1_sumWages 1 = .ok (.lstore_n 1, 1) := by decide +kernel
theorem dX1_sumWages_2 : decode cX1_sumWages 2 = .ok (.iconst 0, 1) := by decide +kernel
theorem dX1_sumWages_3 : decode cX1_sumWages 3 = .ok (.istore_n 3, 1) := by decide +kernel
theorem dX1_sumWages_4 : decode cX1_sumWages 4 = .ok (.iload_n 3, 1) := by decide +kernel
theorem dX1_sumWages_5 : decode cX1_sumWages 5 = .ok (.aload_n 0, 1) := by decide +kernel
theorem dX1_sumWages_6 : decode cX1_sumWages 6 = .ok (.getfield 18, 3) := by decide +kernel
theorem dX1_sumWages_9 : decode cX1_sumWages 9 = .ok (.if_icmp .ge 22, 3) := by decide +kernel
theorem dX1_sumWages_12 : decode cX1_sumWages 12 = .ok (.lload_n 1, 1) := by decide +kernel
theorem dX1_sumWages_13 : decode cX1_sumWages 13 = .ok (.aload_n 0, 1) := by decide +kernel
theorem dX1_sumWages_14 : decode cX1_sumWages 14 = .ok (.getfield 11, 3) := by decide +kernel
theorem dX1_sumWages_17 : decode cX1_sumWages 17 = .ok (.iload_n 3, 1) := by decide +kernel
theorem dX1_sumWages_18 : decode cX1_sumWages 18 = .ok (.aaload, 1) := by decide +kernel
theorem dX1_sumWages_19 : decode cX1_sumWages 19 = .ok (.getfield 94, 3) := by decide +kernel
theorem dX1_sumWages_22 : decode cX1_sumWages 22 = .ok (.i2l, 1) := by decide +kernel
theorem dX1_sumWages_23 : decode cX1_sumWages 23 = .ok (.ladd, 1) := by decide +kernel
theorem dX1_sumWages_24 : decode cX1_sumWages 24 = .ok (.lstore_n 1, 1) := by decide +kernel
theorem dX1_sumWages_25 : decode cX1_sumWages 25 = .ok (.iinc 3 1, 3) := by decide +kernel
theorem dX1_sumWages_28 : decode cX1_sumWages 28 = .ok (.goto (-24), 3) := by decide +kernel
theorem dX1_sumWages_31 : decode cX1_sumWages 31 = .ok (.lload_n 1, 1) := by decide +kernel
theorem dX1_sumWages_32 : decode cX1_sumWages 32 = .ok (.lreturn, 1) := by decide +kernel
theorem dX1_sumLostByMembers_0 : decode cX1_sumLostByMembers 0 = .ok (.iconst 0, 1) := by decide +kernel
theorem dX1_sumLostByMembers_1 : decode cX1_sumLostByMembers 1 = .ok (.istore_n 1, 1) := by decide +kernel
theorem dX1_sumLostByMembers_2 : decode cX1_sumLostByMembers 2 = .ok (.iconst 0, 1) := by decide +kernel
theorem dX1_sumLostByMembers_3 : decode cX1_sumLostByMembers 3 = .ok (.istore_n 2, 1) := by decide +kernel
theorem dX1_sumLostByMembers_4 : decode cX1_sumLostByMembers 4 = .ok (.iload_n 2, 1) := by decide +kernel
theorem dX1_sumLostByMembers_5 : decode cX1_sumLostByMembers 5 = .ok (.aload_n 0, 1) := by decide +kernel
theorem dX1_sumLostByMembers_6 : decode cX1_sumLostByMembers 6 = .ok (.getfield 18, 3) := by decide +kernel
theorem dX1_sumLostByMembers_9 : decode cX1_sumLostByMembers 9 = .ok (.if_icmp .ge 21, 3) := by decide +kernel
theorem dX1_sumLostByMembers_12 : decode cX1_sumLostByMembers 12 = .ok (.iload_n 1, 1) := by decide +kernel
theorem dX1_sumLostByMembers_13 : decode cX1_sumLostByMembers 13 = .ok (.aload_n 0, 1) := by decide +kernel
theorem dX1_sumLostByMembers_14 : decode cX1_sumLostByMembers 14 = .ok (.getfield 11, 3) := by decide +kernel
theorem dX1_sumLostByMembers_17 : decode cX1_sumLostByMembers 17 = .ok (.iload_n 2, 1) := by decide +kernel
theorem dX1_sumLostByMembers_18 : decode cX1_sumLostByMembers 18 = .ok (.aaload, 1) := by decide +kernel
theorem dX1_sumLostByMembers_19 : decode cX1_sumLostByMembers 19 = .ok (.getfield 100, 3) := by decide +kernel
theorem dX1_sumLostByMembers_22 : decode cX1_sumLostByMembers 22 = .ok (.iadd, 1) := by decide +kernel
theorem dX1_sumLostByMembers_23 : decode cX1_sumLostByMembers 23 = .ok (.istore_n 1, 1) := by decide +kernel
theorem dX1_sumLostByMembers_24 : decode cX1_sumLostByMembers 24 = .ok (.iinc 2 1, 3) := by decide +kernel
theorem dX1_sumLostByMembers_27 : decode cX1_sumLostByMembers 27 = .ok (.goto (-23), 3) := by decide +kernel
theorem dX1_sumLostByMembers_30 : decode cX1_sumLostByMembers 30 = .ok (.iload_n 1, 1) := by decide +kernel
theorem dX1_sumLostByMembers_31 : decode cX1_sumLostByMembers 31 = .ok (.ireturn, 1) := by decide +kernel
theorem dX1_sumLostByRoofs_0 : decode cX1_sumLostByRoofs 0 = .ok (.iconst 0, 1) := by decide +kernel
theorem dX1_sumLostByRoofs_1 : decode cX1_sumLostByRoofs 1 = .ok (.istore_n 1, 1) := by decide +kernel
theorem dX1_sumLostByRoofs_2 : decode cX1_sumLostByRoofs 2 = .ok (.iconst 0, 1) := by decide +kernel
theorem dX1_sumLostByRoofs_3 : decode cX1_sumLostByRoofs 3 = .ok (.istore_n 2, 1) := by decide +kernel
theorem dX1_sumLostByRoofs_4 : decode cX1_sumLostByRoofs 4 = .ok (.iload_n 2, 1) := by decide +kernel
theorem dX1_sumLostByRoofs_5 : decode cX1_sumLostByRoofs 5 = .ok (.bipush 10, 2) := by decide +kernel
theorem dX1_sumLostByRoofs_7 : decode cX1_sumLostByRoofs 7 = .ok (.if_icmp .ge 50, 3) := by decide +kernel
theorem dX1_sumLostByRoofs_10 : decode cX1_sumLostByRoofs 10 = .ok (.iconst 0, 1) := by decide +kernel
theorem dX1_sumLostByRoofs_11 : decode cX1_sumLostByRoofs 11 = .ok (.istore_n 3, 1) := by decide +kernel
theorem dX1_sumLostByRoofs_12 : decode cX1_sumLostByRoofs 12 = .ok (.iload_n 3, 1) := by decide +kernel
theorem dX1_sumLostByRoofs_13 : decode cX1_sumLostByRoofs 13 = .ok (.aload_n 0, 1) := by decide +kernel
theorem dX1_sumLostByRoofs_14 : decode cX1_sumLostByRoofs 14 = .ok (.getfield 18, 3) := by decide +kernel
theorem dX1_sumLostByRoofs_17 : decode cX1_sumLostByRoofs 17 = .ok (.if_icmp .ge 34, 3) := by decide +kernel
theorem dX1_sumLostByRoofs_20 : decode cX1_sumLostByRoofs 20 = .ok (.aload_n 0, 1) := by decide +kernel
theorem dX1_sumLostByRoofs_21 : decode cX1_sumLostByRoofs 21 = .ok (.getfield 11, 3) := by decide +kernel
theorem dX1_sumLostByRoofs_24 : decode cX1_sumLostByRoofs 24 = .ok (.iload_n 3, 1) := by decide +kernel
theorem dX1_sumLostByRoofs_25 : decode cX1_sumLostByRoofs 25 = .ok (.aaload, 1) := by decide +kernel
theorem dX1_sumLostByRoofs_26 : decode cX1_sumLostByRoofs 26 = .ok (.getfield 244, 3) := by decide +kernel
theorem dX1_sumLostByRoofs_29 : decode cX1_sumLostByRoofs 29 = .ok (.iload_n 2, 1) := by decide +kernel
theorem dX1_sumLostByRoofs_30 : decode cX1_sumLostByRoofs 30 = .ok (.if_icmp .ne 15, 3) := by decide +kernel
theorem dX1_sumLostByRoofs_33 : decode cX1_sumLostByRoofs 33 = .ok (.iload_n 1, 1) := by decide +kernel
theorem dX1_sumLostByRoofs_34 : decode cX1_sumLostByRoofs 34 = .ok (.aload_n 0, 1) := by decide +kernel
theorem dX1_sumLostByRoofs_35 : decode cX1_sumLostByRoofs 35 = .ok (.getfield 11, 3) := by decide +kernel
theorem dX1_sumLostByRoofs_38 : decode cX1_sumLostByRoofs 38 = .ok (.iload_n 3, 1) := by decide +kernel
theorem dX1_sumLostByRoofs_39 : decode cX1_sumLostByRoofs 39 = .ok (.aaload, 1) := by decide +kernel
theorem dX1_sumLostByRoofs_40 : decode cX1_sumLostByRoofs 40 = .ok (.getfield 100, 3) := by decide +kernel
theorem dX1_sumLostByRoofs_43 : decode cX1_sumLostByRoofs 43 = .ok (.iadd, 1) := by decide +kernel
theorem dX1_sumLostByRoofs_44 : decode cX1_sumLostByRoofs 44 = .ok (.istore_n 1, 1) := by decide +kernel
theorem dX1_sumLostByRoofs_45 : decode cX1_sumLostByRoofs 45 = .ok (.iinc 3 1, 3) := by decide +kernel
theorem dX1_sumLostByRoofs_48 : decode cX1_sumLostByRoofs 48 = .ok (.goto (-36), 3) := by decide +kernel
theorem dX1_sumLostByRoofs_51 : decode cX1_sumLostByRoofs 51 = .ok (.iinc 2 1, 3) := by decide +kernel
theorem dX1_sumLostByRoofs_54 : decode cX1_sumLostByRoofs 54 = .ok (.goto (-50), 3) := by decide +kernel
theorem dX1_sumLostByRoofs_57 : decode cX1_sumLostByRoofs 57 = .ok (.iload_n 1, 1) := by decide +kernel
theorem dX1_sumLostByRoofs_58 : decode cX1_sumLostByRoofs 58 = .ok (.ireturn, 1) := by decide +kernel
theorem dX2_init_0 : decode cX2_init 0 = .ok (.aload_n 0, 1) := by decide +kernel
theorem dX2_init_1 : decode cX2_init 1 = .ok (.invokespecial 1, 3) := by decide +kernel
theorem dX2_init_4 : decode cX2_init 4 = .ok (.aload_n 0, 1) := by decide +kernel
theorem dX2_init_5 : decode cX2_init 5 = .ok (.getstatic 7, 3) := by decide +kernel
theorem dX2_init_8 : decode cX2_init 8 = .ok (.putfield 13, 3) := by decide +kernel
theorem dX2_init_11 : decode cX2_init 11 = .ok (.return_, 1) := by decide +kernel
theorem dX3_init_0 : decode cX3_init 0 = .ok (.aload_n 0, 1) := by decide +kernel
theorem dX3_init_1 : decode cX3_init 1 = .ok (.invokespecial 3, 3) := by decide +kernel
theorem dX3_init_4 : decode cX3_init 4 = .ok (.aload_n 0, 1) := by decide +kernel
theorem dX3_init_5 : decode cX3_init 5 = .ok (.new 9, 3) := by decide +kernel
theorem dX3_init_8 : decode cX3_init 8 = .ok (.dup, 1) := by decide +kernel
theorem dX3_init_9 : decode cX3_init 9 = .ok (.invokespecial 11, 3) := by decide +kernel
theorem dX3_init_12 : decode cX3_init 12 = .ok (.putfield 12, 3) := by decide +kernel
theorem dX3_init_15 : decode cX3_init 15 = .ok (.aload_n 0, 1) := by decide +kernel
theorem dX3_init_16 : decode cX3_init 16 = .ok (.bipush 11, 2) := by decide +kernel
theorem dX3_init_18 : decode cX3_init 18 = .ok (.anewarray 18, 3) := by decide +kernel
theorem dX3_init_21 : decode cX3_init 21 = .ok (.putfield 20, 3) := by decide +kernel
theorem dX3_init_24 : decode cX3_init 24 = .ok (.iconst 0, 1) := by decide +kernel
theorem dX3_init_25 : decode cX3_init 25 = .ok (.istore_n 1, 1) := by decide +kernel
theorem dX3_init_26 : decode cX3_init 26 = .ok (.iload_n 1, 1) := by decide +kernel
theorem dX3_init_27 : decode cX3_init 27 = .ok (.bipush 11, 2) := by decide +kernel
theorem dX3_init_29 : decode cX3_init 29 = .ok (.if_icmp .ge 22, 3) := by decide +kernel
theorem dX3_init_32 : decode cX3_init 32 = .ok (.aload_n 0, 1) := by decide +kernel
theorem dX3_init_33 : decode cX3_init 33 = .ok (.getfield 20, 3) := by decide +kernel
theorem dX3_init_36 : decode cX3_init 36 = .ok (.iload_n 1, 1) := by decide +kernel
theorem dX3_init_37 : decode cX3_init 37 = .ok (.new 18, 3) := by decide +kernel
theorem dX3_init_40 : decode cX3_init 40 = .ok (.dup, 1) := by decide +kernel
theorem dX3_init_41 : decode cX3_init 41 = .ok (.invokespecial 24, 3) := by decide +kernel
theorem dX3_init_44 : decode cX3_init 44 = .ok (.aastore, 1) := by decide +kernel
theorem dX3_init_45 : decode cX3_init 45 = .ok (.iinc 1 1, 3) := by decide +kernel
theorem dX3_init_48 : decode cX3_init 48 = .ok (.goto (-22), 3) := by decide +kernel
theorem dX3_init_51 : decode cX3_init 51 = .ok (.return_, 1) := by decide +kernel
theorem dX3_readText_0 : decode cX3_readText 0 = .ok (.aload_n 0, 1) := by decide +kernel
theorem dX3_readText_1 : decode cX3_readText 1 = .ok (.iconst 0, 1) := by decide +kernel
theorem dX3_readText_2 : decode cX3_readText 2 = .ok (.putfield 25, 3) := by decide +kernel
theorem dX3_readText_5 : decode cX3_readText 5 = .ok (.aload_n 0, 1) := by decide +kernel
theorem dX3_readText_6 : decode cX3_readText 6 = .ok (.iconst 0, 1) := by decide +kernel
theorem dX3_readText_7 : decode cX3_readText 7 = .ok (.putfield 29, 3) := by decide +kernel
theorem dX3_readText_10 : decode cX3_readText 10 = .ok (.aload_n 0, 1) := by decide +kernel
theorem dX3_readText_11 : decode cX3_readText 11 = .ok (.getfield 29, 3) := by decide +kernel
theorem dX3_readText_14 : decode cX3_readText 14 = .ok (.bipush 11, 2) := by decide +kernel
theorem dX3_readText_16 : decode cX3_readText 16 = .ok (.if_icmp .ge 58, 3) := by decide +kernel
theorem dX3_readText_19 : decode cX3_readText 19 = .ok (.aload_n 0, 1) := by decide +kernel
theorem dX3_readText_20 : decode cX3_readText 20 = .ok (.aload_n 0, 1) := by decide +kernel
theorem dX3_readText_21 : decode cX3_readText 21 = .ok (.getfield 20, 3) := by decide +kernel
theorem dX3_readText_24 : decode cX3_readText 24 = .ok (.aload_n 0, 1) := by decide +kernel
theorem dX3_readText_25 : decode cX3_readText 25 = .ok (.getfield 29, 3) := by decide +kernel
theorem dX3_readText_28 : decode cX3_readText 28 = .ok (.aaload, 1) := by decide +kernel
theorem dX3_readText_29 : decode cX3_readText 29 = .ok (.invokevirtual 32, 3) := by decide +kernel
theorem dX3_readText_32 : decode cX3_readText 32 = .ok (.ifCond .ne 5, 3) := by decide +kernel
theorem dX3_readText_35 : decode cX3_readText 35 = .ok (.iconst 0, 1) := by decide +kernel
theorem dX3_readText_36 : decode cX3_readText 36 = .ok (.ireturn, 1) := by decide +kernel
theorem dX3_readText_37 : decode cX3_readText 37 = .ok (.aload_n 0, 1) := by decide +kernel
theorem dX3_readText_38 : decode cX3_readText 38 = .ok (.dup, 1) := by decide +kernel
theorem dX3_readText_39 : decode cX3_readText 39 = .ok (.getfield 29, 3) := by decide +kernel
theorem dX3_readText_42 : decode cX3_readText 42 = .ok (.iconst 1, 1) := by decide +kernel
theorem dX3_readText_43 : decode cX3_readText 43 = .ok (.iadd, 1) := by decide +kernel
theorem dX3_readText_44 : decode cX3_readText 44 = .ok (.putfield 29, 3) := by decide +kernel
theorem dX3_readText_47 : decode cX3_readText 47 = .ok (.aload_n 0, 1) := by decide +kernel
theorem dX3_readText_48 : decode cX3_readText 48 = .ok (.getfield 25, 3) := by decide +kernel
theorem dX3_readText_51 : decode cX3_readText 51 = .ok (.aload_n 0, 1) := by decide +kernel
theorem dX3_readText_52 : decode cX3_readText 52 = .ok (.getfield 12, 3) := by decide +kernel
theorem dX3_readText_55 : decode cX3_readText 55 = .ok (.invokevirtual 36, 3) := by decide +kernel
theorem dX3_readText_58 : decode cX3_readText 58 = .ok (.if_icmp .lt 5, 3) := by decide +kernel
theorem dX3_readText_61 : decode cX3_readText 61 = .ok (.iconst 1, 1) := by decide +kernel
theorem dX3_readText_62 : decode cX3_readText 62 = .ok (.ireturn, 1) := by decide +kernel
theorem dX3_readText_63 : decode cX3_readText 63 = .ok (.aload_n 0, 1) := by decide +kernel
theorem dX3_readText_64 : decode cX3_readText 64 = .ok (.bipush 59, 2) := by decide +kernel
theorem dX3_readText_66 : decode cX3_readText 66 = .ok (.invokevirtual 40, 3) := by decide +kernel
theorem dX3_readText_69 : decode cX3_readText 69 = .ok (.ifCond .ne (-59), 3) := by decide +kernel
theorem dX3_readText_72 : decode cX3_readText 72 = .ok (.iconst 0, 1) := by decide +kernel
theorem dX3_readText_73 : decode cX3_readText 73 = .ok (.ireturn, 1) := by decide +kernel
theorem dX3_readText_74 : decode cX3_readText 74 = .ok (.iconst 0, 1) := by decide +kernel
theorem dX3_readText_75 : decode cX3_readText 75 = .ok (.ireturn, 1) := by decide +kernel
theorem dX3_readCommand_0 : decode cX3_readCommand 0 = .ok (.aload_n 0, 1) := by decide +kernel
theorem dX3_readCommand_1 : decode cX3_readCommand 1 = .ok (.invokevirtual 44, 3) := by decide +kernel
theorem dX3_readCommand_4 : decode cX3_readCommand 4 = .ok (.astore_n 2, 1) := by decide +kernel
theorem dX3_readCommand_5 : decode cX3_readCommand 5 = .ok (.aload_n 2, 1) := by decide +kernel
theorem dX3_readCommand_6 : decode cX3_readCommand 6 = .ok (.ifnonnull 5, 3) := by decide +kernel
theorem dX3_readCommand_9 : decode cX3_readCommand 9 = .ok (.iconst 0, 1) := by decide +kernel
theorem dX3_readCommand_10 : decode cX3_readCommand 10 = .ok (.ireturn, 1) := by decide +kernel
theorem dX3_readCommand_11 : decode cX3_readCommand 11 = .ok (.aload_n 1, 1) := by decide +kernel
theorem dX3_readCommand_12 : decode cX3_readCommand 12 = .ok (.aload_n 2, 1) := by decide +kernel
theorem dX3_readCommand_13 : decode cX3_readCommand 13 = .ok (.putfield 48, 3) := by decide +kernel
theorem dX3_readCommand_16 : decode cX3_readCommand 16 = .ok (.aload_n 2, 1) := by decide +kernel
theorem dX3_readCommand_17 : decode cX3_readCommand 17 = .ok (.getfield 52, 3) := by decide +kernel
theorem dX3_readCommand_20 : decode cX3_readCommand 20 = .ok (.ifCond .eq 22, 3) := by decide +kernel
theorem dX3_readCommand_23 : decode cX3_readCommand 23 = .ok (.aload_n 0, 1) := by decide +kernel
theorem dX3_readCommand_24 : decode cX3_readCommand 24 = .ok (.aload_n 1, 1) := by decide +kernel
theorem dX3_readCommand_25 : decode cX3_readCommand 25 = .ok (.invokevirtual 58, 3) := by decide +kernel
theorem dX3_readCommand_28 : decode cX3_readCommand 28 = .ok (.ifCond .eq 12, 3) := by decide +kernel
theorem dX3_readCommand_31 : decode cX3_readCommand 31 = .ok (.aload_n 0, 1) := by decide +kernel
theorem dX3_readCommand_32 : decode cX3_readCommand 32 = .ok (.bipush 32, 2) := by decide +kernel
theorem dX3_readCommand_34 : decode cX3_readCommand 34 = .ok (.invokevirtual 40, 3) := by decide +kernel
theorem dX3_readCommand_37 : decode cX3_readCommand 37 = .ok (.ifCond .ne 5, 3) := by decide +kernel
theorem dX3_readCommand_40 : decode cX3_readCommand 40 = .ok (.iconst 0, 1) := by decide +kernel
theorem dX3_readCommand_41 : decode cX3_readCommand 41 = .ok (.ireturn, 1) := by decide +kernel
theorem dX3_readCommand_42 : decode cX3_readCommand 42 = .ok (.aload_n 2, 1) := by decide +kernel
theorem dX3_readCommand_43 : decode cX3_readCommand 43 = .ok (.getfield 61, 3) := by decide +kernel
theorem dX3_readCommand_46 : decode cX3_readCommand 46 = .ok (.ifCond .eq 13, 3) := by decide +kernel
theorem dX3_readCommand_49 : decode cX3_readCommand 49 = .ok (.aload_n 0, 1) := by decide +kernel
theorem dX3_readCommand_50 : decode cX3_readCommand 50 = .ok (.aload_n 1, 1) := by decide +kernel
theorem dX3_readCommand_51 : decode cX3_readCommand 51 = .ok (.invokevirtual 64, 3) := by decide +kernel
theorem dX3_readCommand_54 : decode cX3_readCommand 54 = .ok (.ifCond .ne 5, 3) := by decide +kernel
theorem dX3_readCommand_57 : decode cX3_readCommand 57 = .ok (.iconst 0, 1) := by decide +kernel
theorem dX3_readCommand_58 : decode cX3_readCommand 58 = .ok (.ireturn, 1) := by decide +kernel
theorem dX3_readCommand_59 : decode cX3_readCommand 59 = .ok (.aload_n 2, 1) := by decide +kernel
theorem dX3_readCommand_60 : decode cX3_readCommand 60 = .ok (.getfield 67, 3) := by decide +kernel
theorem dX3_readCommand_63 : decode cX3_readCommand 63 = .ok (.ifCond .eq 11, 3) := by decide +kernel
theorem dX3_readCommand_66 : decode cX3_readCommand 66 = .ok (.aload_n 0, 1) := by decide +kernel
theorem dX3_readCommand_67 : decode cX3_readCommand 67 = .ok (.aload_n 1, 1) := by decide +kernel
theorem dX3_readCommand_68 : decode cX3_readCommand 68 = .ok (.invokevirtual 70, 3) := by decide +kernel
theorem dX3_readCommand_71 : decode cX3_readCommand 71 = .ok (.ifCond .eq 7, 3) := by decide +kernel
theorem dX3_readCommand_74 : decode cX3_readCommand 74 = .ok (.iconst 1, 1) := by decide +kernel
theorem dX3_readCommand_75 : decode cX3_readCommand 75 = .ok (.goto 4, 3) := by decide +kernel
theorem dX3_readCommand_78 : decode cX3_readCommand 78 = .ok (.iconst 0, 1) := by decide +kernel
theorem dX3_readCommand_79 : decode cX3_readCommand 79 = .ok (.ireturn, 1) := by decide +kernel
theorem dX3_readKeyword_0 : decode cX3_readKeyword 0 = .ok (.iconst 0, 1) := by decide +kernel
theorem dX3_readKeyword_1 : decode cX3_readKeyword 1 = .ok (.istore_n 1, 1) := by decide +kernel
theorem dX3_readKeyword_2 : decode cX3_readKeyword 2 = .ok (.getstatic 73, 3) := by decide +kernel
theorem dX3_readKeyword_5 : decode cX3_readKeyword 5 = .ok (.astore_n 2, 1) := by decide +kernel
theorem dX3_readKeyword_6 : decode cX3_readKeyword 6 = .ok (.aload_n 2, 1) := by decide +kernel
theorem dX3_readKeyword_7 : decode cX3_readKeyword 7 = .ok (.arraylength, 1) := by decide +kernel
theorem dX3_readKeyword_8 : decode cX3_readKeyword 8 = .ok (.istore_n 3, 1) := by decide +kernel
theorem dX3_readKeyword_9 : decode cX3_readKeyword 9 = .ok (.iconst 0, 1) := by decide +kernel
theorem dX3_readKeyword_10 : decode cX3_readKeyword 10 = .ok (.istore 4, 2) := by decide +kernel
theorem dX3_readKeyword_12 : decode cX3_readKeyword 12 = .ok (.iload 4, 2) := by decide +kernel
theorem dX3_readKeyword_14 : decode cX3_readKeyword 14 = .ok (.iload_n 3, 1) := by decide +kernel
theorem dX3_readKeyword_15 : decode cX3_readKeyword 15 = .ok (.if_icmp .ge 60, 3) := by decide +kernel
theorem dX3_readKeyword_18 : decode cX3_readKeyword 18 = .ok (.aload_n 2, 1) := by decide +kernel
theorem dX3_readKeyword_19 : decode cX3_readKeyword 19 = .ok (.iload 4, 2) := by decide +kernel
theorem dX3_readKeyword_21 : decode cX3_readKeyword 21 = .ok (.aaload, 1) := by decide +kernel
theorem dX3_readKeyword_22 : decode cX3_readKeyword 22 = .ok (.astore 5, 2) := by decide +kernel
theorem dX3_readKeyword_24 : decode cX3_readKeyword 24 = .ok (.aload_n 0, 1) := by decide +kernel
theorem dX3_readKeyword_25 : decode cX3_readKeyword 25 = .ok (.aload 5, 2) := by decide +kernel
theorem dX3_readKeyword_27 : decode cX3_readKeyword 27 = .ok (.getfield 77, 3) := by decide +kernel
theorem dX3_readKeyword_30 : decode cX3_readKeyword 30 = .ok (.invokevirtual 81, 3) := by decide +kernel
theorem dX3_readKeyword_33 : decode cX3_readKeyword 33 = .ok (.istore 6, 2) := by decide +kernel
theorem dX3_readKeyword_35 : decode cX3_readKeyword 35 = .ok (.iload 6, 2) := by decide +kernel
theorem dX3_readKeyword_37 : decode cX3_readKeyword 37 = .ok (.aload 5, 2) := by decide +kernel
theorem dX3_readKeyword_39 : decode cX3_readKeyword 39 = .ok (.getfield 77, 3) := by decide +kernel
theorem dX3_readKeyword_42 : decode cX3_readKeyword 42 = .ok (.invokevirtual 85, 3) := by decide +kernel
theorem dX3_readKeyword_45 : decode cX3_readKeyword 45 = .ok (.if_icmp .ne 17, 3) := by decide +kernel
theorem dX3_readKeyword_48 : decode cX3_readKeyword 48 = .ok (.aload_n 0, 1) := by decide +kernel
theorem dX3_readKeyword_49 : decode cX3_readKeyword 49 = .ok (.dup, 1) := by decide +kernel
theorem dX3_readKeyword_50 : decode cX3_readKeyword 50 = .ok (.getfield 25, 3) := by decide +kernel
theorem dX3_readKeyword_53 : decode cX3_readKeyword 53 = .ok (.iload 6, 2) := by decide +kernel
theorem dX3_readKeyword_55 : decode cX3_readKeyword 55 = .ok (.iadd, 1) := by decide +kernel
theorem dX3_readKeyword_56 : decode cX3_readKeyword 56 = .ok (.putfield 25, 3) := by decide +kernel
theorem dX3_readKeyword_59 : decode cX3_readKeyword 59 = .ok (.aload 5, 2) := by decide +kernel
theorem dX3_readKeyword_61 : decode cX3_readKeyword 61 = .ok (.areturn, 1) := by decide +kernel
theorem dX3_readKeyword_62 : decode cX3_readKeyword 62 = .ok (.iload_n 1, 1) := by decide +kernel
theorem dX3_readKeyword_63 : decode cX3_readKeyword 63 = .ok (.iload 6, 2) := by decide +kernel
theorem dX3_readKeyword_65 : decode cX3_readKeyword 65 = .ok (.invokestatic 88, 3) := by decide +kernel
theorem dX3_readKeyword_68 : decode cX3_readKeyword 68 = .ok (.istore_n 1, 1) := by decide +kernel
theorem dX3_readKeyword_69 : decode cX3_readKeyword 69 = .ok (.iinc 4 1, 3) := by decide +kernel
theorem dX3_readKeyword_72 : decode cX3_readKeyword 72 = .ok (.goto (-60), 3) := by decide +kernel
theorem dX3_readKeyword_75 : decode cX3_readKeyword 75 = .ok (.aload_n 0, 1) := by decide +kernel
theorem dX3_readKeyword_76 : decode cX3_readKeyword 76 = .ok (.dup, 1) := by decide +kernel
theorem dX3_readKeyword_77 : decode cX3_readKeyword 77 = .ok (.getfield 25, 3) := by decide +kernel
theorem dX3_readKeyword_80 : decode cX3_readKeyword 80 = .ok (.iload_n 1, 1) := by decide +kernel
theorem dX3_readKeyword_81 : decode cX3_readKeyword 81 = .ok (.iadd, 1) := by decide +kernel
theorem dX3_readKeyword_82 : decode cX3_readKeyword 82 = .ok (.putfield 25, 3) := by decide +kernel
theorem dX3_readKeyword_85 : decode cX3_readKeyword 85 = .ok (.aconst_null, 1) := by decide +kernel
theorem dX3_readKeyword_86 : decode cX3_readKeyword 86 = .ok (.areturn, 1) := by decide +kernel
theorem dX3_commonLength_0 : decode cX3_commonLength 0 = .ok (.iconst 0, 1) := by decide +kernel
theorem dX3_commonLength_1 : decode cX3_commonLength 1 = .ok (.istore_n 2, 1) := by decide +kernel
theorem dX3_commonLength_2 : decode cX3_commonLength 2 = .ok (.iload_n 2, 1) := by decide +kernel
theorem dX3_commonLength_3 : decode cX3_commonLength 3 = .ok (.aload_n 1, 1) := by decide +kernel
theorem dX3_commonLength_4 : decode cX3_commonLength 4 = .ok (.invokevirtual 85, 3) := by decide +kernel
theorem dX3_commonLength_7 : decode cX3_commonLength 7 = .ok (.if_icmp .ge 27, 3) := by decide +kernel
theorem dX3_commonLength_10 : decode cX3_commonLength 10 = .ok (.aload_n 0, 1) := by decide +kernel
theorem dX3_commonLength_11 : decode cX3_commonLength 11 = .ok (.aload_n 0, 1) := by decide +kernel
theorem dX3_commonLength_12 : decode cX3_commonLength 12 = .ok (.getfield 25, 3) := by decide +kernel
theorem dX3_commonLength_15 : decode cX3_commonLength 15 = .ok (.iload_n 2, 1) := by decide +kernel
theorem dX3_commonLength_16 : decode cX3_commonLength 16 = .ok (.iadd, 1) := by decide +kernel
theorem dX3_commonLength_17 : decode cX3_commonLength 17 = .ok (.aload_n 1, 1) := by decide +kernel
theorem dX3_commonLength_18 : decode cX3_commonLength 18 = .ok (.iload_n 2, 1) := by decide +kernel
theorem dX3_commonLength_19 : decode cX3_commonLength 19 = .ok (.invokevirtual 94, 3) := by decide +kernel
theorem dX3_commonLength_22 : decode cX3_commonLength 22 = .ok (.invokevirtual 98, 3) := by decide +kernel
theorem dX3_commonLength_25 : decode cX3_commonLength 25 = .ok (.ifCond .eq 9, 3) := by decide +kernel
theorem dX3_commonLength_28 : decode cX3_commonLength 28 = .ok (.iinc 2 1, 3) := by decide +kernel
theorem dX3_commonLength_31 : decode cX3_commonLength 31 = .ok (.goto (-29), 3) := by decide +kernel
theorem dX3_commonLength_34 : decode cX3_commonLength 34 = .ok (.iload_n 2, 1) := by decide +kernel
theorem dX3_commonLength_35 : decode cX3_commonLength 35 = .ok (.ireturn, 1) := by decide +kernel
theorem dX3_readDigit_0 : decode cX3_readDigit 0 = .ok (.aload_n 0, 1) := by decide +kernel
theorem dX3_readDigit_1 : decode cX3_readDigit 1 = .ok (.aload_n 0, 1) := by decide +kernel
theorem dX3_readDigit_2 : decode cX3_readDigit 2 = .ok (.getfield 25, 3) := by decide +kernel
theorem dX3_readDigit_5 : decode cX3_readDigit 5 = .ok (.invokevirtual 102, 3) := by decide +kernel
theorem dX3_readDigit_8 : decode cX3_readDigit 8 = .ok (.istore_n 2, 1) := by decide +kernel
theorem dX3_readDigit_9 : decode cX3_readDigit 9 = .ok (.iload_n 2, 1) := by decide +kernel
theorem dX3_readDigit_10 : decode cX3_readDigit 10 = .ok (.iconst (-1), 1) := by decide +kernel
theorem dX3_readDigit_11 : decode cX3_readDigit 11 = .ok (.if_icmp .ne 5, 3) := by decide +kernel
theorem dX3_readDigit_14 : decode cX3_readDigit 14 = .ok (.iconst 0, 1) := by decide +kernel
theorem dX3_readDigit_15 : decode cX3_readDigit 15 = .ok (.ireturn, 1) := by decide +kernel
theorem dX3_readDigit_16 : decode cX3_readDigit 16 = .ok (.aload_n 1, 1) := by decide +kernel
theorem dX3_readDigit_17 : decode cX3_readDigit 17 = .ok (.iload_n 2, 1) := by decide +kernel
theorem dX3_readDigit_18 : decode cX3_readDigit 18 = .ok (.putfield 106, 3) := by decide +kernel
theorem dX3_readDigit_21 : decode cX3_readDigit 21 = .ok (.aload_n 0, 1) := by decide +kernel
theorem dX3_readDigit_22 : decode cX3_readDigit 22 = .ok (.dup, 1) := by decide +kernel
theorem dX3_readDigit_23 : decode cX3_readDigit 23 = .ok (.getfield 25, 3) := by decide +kernel
theorem dX3_readDigit_26 : decode cX3_readDigit 26 = .ok (.iconst 1, 1) := by decide +kernel
theorem dX3_readDigit_27 : decode cX3_readDigit 27 = .ok (.iadd, 1) := by decide +kernel
theorem dX3_readDigit_28 : decode cX3_readDigit 28 = .ok (.putfield 25, 3) := by decide +kernel
theorem dX3_readDigit_31 : decode cX3_readDigit 31 = .ok (.iconst 1, 1) := by decide +kernel
theorem dX3_readDigit_32 : decode cX3_readDigit 32 = .ok (.ireturn, 1) := by decide +kernel
theorem dX3_readNumber_0 : decode cX3_readNumber 0 = .ok (.iconst 0, 1) := by decide +kernel
theorem dX3_readNumber_1 : decode cX3_readNumber 1 = .ok (.istore_n 2, 1) := by decide +kernel
theorem dX3_readNumber_2 : decode cX3_readNumber 2 = .ok (.iconst 0, 1) := by decide +kernel
theorem dX3_readNumber_3 : decode cX3_readNumber 3 = .ok (.istore_n 3, 1) := by decide +kernel
theorem dX3_readNumber_4 : decode cX3_readNumber 4 = .ok (.iload_n 3, 1) := by decide +kernel
theorem dX3_readNumber_5 : decode cX3_readNumber 5 = .ok (.iconst 3, 1) := by decide +kernel
theorem dX3_readNumber_6 : decode cX3_readNumber 6 = .ok (.if_icmp .ge 45, 3) := by decide +kernel
theorem dX3_readNumber_9 : decode cX3_readNumber 9 = .ok (.aload_n 0, 1) := by decide +kernel
theorem dX3_readNumber_10 : decode cX3_readNumber 10 = .ok (.aload_n 0, 1) := by decide +kernel
theorem dX3_readNumber_11 : decode cX3_readNumber 11 = .ok (.getfield 25, 3) := by decide +kernel
theorem dX3_readNumber_14 : decode cX3_readNumber 14 = .ok (.invokevirtual 102, 3) := by decide +kernel
theorem dX3_readNumber_17 : decode cX3_readNumber 17 = .ok (.iconst (-1), 1) := by decide +kernel
theorem dX3_readNumber_18 : decode cX3_readNumber 18 = .ok (.if_icmp .eq 33, 3) := by decide +kernel
theorem dX3_readNumber_21 : decode cX3_readNumber 21 = .ok (.iload_n 2, 1) := by decide +kernel
theorem dX3_readNumber_22 : decode cX3_readNumber 22 = .ok (.bipush 10, 2) := by decide +kernel
theorem dX3_readNumber_24 : decode cX3_readNumber 24 = .ok (.imul, 1) := by decide +kernel
theorem dX3_readNumber_25 : decode cX3_readNumber 25 = .ok (.aload_n 0, 1) := by decide +kernel
theorem dX3_readNumber_26 : decode cX3_readNumber 26 = .ok (.aload_n 0, 1) := by decide +kernel
theorem dX3_readNumber_27 : decode cX3_readNumber 27 = .ok (.getfield 25, 3) := by decide +kernel
theorem dX3_readNumber_30 : decode cX3_readNumber 30 = .ok (.invokevirtual 102, 3) := by decide +kernel
theorem dX3_readNumber_33 : decode cX3_readNumber 33 = .ok (.iadd, 1) := by decide +kernel
theorem dX3_readNumber_34 : decode cX3_readNumber 34 = .ok (.istore_n 2, 1) := by decide +kernel
theorem dX3_readNumber_35 : decode cX3_readNumber 35 = .ok (.aload_n 0, 1) := by decide +kernel
theorem dX3_readNumber_36 : decode cX3_readNumber 36 = .ok (.dup, 1) := by decide +kernel
theorem dX3_readNumber_37 : decode cX3_readNumber 37 = .ok (.getfield 25, 3) := by decide +kernel
theorem dX3_readNumber_40 : decode cX3_readNumber 40 = .ok (.iconst 1, 1) := by decide +kernel
theorem dX3_readNumber_41 : decode cX3_readNumber 41 = .ok (.iadd, 1) := by decide +kernel
theorem dX3_readNumber_42 : decode cX3_readNumber 42 = .ok (.putfield 25, 3) := by decide +kernel
theorem dX3_readNumber_45 : decode cX3_readNumber 45 = .ok (.iinc 3 1, 3) := by decide +kernel
theorem dX3_readNumber_48 : decode cX3_readNumber 48 = .ok (.goto (-44), 3) := by decide +kernel
theorem dX3_readNumber_51 : decode cX3_readNumber 51 = .ok (.aload_n 1, 1) := by decide +kernel
theorem dX3_readNumber_52 : decode cX3_readNumber 52 = .ok (.iload_n 2, 1) := by decide +kernel
theorem dX3_readNumber_53 : decode cX3_readNumber 53 = .ok (.putfield 109, 3) := by decide +kernel
theorem dX3_readNumber_56 : decode cX3_readNumber 56 = .ok (.iload_n 3, 1) := by decide +kernel
theorem dX3_readNumber_57 : decode cX3_readNumber 57 = .ok (.ifCond .le 7, 3) := by decide +kernel
theorem dX3_readNumber_60 : decode cX3_readNumber 60 = .ok (.iconst 1, 1) := by decide +kernel
theorem dX3_readNumber_61 : decode cX3_readNumber 61 = .ok (.goto 4, 3) := by decide +kernel
theorem dX3_readNumber_64 : decode cX3_readNumber 64 = .ok (.iconst 0, 1) := by decide +kernel
theorem dX3_readNumber_65 : decode cX3_readNumber 65 = .ok (.ireturn, 1) := by decide +kernel
theorem dX3_readPlusOrMinus_0 : decode cX3_readPlusOrMinus 0 = .ok (.aload_n 1, 1) := by decide +kernel
theorem dX3_readPlusOrMinus_1 : decode cX3_readPlusOrMinus 1 = .ok (.aload_n 0, 1) := by decide +kernel
theorem dX3_readPlusOrMinus_2 : decode cX3_readPlusOrMinus 2 = .ok (.bipush 43, 2) := by decide +kernel
theorem dX3_readPlusOrMinus_4 : decode cX3_readPlusOrMinus 4 = .ok (.invokevirtual 40, 3) := by decide +kernel
theorem dX3_readPlusOrMinus_7 : decode cX3_readPlusOrMinus 7 = .ok (.putfield 112, 3) := by decide +kernel
theorem dX3_readPlusOrMinus_10 : decode cX3_readPlusOrMinus 10 = .ok (.aload_n 1, 1) := by decide +kernel
theorem dX3_readPlusOrMinus_11 : decode cX3_readPlusOrMinus 11 = .ok (.getfield 112, 3) := by decide +kernel
theorem dX3_readPlusOrMinus_14 : decode cX3_readPlusOrMinus 14 = .ok (.ifCond .ne 12, 3) := by decide +kernel
theorem dX3_readPlusOrMinus_17 : decode cX3_readPlusOrMinus 17 = .ok (.aload_n 0, 1) := by decide +kernel
theorem dX3_readPlusOrMinus_18 : decode cX3_readPlusOrMinus 18 = .ok (.bipush 45, 2) := by decide +kernel
theorem dX3_readPlusOrMinus_20 : decode cX3_readPlusOrMinus 20 = .ok (.invokevirtual 40, 3) := by decide +kernel
theorem dX3_readPlusOrMinus_23 : decode cX3_readPlusOrMinus 23 = .ok (.ifCond .eq 7, 3) := by decide +kernel
theorem dX3_readPlusOrMinus_26 : decode cX3_readPlusOrMinus 26 = .ok (.iconst 1, 1) := by decide +kernel
theorem dX3_readPlusOrMinus_27 : decode cX3_readPlusOrMinus 27 = .ok (.goto 4, 3) := by decide +kernel
theorem dX3_readPlusOrMinus_30 : decode cX3_readPlusOrMinus 30 = .ok (.iconst 0, 1) := by decide +kernel
theorem dX3_readPlusOrMinus_31 : decode cX3_readPlusOrMinus 31 = .ok (.ireturn, 1) := by decide +kernel
theorem dX3_readSign_0 : decode cX3_readSign 0 = .ok (.aload_n 0, 1) := by decide +kernel
theorem dX3_readSign_1 : decode cX3_readSign 1 = .ok (.aload_n 0, 1) := by decide +kernel
theorem dX3_readSign_2 : decode cX3_readSign 2 = .ok (.getfield 25, 3) := by decide +kernel
theorem dX3_readSign_5 : decode cX3_readSign 5 = .ok (.iload_n 1, 1) := by decide +kernel
theorem dX3_readSign_6 : decode cX3_readSign 6 = .ok (.invokevirtual 98, 3) := by decide +kernel
theorem dX3_readSign_9 : decode cX3_readSign 9 = .ok (.ifCond .ne 5, 3) := by decide +kernel
theorem dX3_readSign_12 : decode cX3_readSign 12 = .ok (.iconst 0, 1) := by decide +kernel
theorem dX3_readSign_13 : decode cX3_readSign 13 = .ok (.ireturn, 1) := by decide +kernel
theorem dX3_readSign_14 : decode cX3_readSign 14 = .ok (.aload_n 0, 1) := by decide +kernel
theorem dX3_readSign_15 : decode cX3_readSign 15 = .ok (.dup, 1) := by decide +kernel
theorem dX3_readSign_16 : decode cX3_readSign 16 = .ok (.getfield 25, 3) := by decide +kernel
theorem dX3_readSign_19 : decode cX3_readSign 19 = .ok (.iconst 1, 1) := by decide +kernel
theorem dX3_readSign_20 : decode cX3_readSign 20 = .ok (.iadd, 1) := by decide +kernel
theorem dX3_readSign_21 : decode cX3_readSign 21 = .ok (.putfield 25, 3) := by decide +kernel
theorem dX3_readSign_24 : decode cX3_readSign 24 = .ok (.iconst 1, 1) := by decide +kernel
theorem dX3_readSign_25 : decode cX3_readSign 25 = .ok (.ireturn, 1) := by decide +kernel
theorem dX3_isAt_0 : decode cX3_isAt 0 = .ok (.iload_n 1, 1) := by decide +kernel
theorem dX3_isAt_1 : decode cX3_isAt 1 = .ok (.ifCond .lt 30, 3) := by decide +kernel
theorem dX3_isAt_4 : decode cX3_isAt 4 = .ok (.iload_n 1, 1) := by decide +kernel
theorem dX3_isAt_5 : decode cX3_isAt 5 = .ok (.aload_n 0, 1) := by decide +kernel
theorem dX3_isAt_6 : decode cX3_isAt 6 = .ok (.getfield 12, 3) := by decide +kernel
theorem dX3_isAt_9 : decode cX3_isAt 9 = .ok (.invokevirtual 36, 3) := by decide +kernel
theorem dX3_isAt_12 : decode cX3_isAt 12 = .ok (.if_icmp .ge 19, 3) := by decide +kernel
theorem dX3_isAt_15 : decode cX3_isAt 15 = .ok (.aload_n 0, 1) := by decide +kernel
theorem dX3_isAt_16 : decode cX3_isAt 16 = .ok (.getfield 12, 3) := by decide +kernel
theorem dX3_isAt_19 : decode cX3_isAt 19 = .ok (.iload_n 1, 1) := by decide +kernel
theorem dX3_isAt_20 : decode cX3_isAt 20 = .ok (.invokevirtual 115, 3) := by decide +kernel
theorem dX3_isAt_23 : decode cX3_isAt 23 = .ok (.iload_n 2, 1) := by decide +kernel
theorem dX3_isAt_24 : decode cX3_isAt 24 = .ok (.if_icmp .ne 7, 3) := by decide +kernel
theorem dX3_isAt_27 : decode cX3_isAt 27 = .ok (.iconst 1, 1) := by decide +kernel
theorem dX3_isAt_28 : decode cX3_isAt 28 = .ok (.goto 4, 3) := by decide +kernel
theorem dX3_isAt_31 : decode cX3_isAt 31 = .ok (.iconst 0, 1) := by decide +kernel
theorem dX3_isAt_32 : decode cX3_isAt 32 = .ok (.ireturn, 1) := by decide +kernel
theorem dX3_digitAt_0 : decode cX3_digitAt 0 = .ok (.iload_n 1, 1) := by decide +kernel
theorem dX3_digitAt_1 : decode cX3_digitAt 1 = .ok (.ifCond .lt 14, 3) := by decide +kernel
theorem dX3_digitAt_4 : decode cX3_digitAt 4 = .ok (.iload_n 1, 1) := by decide +kernel
theorem dX3_digitAt_5 : decode cX3_digitAt 5 = .ok (.aload_n 0, 1) := by decide +kernel
theorem dX3_digitAt_6 : decode cX3_digitAt 6 = .ok (.getfield 12, 3) := by decide +kernel
theorem dX3_digitAt_9 : decode cX3_digitAt 9 = .ok (.invokevirtual 36, 3) := by decide +kernel
theorem dX3_digitAt_12 : decode cX3_digitAt 12 = .ok (.if_icmp .lt 5, 3) := by decide +kernel
theorem dX3_digitAt_15 : decode cX3_digitAt 15 = .ok (.iconst (-1), 1) := by decide +kernel
theorem dX3_digitAt_16 : decode cX3_digitAt 16 = .ok (.ireturn, 1) := by decide +kernel
theorem dX3_digitAt_17 : decode cX3_digitAt 17 = .ok (.aload_n 0, 1) := by decide +kernel
theorem dX3_digitAt_18 : decode cX3_digitAt 18 = .ok (.getfield 12, 3) := by decide +kernel
theorem dX3_digitAt_21 : decode cX3_digitAt 21 = .ok (.iload_n 1, 1) := by decide +kernel
theorem dX3_digitAt_22 : decode cX3_digitAt 22 = .ok (.invokevirtual 115, 3) := by decide +kernel
theorem dX3_digitAt_25 : decode cX3_digitAt 25 = .ok (.istore_n 2, 1) := by decide +kernel
theorem dX3_digitAt_26 : decode cX3_digitAt 26 = .ok (.iload_n 2, 1) := by decide +kernel
theorem dX3_digitAt_27 : decode cX3_digitAt 27 = .ok (.bipush 48, 2) := by decide +kernel
theorem dX3_digitAt_29 : decode cX3_digitAt 29 = .ok (.if_icmp .lt 16, 3) := by decide +kernel
theorem dX3_digitAt_32 : decode cX3_digitAt 32 = .ok (.iload_n 2, 1) := by decide +kernel
theorem dX3_digitAt_33 : decode cX3_digitAt 33 = .ok (.bipush 57, 2) := by decide +kernel
theorem dX3_digitAt_35 : decode cX3_digitAt 35 = .ok (.if_icmp .gt 10, 3) := by decide +kernel
theorem dX3_digitAt_38 : decode cX3_digitAt 38 = .ok (.iload_n 2, 1) := by decide +kernel
theorem dX3_digitAt_39 : decode cX3_digitAt 39 = .ok (.bipush 48, 2) := by decide +kernel
theorem dX3_digitAt_41 : decode cX3_digitAt 41 = .ok (.isub, 1) := by decide +kernel
theorem dX3_digitAt_42 : decode cX3_digitAt 42 = .ok (.goto 4, 3) := by decide +kernel
theorem dX3_digitAt_45 : decode cX3_digitAt 45 = .ok (.iconst (-1), 1) := by decide +kernel
theorem dX3_digitAt_46 : decode cX3_digitAt 46 = .ok (.ireturn, 1) := by decide +kernel
theorem dX6_init_0 : decode cX6_init 0 = .ok (.aload_n 0, 1) := by decide +kernel
theorem dX6_init_1 : decode cX6_init 1 = .ok (.invokespecial 3, 3) := by decide +kernel
theorem dX6_init_4 : decode cX6_init 4 = .ok (.aload_n 0, 1) := by decide +kernel
theorem dX6_init_5 : decode cX6_init 5 = .ok (.iconst (-1), 1) := by decide +kernel
theorem dX6_init_6 : decode cX6_init 6 = .ok (.putfield 9, 3) := by decide +kernel
theorem dX6_init_9 : decode cX6_init 9 = .ok (.return_, 1) := by decide +kernel
theorem dX6_start_0 : decode cX6_start 0 = .ok (.aload_n 0, 1) := by decide +kernel
theorem dX6_start_1 : decode cX6_start 1 = .ok (.iload_n 1, 1) := by decide +kernel
theorem dX6_start_2 : decode cX6_start 2 = .ok (.putfield 15, 3) := by decide +kernel
theorem dX6_start_5 : decode cX6_start 5 = .ok (.aload_n 0, 1) := by decide +kernel
theorem dX6_start_6 : decode cX6_start 6 = .ok (.iload_n 2, 1) := by decide +kernel
theorem dX6_start_7 : decode cX6_start 7 = .ok (.putfield 18, 3) := by decide +kernel
theorem dX6_start_10 : decode cX6_start 10 = .ok (.aload_n 0, 1) := by decide +kernel
theorem dX6_start_11 : decode cX6_start 11 = .ok (.iconst 0, 1) := by decide +kernel
theorem dX6_start_12 : decode cX6_start 12 = .ok (.putfield 21, 3) := by decide +kernel
theorem dX6_start_15 : decode cX6_start 15 = .ok (.aload_n 0, 1) := by decide +kernel
theorem dX6_start_16 : decode cX6_start 16 = .ok (.iconst 0, 1) := by decide +kernel
theorem dX6_start_17 : decode cX6_start 17 = .ok (.putfield 24, 3) := by decide +kernel
theorem dX6_start_20 : decode cX6_start 20 = .ok (.aload_n 0, 1) := by decide +kernel
theorem dX6_start_21 : decode cX6_start 21 = .ok (.iconst 0, 1) := by decide +kernel
theorem dX6_start_22 : decode cX6_start 22 = .ok (.putfield 27, 3) := by decide +kernel
theorem dX6_start_25 : decode cX6_start 25 = .ok (.aload_n 0, 1) := by decide +kernel
theorem dX6_start_26 : decode cX6_start 26 = .ok (.iconst 0, 1) := by decide +kernel
theorem dX6_start_27 : decode cX6_start 27 = .ok (.putfield 30, 3) := by decide +kernel
theorem dX6_start_30 : decode cX6_start 30 = .ok (.aload_n 0, 1) := by decide +kernel
theorem dX6_start_31 : decode cX6_start 31 = .ok (.iconst 0, 1) := by decide +kernel
theorem dX6_start_32 : decode cX6_start 32 = .ok (.putfield 33, 3) := by decide +kernel
theorem dX6_start_35 : decode cX6_start 35 = .ok (.aload_n 0, 1) := by decide +kernel
theorem dX6_start_36 : decode cX6_start 36 = .ok (.iconst 0, 1) := by decide +kernel
theorem dX6_start_37 : decode cX6_start 37 = .ok (.putfield 36, 3) := by decide +kernel
theorem dX6_start_40 : decode cX6_start 40 = .ok (.aload_n 0, 1) := by decide +kernel
theorem dX6_start_41 : decode cX6_start 41 = .ok (.iconst 0, 1) := by decide +kernel
theorem dX6_start_42 : decode cX6_start 42 = .ok (.putfield 39, 3) := by decide +kernel
theorem dX6_start_45 : decode cX6_start 45 = .ok (.aload_n 0, 1) := by decide +kernel
theorem dX6_start_46 : decode cX6_start 46 = .ok (.iconst (-1), 1) := by decide +kernel
theorem dX6_start_47 : decode cX6_start 47 = .ok (.putfield 9, 3) := by decide +kernel
theorem dX6_start_50 : decode cX6_start 50 = .ok (.aload_n 0, 1) := by decide +kernel
theorem dX6_start_51 : decode cX6_start 51 = .ok (.iconst 0, 1) := by decide +kernel
theorem dX6_start_52 : decode cX6_start 52 = .ok (.putfield 43, 3) := by decide +kernel
theorem dX6_start_55 : decode cX6_start 55 = .ok (.return_, 1) := by decide +kernel
theorem dX6_copyFrom_0 : decode cX6_copyFrom 0 = .ok (.aload_n 0, 1) := by decide +kernel
theorem dX6_copyFrom_1 : decode cX6_copyFrom 1 = .ok (.aload_n 1, 1) := by decide +kernel
theorem dX6_copyFrom_2 : decode cX6_copyFrom 2 = .ok (.getfield 15, 3) := by decide +kernel
theorem dX6_copyFrom_5 : decode cX6_copyFrom 5 = .ok (.putfield 15, 3) := by decide +kernel
theorem dX6_copyFrom_8 : decode cX6_copyFrom 8 = .ok (.aload_n 0, 1) := by decide +kernel
theorem dX6_copyFrom_9 : decode cX6_copyFrom 9 = .ok (.aload_n 1, 1) := by decide +kernel
theorem dX6_copyFrom_10 : decode cX6_copyFrom 10 = .ok (.getfield 18, 3) := by decide +kernel
theorem dX6_copyFrom_13 : decode cX6_copyFrom 13 = .ok (.putfield 18, 3) := by decide +kernel
theorem dX6_copyFrom_16 : decode cX6_copyFrom 16 = .ok (.aload_n 0, 1) := by decide +kernel
theorem dX6_copyFrom_17 : decode cX6_copyFrom 17 = .ok (.aload_n 1, 1) := by decide +kernel
theorem dX6_copyFrom_18 : decode cX6_copyFrom 18 = .ok (.getfield 21, 3) := by decide +kernel
theorem dX6_copyFrom_21 : decode cX6_copyFrom 21 = .ok (.putfield 21, 3) := by decide +kernel
theorem dX6_copyFrom_24 : decode cX6_copyFrom 24 = .ok (.aload_n 0, 1) := by decide +kernel
theorem dX6_copyFrom_25 : decode cX6_copyFrom 25 = .ok (.aload_n 1, 1) := by decide +kernel
theorem dX6_copyFrom_26 : decode cX6_copyFrom 26 = .ok (.getfield 24, 3) := by decide +kernel
theorem dX6_copyFrom_29 : decode cX6_copyFrom 29 = .ok (.putfield 24, 3) := by decide +kernel
theorem dX6_copyFrom_32 : decode cX6_copyFrom 32 = .ok (.aload_n 0, 1) := by decide +kernel
theorem dX6_copyFrom_33 : decode cX6_copyFrom 33 = .ok (.aload_n 1, 1) := by decide +kernel
theorem dX6_copyFrom_34 : decode cX6_copyFrom 34 = .ok (.getfield 27, 3) := by decide +kernel
theorem dX6_copyFrom_37 : decode cX6_copyFrom 37 = .ok (.putfield 27, 3) := by decide +kernel
theorem dX6_copyFrom_40 : decode cX6_copyFrom 40 = .ok (.aload_n 0, 1) := by decide +kernel
theorem dX6_copyFrom_41 : decode cX6_copyFrom 41 = .ok (.aload_n 1, 1) := by decide +kernel
theorem dX6_copyFrom_42 : decode cX6_copyFrom 42 = .ok (.getfield 30, 3) := by decide +kernel
theorem dX6_copyFrom_45 : decode cX6_copyFrom 45 = .ok (.putfield 30, 3) := by decide +kernel
theorem dX6_copyFrom_48 : decode cX6_copyFrom 48 = .ok (.aload_n 0, 1) := by decide +kernel
theorem dX6_copyFrom_49 : decode cX6_copyFrom 49 = .ok (.aload_n 1, 1) := by decide +kernel
theorem dX6_copyFrom_50 : decode cX6_copyFrom 50 = .ok (.getfield 33, 3) := by decide +kernel
theorem dX6_copyFrom_53 : decode cX6_copyFrom 53 = .ok (.putfield 33, 3) := by decide +kernel
theorem dX6_copyFrom_56 : decode cX6_copyFrom 56 = .ok (.aload_n 0, 1) := by decide +kernel
theorem dX6_copyFrom_57 : decode cX6_copyFrom 57 = .ok (.aload_n 1, 1) := by decide +kernel
theorem dX6_copyFrom_58 : decode cX6_copyFrom 58 = .ok (.getfield 36, 3) := by decide +kernel
theorem dX6_copyFrom_61 : decode cX6_copyFrom 61 = .ok (.putfield 36, 3) := by decide +kernel
theorem dX6_copyFrom_64 : decode cX6_copyFrom 64 = .ok (.aload_n 0, 1) := by decide +kernel
theorem dX6_copyFrom_65 : decode cX6_copyFrom 65 = .ok (.aload_n 1, 1) := by decide +kernel
theorem dX6_copyFrom_66 : decode cX6_copyFrom 66 = .ok (.getfield 39, 3) := by decide +kernel
theorem dX6_copyFrom_69 : decode cX6_copyFrom 69 = .ok (.putfield 39, 3) := by decide +kernel
theorem dX6_copyFrom_72 : decode cX6_copyFrom 72 = .ok (.aload_n 0, 1) := by decide +kernel
theorem dX6_copyFrom_73 : decode cX6_copyFrom 73 = .ok (.aload_n 1, 1) := by decide +kernel
theorem dX6_copyFrom_74 : decode cX6_copyFrom 74 = .ok (.getfield 9, 3) := by decide +kernel
theorem dX6_copyFrom_77 : decode cX6_copyFrom 77 = .ok (.putfield 9, 3) := by decide +kernel
theorem dX6_copyFrom_80 : decode cX6_copyFrom 80 = .ok (.aload_n 0, 1) := by decide +kernel
theorem dX6_copyFrom_81 : decode cX6_copyFrom 81 = .ok (.aload_n 1, 1) := by decide +kernel
theorem dX6_copyFrom_82 : decode cX6_copyFrom 82 = .ok (.getfield 43, 3) := by decide +kernel
theorem dX6_copyFrom_85 : decode cX6_copyFrom 85 = .ok (.putfield 43, 3) := by decide +kernel
theorem dX6_copyFrom_88 : decode cX6_copyFrom 88 = .ok (.return_, 1) := by decide +kernel
theorem dX6_isAheadOf_0 : decode cX6_isAheadOf 0 = .ok (.aload_n 0, 1) := by decide +kernel
theorem dX6_isAheadOf_1 : decode cX6_isAheadOf 1 = .ok (.getfield 24, 3) := by decide +kernel
theorem dX6_isAheadOf_4 : decode cX6_isAheadOf 4 = .ok (.aload_n 1, 1) := by decide +kernel
theorem dX6_isAheadOf_5 : decode cX6_isAheadOf 5 = .ok (.getfield 24, 3) := by decide +kernel
theorem dX6_isAheadOf_8 : decode cX6_isAheadOf 8 = .ok (.if_icmp .eq 20, 3) := by decide +kernel
theorem dX6_isAheadOf_11 : decode cX6_isAheadOf 11 = .ok (.aload_n 0, 1) := by decide +kernel
theorem dX6_isAheadOf_12 : decode cX6_isAheadOf 12 = .ok (.getfield 24, 3) := by decide +kernel
theorem dX6_isAheadOf_15 : decode cX6_isAheadOf 15 = .ok (.aload_n 1, 1) := by decide +kernel
theorem dX6_isAheadOf_16 : decode cX6_isAheadOf 16 = .ok (.getfield 24, 3) := by decide +kernel
theorem dX6_isAheadOf_19 : decode cX6_isAheadOf 19 = .ok (.if_icmp .le 7, 3) := by decide +kernel
theorem dX6_isAheadOf_22 : decode cX6_isAheadOf 22 = .ok (.iconst 1, 1) := by decide +kernel
theorem dX6_isAheadOf_23 : decode cX6_isAheadOf 23 = .ok (.goto 4, 3) := by decide +kernel
theorem dX6_isAheadOf_26 : decode cX6_isAheadOf 26 = .ok (.iconst 0, 1) := by decide +kernel
theorem dX6_isAheadOf_27 : decode cX6_isAheadOf 27 = .ok (.ireturn, 1) := by decide +kernel
theorem dX6_isAheadOf_28 : decode cX6_isAheadOf 28 = .ok (.aload_n 0, 1) := by decide +kernel
theorem dX6_isAheadOf_29 : decode cX6_isAheadOf 29 = .ok (.getfield 30, 3) := by decide +kernel
theorem dX6_isAheadOf_32 : decode cX6_isAheadOf 32 = .ok (.aload_n 1, 1) := by decide +kernel
theorem dX6_isAheadOf_33 : decode cX6_isAheadOf 33 = .ok (.getfield 30, 3) := by decide +kernel
theorem dX6_isAheadOf_36 : decode cX6_isAheadOf 36 = .ok (.if_icmp .gt 7, 3) := by decide +kernel
theorem dX6_isAheadOf_39 : decode cX6_isAheadOf 39 = .ok (.iconst 1, 1) := by decide +kernel
theorem dX6_isAheadOf_40 : decode cX6_isAheadOf 40 = .ok (.goto 4, 3) := by decide +kernel
theorem dX6_isAheadOf_43 : decode cX6_isAheadOf 43 = .ok (.iconst 0, 1) := by decide +kernel
theorem dX6_isAheadOf_44 : decode cX6_isAheadOf 44 = .ok (.ireturn, 1) := by decide +kernel
theorem dX7_init_0 : decode cX7_init 0 = .ok (.aload_n 0, 1) := by decide +kernel
theorem dX7_init_1 : decode cX7_init 1 = .ok (.invokespecial 3, 3) := by decide +kernel
theorem dX7_init_4 : decode cX7_init 4 = .ok (.aload_n 0, 1) := by decide +kernel
theorem dX7_init_5 : decode cX7_init 5 = .ok (.new 9, 3) := by decide +kernel
theorem dX7_init_8 : decode cX7_init 8 = .ok (.dup, 1) := by decide +kernel
theorem dX7_init_9 : decode cX7_init 9 = .ok (.invokespecial 11, 3) := by decide +kernel
theorem dX7_init_12 : decode cX7_init 12 = .ok (.putfield 12, 3) := by decide +kernel
theorem dX7_init_15 : decode cX7_init 15 = .ok (.aload_n 0, 1) := by decide +kernel
theorem dX7_init_16 : decode cX7_init 16 = .ok (.bipush 9, 2) := by decide +kernel
theorem dX7_init_18 : decode cX7_init 18 = .ok (.anewarray 9, 3) := by decide +kernel
theorem dX7_init_21 : decode cX7_init 21 = .ok (.putfield 16, 3) := by decide +kernel
theorem dX7_init_24 : decode cX7_init 24 = .ok (.iconst 0, 1) := by decide +kernel
theorem dX7_init_25 : decode cX7_init 25 = .ok (.istore_n 1, 1) := by decide +kernel
theorem dX7_init_26 : decode cX7_init 26 = .ok (.iload_n 1, 1) := by decide +kernel
theorem dX7_init_27 : decode cX7_init 27 = .ok (.bipush 9, 2) := by decide +kernel
theorem dX7_init_29 : decode cX7_init 29 = .ok (.if_icmp .ge 22, 3) := by decide +kernel
theorem dX7_init_32 : decode cX7_init 32 = .ok (.aload_n 0, 1) := by decide +kernel
theorem dX7_init_33 : decode cX7_init 33 = .ok (.getfield 16, 3) := by decide +kernel
theorem dX7_init_36 : decode cX7_init 36 = .ok (.iload_n 1, 1) := by decide +kernel
theorem dX7_init_37 : decode cX7_init 37 = .ok (.new 9, 3) := by decide +kernel
theorem dX7_init_40 : decode cX7_init 40 = .ok (.dup, 1) := by decide +kernel
theorem dX7_init_41 : decode cX7_init 41 = .ok (.invokespecial 11, 3) := by decide +kernel
theorem dX7_init_44 : decode cX7_init 44 = .ok (.aastore, 1) := by decide +kernel
theorem dX7_init_45 : decode cX7_init 45 = .ok (.iinc 1 1, 3) := by decide +kernel
theorem dX7_init_48 : decode cX7_init 48 = .ok (.goto (-22), 3) := by decide +kernel
theorem dX7_init_51 : decode cX7_init 51 = .ok (.aload_n 0, 1) := by decide +kernel
theorem dX7_init_52 : decode cX7_init 52 = .ok (.new 9, 3) := by decide +kernel
theorem dX7_init_55 : decode cX7_init 55 = .ok (.dup, 1) := by decide +kernel
theorem dX7_init_56 : decode cX7_init 56 = .ok (.invokespecial 11, 3) := by decide +kernel
theorem dX7_init_59 : decode cX7_init 59 = .ok (.putfield 20, 3) := by decide +kernel
theorem dX7_init_62 : decode cX7_init 62 = .ok (.aload_n 0, 1) := by decide +kernel
theorem dX7_init_63 : decode cX7_init 63 = .ok (.new 23, 3) := by decide +kernel
theorem dX7_init_66 : decode cX7_init 66 = .ok (.dup, 1) := by decide +kernel
theorem dX7_init_67 : decode cX7_init 67 = .ok (.invokespecial 25, 3) := by decide +kernel
theorem dX7_init_70 : decode cX7_init 70 = .ok (.putfield 26, 3) := by decide +kernel
theorem dX7_init_73 : decode cX7_init 73 = .ok (.aload_n 0, 1) := by decide +kernel
theorem dX7_init_74 : decode cX7_init 74 = .ok (.iconst (-1), 1) := by decide +kernel
theorem dX7_init_75 : decode cX7_init 75 = .ok (.putfield 30, 3) := by decide +kernel
theorem dX7_init_78 : decode cX7_init 78 = .ok (.aload_n 0, 1) := by decide +kernel
theorem dX7_init_79 : decode cX7_init 79 = .ok (.iconst (-1), 1) := by decide +kernel
theorem dX7_init_80 : decode cX7_init 80 = .ok (.putfield 34, 3) := by decide +kernel
theorem dX7_init_83 : decode cX7_init 83 = .ok (.aload_n 0, 1) := by decide +kernel
theorem dX7_init_84 : decode cX7_init 84 = .ok (.new 37, 3) := by decide +kernel
theorem dX7_init_87 : decode cX7_init 87 = .ok (.dup, 1) := by decide +kernel
theorem dX7_init_88 : decode cX7_init 88 = .ok (.invokespecial 39, 3) := by decide +kernel
theorem dX7_init_91 : decode cX7_init 91 = .ok (.putfield 40, 3) := by decide +kernel
theorem dX7_init_94 : decode cX7_init 94 = .ok (.return_, 1) := by decide +kernel
theorem dX7_addMember_0 : decode cX7_addMember 0 = .ok (.aload_n 0, 1) := by decide +kernel
theorem dX7_addMember_1 : decode cX7_addMember 1 = .ok (.getfield 12, 3) := by decide +kernel
theorem dX7_addMember_4 : decode cX7_addMember 4 = .ok (.iload_n 1, 1) := by decide +kernel
theorem dX7_addMember_5 : decode cX7_addMember 5 = .ok (.iload_n 2, 1) := by decide +kernel
theorem dX7_addMember_6 : decode cX7_addMember 6 = .ok (.invokevirtual 44, 3) := by decide +kernel
theorem dX7_addMember_9 : decode cX7_addMember 9 = .ok (.invokestatic 48, 3) := by decide +kernel
theorem dX7_addMember_12 : decode cX7_addMember 12 = .ok (.aload_n 0, 1) := by decide +kernel
theorem dX7_addMember_13 : decode cX7_addMember 13 = .ok (.invokevirtual 52, 3) := by decide +kernel
theorem dX7_addMember_16 : decode cX7_addMember 16 = .ok (.aload_n 0, 1) := by decide +kernel
theorem dX7_addMember_17 : decode cX7_addMember 17 = .ok (.getfield 12, 3) := by decide +kernel
theorem dX7_addMember_20 : decode cX7_addMember 20 = .ok (.iload_n 1, 1) := by decide +kernel
theorem dX7_addMember_21 : decode cX7_addMember 21 = .ok (.iload_n 2, 1) := by decide +kernel
theorem dX7_addMember_22 : decode cX7_addMember 22 = .ok (.invokevirtual 55, 3) := by decide +kernel
theorem dX7_addMember_25 : decode cX7_addMember 25 = .ok (.istore_n 3, 1) := by decide +kernel
theorem dX7_addMember_26 : decode cX7_addMember 26 = .ok (.aload_n 0, 1) := by decide +kernel
theorem dX7_addMember_27 : decode cX7_addMember 27 = .ok (.invokevirtual 59, 3) := by decide +kernel
theorem dX7_addMember_30 : decode cX7_addMember 30 = .ok (.iload_n 3, 1) := by decide +kernel
theorem dX7_addMember_31 : decode cX7_addMember 31 = .ok (.ireturn, 1) := by decide +kernel
theorem dX7_memberCount_0 : decode cX7_memberCount 0 = .ok (.aload_n 0, 1) := by decide +kernel
theorem dX7_memberCount_1 : decode cX7_memberCount 1 = .ok (.getfield 12, 3) := by decide +kernel
theorem dX7_memberCount_4 : decode cX7_memberCount 4 = .ok (.getfield 62, 3) := by decide +kernel
theorem dX7_memberCount_7 : decode cX7_memberCount 7 = .ok (.ireturn, 1) := by decide +kernel
theorem dX7_roofOf_0 : decode cX7_roofOf 0 = .ok (.aload_n 0, 1) := by decide +kernel
theorem dX7_roofOf_1 : decode cX7_roofOf 1 = .ok (.iload_n 1, 1) := by decide +kernel
theorem dX7_roofOf_2 : decode cX7_roofOf 2 = .ok (.invokevirtual 65, 3) := by decide +kernel
theorem dX7_roofOf_5 : decode cX7_roofOf 5 = .ok (.getfield 69, 3) := by decide +kernel
theorem dX7_roofOf_8 : decode cX7_roofOf 8 = .ok (.ireturn, 1) := by decide +kernel
theorem dX7_membersOn_0 : decode cX7_membersOn 0 = .ok (.iload_n 1, 1) := by decide +kernel
theorem dX7_membersOn_1 : decode cX7_membersOn 1 = .ok (.invokestatic 74, 3) := by decide +kernel
theorem dX7_membersOn_4 : decode cX7_membersOn 4 = .ok (.aload_n 0, 1) := by decide +kernel
theorem dX7_membersOn_5 : decode cX7_membersOn 5 = .ok (.getfield 12, 3) := by decide +kernel
theorem dX7_membersOn_8 : decode cX7_membersOn 8 = .ok (.iload_n 1, 1) := by decide +kernel
theorem dX7_membersOn_9 : decode cX7_membersOn 9 = .ok (.invokevirtual 78, 3) := by decide +kernel
theorem dX7_membersOn_12 : decode cX7_membersOn 12 = .ok (.ireturn, 1) := by decide +kernel
theorem dX7_rateOf_0 : decode cX7_rateOf 0 = .ok (.aload_n 0, 1) := by decide +kernel
theorem dX7_rateOf_1 : decode cX7_rateOf 1 = .ok (.iload_n 1, 1) := by decide +kernel
theorem dX7_rateOf_2 : decode cX7_rateOf 2 = .ok (.invokevirtual 65, 3) := by decide +kernel
theorem dX7_rateOf_5 : decode cX7_rateOf 5 = .ok (.getfield 82, 3) := by decide +kernel
theorem dX7_rateOf_8 : decode cX7_rateOf 8 = .ok (.ireturn, 1) := by decide +kernel
theorem dX7_bearingOf_0 : decode cX7_bearingOf 0 = .ok (.aload_n 0, 1) := by decide +kernel
theorem dX7_bearingOf_1 : decode cX7_bearingOf 1 = .ok (.iload_n 1, 1) := by decide +kernel
theorem dX7_bearingOf_2 : decode cX7_bearingOf 2 = .ok (.invokevirtual 65, 3) := by decide +kernel
theorem dX7_bearingOf_5 : decode cX7_bearingOf 5 = .ok (.getfield 85, 3) := by decide +kernel
theorem dX7_bearingOf_8 : decode cX7_bearingOf 8 = .ok (.ireturn, 1) := by decide +kernel
theorem dX7_wagesOf_0 : decode cX7_wagesOf 0 = .ok (.aload_n 0, 1) := by decide +kernel
theorem dX7_wagesOf_1 : decode cX7_wagesOf 1 = .ok (.iload_n 1, 1) := by decide +kernel
theorem dX7_wagesOf_2 : decode cX7_wagesOf 2 = .ok (.invokevirtual 65, 3) := by decide +kernel
theorem dX7_wagesOf_5 : decode cX7_wagesOf 5 = .ok (.getfield 88, 3) := by decide +kernel
theorem dX7_wagesOf_8 : decode cX7_wagesOf 8 = .ok (.ireturn, 1) := by decide +kernel
theorem dX7_supportOf_0 : decode cX7_supportOf 0 = .ok (.aload_n 0, 1) := by decide +kernel
theorem dX7_supportOf_1 : decode cX7_supportOf 1 = .ok (.iload_n 1, 1) := by decide +kernel
theorem dX7_supportOf_2 : decode cX7_supportOf 2 = .ok (.invokevirtual 65, 3) := by decide +kernel
theorem dX7_supportOf_5 : decode cX7_supportOf 5 = .ok (.getfield 91, 3) := by decide +kernel
theorem dX7_supportOf_8 : decode cX7_supportOf 8 = .ok (.ireturn, 1) := by decide +kernel
theorem dX7_lostShifts_0 : decode cX7_lostShifts 0 = .ok (.aload_n 0, 1) := by decide +kernel
theorem dX7_lostShifts_1 : decode cX7_lostShifts 1 = .ok (.iload_n 1, 1) := by decide +kernel
theorem dX7_lostShifts_2 : decode cX7_lostShifts 2 = .ok (.invokevirtual 65, 3) := by decide +kernel
theorem dX7_lostShifts_5 : decode cX7_lostShifts 5 = .ok (.getfield 94, 3) := by decide +kernel
theorem dX7_lostShifts_8 : decode cX7_lostShifts 8 = .ok (.ireturn, 1) := by decide +kernel
theorem dX7_lostDays_0 : decode cX7_lostDays 0 = .ok (.aload_n 0, 1) := by decide +kernel
theorem dX7_lostDays_1 : decode cX7_lostDays 1 = .ok (.iload_n 1, 1) := by decide +kernel
theorem dX7_lostDays_2 : decode cX7_lostDays 2 = .ok (.invokevirtual 65, 3) := by decide +kernel
theorem dX7_lostDays_5 : decode cX7_lostDays 5 = .ok (.getfield 94, 3) := by decide +kernel
theorem dX7_lostDays_8 : decode cX7_lostDays 8 = .ok (.i2f, 1) := by decide +kernel
theorem dX7_lostDays_9 : decode cX7_lostDays 9 = .ok (.ldc 97, 2) := by decide +kernel
theorem dX7_lostDays_11 : decode cX7_lostDays 11 = .ok (.fdiv, 1) := by decide +kernel
theorem dX7_lostDays_12 : decode cX7_lostDays 12 = .ok (.freturn, 1) := by decide +kernel
theorem dX7_dutiesOf_0 : decode cX7_dutiesOf 0 = .ok (.aload_n 0, 1) := by decide +kernel
theorem dX7_dutiesOf_1 : decode cX7_dutiesOf 1 = .ok (.iload_n 1, 1) := by decide +kernel
theorem dX7_dutiesOf_2 : decode cX7_dutiesOf 2 = .ok (.invokevirtual 65, 3) := by decide +kernel
theorem dX7_dutiesOf_5 : decode cX7_dutiesOf 5 = .ok (.getfield 98, 3) := by decide +kernel
theorem dX7_dutiesOf_8 : decode cX7_dutiesOf 8 = .ok (.ireturn, 1) := by decide +kernel
theorem dX7_memberAtRank_0 : decode cX7_memberAtRank 0 = .ok (.aload_n 0, 1) := by decide +kernel
theorem dX7_memberAtRank_1 : decode cX7_memberAtRank 1 = .ok (.getfield 12, 3) := by decide +kernel
theorem dX7_memberAtRank_4 : decode cX7_memberAtRank 4 = .ok (.iload_n 1, 1) := by decide +kernel
theorem dX7_memberAtRank_5 : decode cX7_memberAtRank 5 = .ok (.invokevirtual 101, 3) := by decide +kernel
theorem dX7_memberAtRank_8 : decode cX7_memberAtRank 8 = .ok (.istore_n 2, 1) := by decide +kernel
theorem dX7_memberAtRank_9 : decode cX7_memberAtRank 9 = .ok (.iload_n 2, 1) := by decide +kernel
theorem dX7_memberAtRank_10 : decode cX7_memberAtRank 10 = .ok (.iconst (-1), 1) := by decide +kernel
theorem dX7_memberAtRank_11 : decode cX7_memberAtRank 11 = .ok (.if_icmp .ne 13, 3) := by decide +kernel
theorem dX7_memberAtRank_14 : decode cX7_memberAtRank 14 = .ok (.new 104, 3) := by decide +kernel
theorem dX7_memberAtRank_17 : decode cX7_memberAtRank 17 = .ok (.dup, 1) := by decide +kernel
theorem dX7_memberAtRank_18 : decode cX7_memberAtRank 18 = .ok (.ldc 106, 2) := by decide +kernel
theorem dX7_memberAtRank_20 : decode cX7_memberAtRank 20 = .ok (.invokespecial 108, 3) := by decide +kernel
theorem dX7_memberAtRank_23 : decode cX7_memberAtRank 23 = .ok (.athrow, 1) := by decide +kernel
theorem dX7_memberAtRank_24 : decode cX7_memberAtRank 24 = .ok (.iload_n 2, 1) := by decide +kernel
theorem dX7_memberAtRank_25 : decode cX7_memberAtRank 25 = .ok (.ireturn, 1) := by decide +kernel
theorem dX7_setWind_0 : decode cX7_setWind 0 = .ok (.aload_n 0, 1) := by decide +kernel
theorem dX7_setWind_1 : decode cX7_setWind 1 = .ok (.getfield 12, 3) := by decide +kernel
theorem dX7_setWind_4 : decode cX7_setWind 4 = .ok (.iload_n 1, 1) := by decide +kernel
theorem dX7_setWind_5 : decode cX7_setWind 5 = .ok (.iload_n 2, 1) := by decide +kernel
theorem dX7_setWind_6 : decode cX7_setWind 6 = .ok (.invokevirtual 111, 3) := by decide +kernel
theorem dX7_setWind_9 : decode cX7_setWind 9 = .ok (.invokestatic 48, 3) := by decide +kernel
theorem dX7_setWind_12 : decode cX7_setWind 12 = .ok (.aload_n 0, 1) := by decide +kernel
theorem dX7_setWind_13 : decode cX7_setWind 13 = .ok (.invokevirtual 52, 3) := by decide +kernel
theorem dX7_setWind_16 : decode cX7_setWind 16 = .ok (.aload_n 0, 1) := by decide +kernel
theorem dX7_setWind_17 : decode cX7_setWind 17 = .ok (.getfield 12, 3) := by decide +kernel
theorem dX7_setWind_20 : decode cX7_setWind 20 = .ok (.iload_n 1, 1) := by decide +kernel
theorem dX7_setWind_21 : decode cX7_setWind 21 = .ok (.iload_n 2, 1) := by decide +kernel
theorem dX7_setWind_22 : decode cX7_setWind 22 = .ok (.invokevirtual 114, 3) := by decide +kernel
theorem dX7_setWind_25 : decode cX7_setWind 25 = .ok (.istore_n 3, 1) := by decide +kernel
theorem dX7_setWind_26 : decode cX7_setWind 26 = .ok (.aload_n 0, 1) := by decide +kernel
theorem dX7_setWind_27 : decode cX7_setWind 27 = .ok (.invokevirtual 59, 3) := by decide +kernel
theorem dX7_setWind_30 : decode cX7_setWind 30 = .ok (.iload_n 3, 1) := by decide +kernel
theorem dX7_setWind_31 : decode cX7_setWind 31 = .ok (.ireturn, 1) := by decide +kernel
theorem dX7_windDirection_0 : decode cX7_windDirection 0 = .ok (.aload_n 0, 1) := by decide +kernel
theorem dX7_windDirection_1 : decode cX7_windDirection 1 = .ok (.getfield 12, 3) := by decide +kernel
theorem dX7_windDirection_4 : decode cX7_windDirection 4 = .ok (.getfield 117, 3) := by decide +kernel
theorem dX7_windDirection_7 : decode cX7_windDirection 7 = .ok (.ireturn, 1) := by decide +kernel
theorem dX7_windSpeed_0 : decode cX7_windSpeed 0 = .ok (.aload_n 0, 1) := by decide +kernel
theorem dX7_windSpeed_1 : decode cX7_windSpeed 1 = .ok (.getfield 12, 3) := by decide +kernel
theorem dX7_windSpeed_4 : decode cX7_windSpeed 4 = .ok (.getfield 120, 3) := by decide +kernel
theorem dX7_windSpeed_7 : decode cX7_windSpeed 7 = .ok (.ireturn, 1) := by decide +kernel
theorem dX7_stepsToWind_0 : decode cX7_stepsToWind 0 = .ok (.aload_n 0, 1) := by decide +kernel
theorem dX7_stepsToWind_1 : decode cX7_stepsToWind 1 = .ok (.iload_n 1, 1) := by decide +kernel
theorem dX7_stepsToWind_2 : decode cX7_stepsToWind 2 = .ok (.invokevirtual 65, 3) := by decide +kernel
theorem dX7_stepsToWind_5 : decode cX7_stepsToWind 5 = .ok (.getfield 85, 3) := by decide +kernel
theorem dX7_stepsToWind_8 : decode cX7_stepsToWind 8 = .ok (.aload_n 0, 1) := by decide +kernel
theorem dX7_stepsToWind_9 : decode cX7_stepsToWind 9 = .ok (.getfield 12, 3) := by decide +kernel
theorem dX7_stepsToWind_12 : decode cX7_stepsToWind 12 = .ok (.getfield 117, 3) := by decide +kernel
theorem dX7_stepsToWind_15 : decode cX7_stepsToWind 15 = .ok (.invokestatic 123, 3) := by decide +kernel
theorem dX7_stepsToWind_18 : decode cX7_stepsToWind 18 = .ok (.ireturn, 1) := by decide +kernel
theorem dX7_stepsToWindByTurning_0 : decode cX7_stepsToWindByTurning 0 = .ok (.aload_n 0, 1) := by decide +kernel
theorem dX7_stepsToWindByTurning_1 : decode cX7_stepsToWindByTurning 1 = .ok (.iload_n 1, 1) := by decide +kernel
theorem dX7_stepsToWindByTurning_2 : decode cX7_stepsToWindByTurning 2 = .ok (.invokevirtual 65, 3) := by decide +kernel
theorem dX7_stepsToWindByTurning_5 : decode cX7_stepsToWindByTurning 5 = .ok (.getfield 85, 3) := by decide +kernel
theorem dX7_stepsToWindByTurning_8 : decode cX7_stepsToWindByTurning 8 = .ok (.aload_n 0, 1) := by decide +kernel
theorem dX7_stepsToWindByTurning_9 : decode cX7_stepsToWindByTurning 9 = .ok (.getfield 12, 3) := by decide +kernel
theorem dX7_stepsToWindByTurning_12 : decode cX7_stepsToWindByTurning 12 = .ok (.getfield 117, 3) := by decide +kernel
theorem dX7_stepsToWindByTurning_15 : decode cX7_stepsToWindByTurning 15 = .ok (.invokestatic 126, 3) := by decide +kernel
theorem dX7_stepsToWindByTurning_18 : decode cX7_stepsToWindByTurning 18 = .ok (.ireturn, 1) := by decide +kernel
theorem dX7_passShifts_0 : decode cX7_passShifts 0 = .ok (.aload_n 0, 1) := by decide +kernel
theorem dX7_passShifts_1 : decode cX7_passShifts 1 = .ok (.getfield 12, 3) := by decide +kernel
theorem dX7_passShifts_4 : decode cX7_passShifts 4 = .ok (.iload_n 1, 1) := by decide +kernel
theorem dX7_passShifts_5 : decode cX7_passShifts 5 = .ok (.invokevirtual 129, 3) := by decide +kernel
theorem dX7_passShifts_8 : decode cX7_passShifts 8 = .ok (.invokestatic 48, 3) := by decide +kernel
theorem dX7_passShifts_11 : decode cX7_passShifts 11 = .ok (.aload_n 0, 1) := by decide +kernel
theorem dX7_passShifts_12 : decode cX7_passShifts 12 = .ok (.invokevirtual 52, 3) := by decide +kernel
theorem dX7_passShifts_15 : decode cX7_passShifts 15 = .ok (.aload_n 0, 1) := by decide +kernel
theorem dX7_passShifts_16 : decode cX7_passShifts 16 = .ok (.getfield 12, 3) := by decide +kernel
theorem dX7_passShifts_19 : decode cX7_passShifts 19 = .ok (.iload_n 1, 1) := by decide +kernel
theorem dX7_passShifts_20 : decode cX7_passShifts 20 = .ok (.invokevirtual 133, 3) := by decide +kernel
theorem dX7_passShifts_23 : decode cX7_passShifts 23 = .ok (.istore_n 2, 1) := by decide +kernel
theorem dX7_passShifts_24 : decode cX7_passShifts 24 = .ok (.aload_n 0, 1) := by decide +kernel
theorem dX7_passShifts_25 : decode cX7_passShifts 25 = .ok (.invokevirtual 59, 3) := by decide +kernel
theorem dX7_passShifts_28 : decode cX7_passShifts 28 = .ok (.iload_n 2, 1) := by decide +kernel
theorem dX7_passShifts_29 : decode cX7_passShifts 29 = .ok (.ireturn, 1) := by decide +kernel
theorem dX7_shiftCount_0 : decode cX7_shiftCount 0 = .ok (.aload_n 0, 1) := by decide +kernel
theorem dX7_shiftCount_1 : decode cX7_shiftCount 1 = .ok (.getfield 12, 3) := by decide +kernel
theorem dX7_shiftCount_4 : decode cX7_shiftCount 4 = .ok (.getfield 136, 3) := by decide +kernel
theorem dX7_shiftCount_7 : decode cX7_shiftCount 7 = .ok (.ireturn, 1) := by decide +kernel
theorem dX7_day_0 : decode cX7_day 0 = .ok (.aload_n 0, 1) := by decide +kernel
theorem dX7_day_1 : decode cX7_day 1 = .ok (.getfield 12, 3) := by decide +kernel
theorem dX7_day_4 : decode cX7_day 4 = .ok (.getfield 136, 3) := by decide +kernel
theorem dX7_day_7 : decode cX7_day 7 = .ok (.iconst 3, 1) := by decide +kernel
theorem dX7_day_8 : decode cX7_day 8 = .ok (.idiv, 1) := by decide +kernel
theorem dX7_day_9 : decode cX7_day 9 = .ok (.ireturn, 1) := by decide +kernel
theorem dX7_vote_0 : decode cX7_vote 0 = .ok (.aload_n 0, 1) := by decide +kernel
theorem dX7_vote_1 : decode cX7_vote 1 = .ok (.getfield 12, 3) := by decide +kernel
theorem dX7_vote_4 : decode cX7_vote 4 = .ok (.iload_n 1, 1) := by decide +kernel
theorem dX7_vote_5 : decode cX7_vote 5 = .ok (.invokevirtual 139, 3) := by decide +kernel
theorem dX7_vote_8 : decode cX7_vote 8 = .ok (.invokestatic 48, 3) := by decide +kernel
theorem dX7_vote_11 : decode cX7_vote 11 = .ok (.aload_n 0, 1) := by decide +kernel
theorem dX7_vote_12 : decode cX7_vote 12 = .ok (.invokevirtual 52, 3) := by decide +kernel
theorem dX7_vote_15 : decode cX7_vote 15 = .ok (.aload_n 0, 1) := by decide +kernel
theorem dX7_vote_16 : decode cX7_vote 16 = .ok (.getfield 12, 3) := by decide +kernel
theorem dX7_vote_19 : decode cX7_vote 19 = .ok (.iload_n 1, 1) := by decide +kernel
theorem dX7_vote_20 : decode cX7_vote 20 = .ok (.iload_n 2, 1) := by decide +kernel
theorem dX7_vote_21 : decode cX7_vote 21 = .ok (.invokevirtual 142, 3) := by decide +kernel
theorem dX7_vote_24 : decode cX7_vote 24 = .ok (.istore_n 3, 1) := by decide +kernel
theorem dX7_vote_25 : decode cX7_vote 25 = .ok (.aload_n 0, 1) := by decide +kernel
theorem dX7_vote_26 : decode cX7_vote 26 = .ok (.invokevirtual 59, 3) := by decide +kernel
theorem dX7_vote_29 : decode cX7_vote 29 = .ok (.iload_n 3, 1) := by decide +kernel
theorem dX7_vote_30 : decode cX7_vote 30 = .ok (.ireturn, 1) := by decide +kernel
theorem dX7_votesFor_0 : decode cX7_votesFor 0 = .ok (.aload_n 0, 1) := by decide +kernel
theorem dX7_votesFor_1 : decode cX7_votesFor 1 = .ok (.getfield 12, 3) := by decide +kernel
theorem dX7_votesFor_4 : decode cX7_votesFor 4 = .ok (.invokevirtual 146, 3) := by decide +kernel
theorem dX7_votesFor_7 : decode cX7_votesFor 7 = .ok (.ireturn, 1) := by decide +kernel
theorem dX7_hasVoted_0 : decode cX7_hasVoted 0 = .ok (.aload_n 0, 1) := by decide +kernel
theorem dX7_hasVoted_1 : decode cX7_hasVoted 1 = .ok (.iload_n 1, 1) := by decide +kernel
theorem dX7_hasVoted_2 : decode cX7_hasVoted 2 = .ok (.invokevirtual 65, 3) := by decide +kernel
theorem dX7_hasVoted_5 : decode cX7_hasVoted 5 = .ok (.getfield 150, 3) := by decide +kernel
theorem dX7_hasVoted_8 : decode cX7_hasVoted 8 = .ok (.ifCond .eq 7, 3) := by decide +kernel
theorem dX7_hasVoted_11 : decode cX7_hasVoted 11 = .ok (.iconst 1, 1) := by decide +kernel
theorem dX7_hasVoted_12 : decode cX7_hasVoted 12 = .ok (.goto 4, 3) := by decide +kernel
theorem dX7_hasVoted_15 : decode cX7_hasVoted 15 = .ok (.iconst 0, 1) := by decide +kernel
theorem dX7_hasVoted_16 : decode cX7_hasVoted 16 = .ok (.ireturn, 1) := by decide +kernel
theorem dX7_callStrike_0 : decode cX7_callStrike 0 = .ok (.aload_n 0, 1) := by decide +kernel
theorem dX7_callStrike_1 : decode cX7_callStrike 1 = .ok (.getfield 12, 3) := by decide +kernel
theorem dX7_callStrike_4 : decode cX7_callStrike 4 = .ok (.invokevirtual 153, 3) := by decide +kernel
theorem dX7_callStrike_7 : decode cX7_callStrike 7 = .ok (.invokestatic 48, 3) := by decide +kernel
theorem dX7_callStrike_10 : decode cX7_callStrike 10 = .ok (.aload_n 0, 1) := by decide +kernel
theorem dX7_callStrike_11 : decode cX7_callStrike 11 = .ok (.invokevirtual 52, 3) := by decide +kernel
theorem dX7_callStrike_14 : decode cX7_callStrike 14 = .ok (.aload_n 0, 1) := by decide +kernel
theorem dX7_callStrike_15 : decode cX7_callStrike 15 = .ok (.getfield 12, 3) := by decide +kernel
theorem dX7_callStrike_18 : decode cX7_callStrike 18 = .ok (.invokevirtual 157, 3) := by decide +kernel
theorem dX7_callStrike_21 : decode cX7_callStrike 21 = .ok (.istore_n 1, 1) := by decide +kernel
theorem dX7_callStrike_22 : decode cX7_callStrike 22 = .ok (.aload_n 0, 1) := by decide +kernel
theorem dX7_callStrike_23 : decode cX7_callStrike 23 = .ok (.invokevirtual 59, 3) := by decide +kernel
theorem dX7_callStrike_26 : decode cX7_callStrike 26 = .ok (.iload_n 1, 1) := by decide +kernel
theorem dX7_callStrike_27 : decode cX7_callStrike 27 = .ok (.ireturn, 1) := by decide +kernel
theorem dX7_isOnStrike_0 : decode cX7_isOnStrike 0 = .ok (.aload_n 0, 1) := by decide +kernel
theorem dX7_isOnStrike_1 : decode cX7_isOnStrike 1 = .ok (.getfield 12, 3) := by decide +kernel
theorem dX7_isOnStrike_4 : decode cX7_isOnStrike 4 = .ok (.getfield 160, 3) := by decide +kernel
theorem dX7_isOnStrike_7 : decode cX7_isOnStrike 7 = .ok (.ireturn, 1) := by decide +kernel
theorem dX7_strikeShifts_0 : decode cX7_strikeShifts 0 = .ok (.aload_n 0, 1) := by decide +kernel
theorem dX7_strikeShifts_1 : decode cX7_strikeShifts 1 = .ok (.getfield 12, 3) := by decide +kernel
theorem dX7_strikeShifts_4 : decode cX7_strikeShifts 4 = .ok (.getfield 160, 3) := by decide +kernel
theorem dX7_strikeShifts_7 : decode cX7_strikeShifts 7 = .ok (.ifCond .ne 13, 3) := by decide +kernel
theorem dX7_strikeShifts_10 : decode cX7_strikeShifts 10 = .ok (.new 164, 3) := by decide +kernel
theorem dX7_strikeShifts_13 : decode cX7_strikeShifts 13 = .ok (.dup, 1) := by decide +kernel
theorem dX7_strikeShifts_14 : decode cX7_strikeShifts 14 = .ok (.ldc 166, 2) := by decide +kernel
theorem dX7_strikeShifts_16 : decode cX7_strikeShifts 16 = .ok (.invokespecial 168, 3) := by decide +kernel
theorem dX7_strikeShifts_19 : decode cX7_strikeShifts 19 = .ok (.athrow, 1) := by decide +kernel
theorem dX7_strikeShifts_20 : decode cX7_strikeShifts 20 = .ok (.aload_n 0, 1) := by decide +kernel
theorem dX7_strikeShifts_21 : decode cX7_strikeShifts 21 = .ok (.getfield 12, 3) := by decide +kernel
theorem dX7_strikeShifts_24 : decode cX7_strikeShifts 24 = .ok (.getfield 169, 3) := by decide +kernel
theorem dX7_strikeShifts_27 : decode cX7_strikeShifts 27 = .ok (.ireturn, 1) := by decide +kernel
theorem dX7_payIn_0 : decode cX7_payIn 0 = .ok (.aload_n 0, 1) := by decide +kernel
theorem dX7_payIn_1 : decode cX7_payIn 1 = .ok (.getfield 12, 3) := by decide +kernel
theorem dX7_payIn_4 : decode cX7_payIn 4 = .ok (.iload_n 1, 1) := by decide +kernel
theorem dX7_payIn_5 : decode cX7_payIn 5 = .ok (.invokevirtual 172, 3) := by decide +kernel
theorem dX7_payIn_8 : decode cX7_payIn 8 = .ok (.invokestatic 48, 3) := by decide +kernel
theorem dX7_payIn_11 : decode cX7_payIn 11 = .ok (.aload_n 0, 1) := by decide +kernel
theorem dX7_payIn_12 : decode cX7_payIn 12 = .ok (.invokevirtual 52, 3) := by decide +kernel
theorem dX7_payIn_15 : decode cX7_payIn 15 = .ok (.aload_n 0, 1) := by decide +kernel
theorem dX7_payIn_16 : decode cX7_payIn 16 = .ok (.getfield 12, 3) := by decide +kernel
theorem dX7_payIn_19 : decode cX7_payIn 19 = .ok (.iload_n 1, 1) := by decide +kernel
theorem dX7_payIn_20 : decode cX7_payIn 20 = .ok (.invokevirtual 175, 3) := by decide +kernel
theorem dX7_payIn_23 : decode cX7_payIn 23 = .ok (.istore_n 2, 1) := by decide +kernel
theorem dX7_payIn_24 : decode cX7_payIn 24 = .ok (.aload_n 0, 1) := by decide +kernel
theorem dX7_payIn_25 : decode cX7_payIn 25 = .ok (.invokevirtual 59, 3) := by decide +kernel
theorem dX7_payIn_28 : decode cX7_payIn 28 = .ok (.iload_n 2, 1) := by decide +kernel
theorem dX7_payIn_29 : decode cX7_payIn 29 = .ok (.ireturn, 1) := by decide +kernel
theorem dX7_fund_0 : decode cX7_fund 0 = .ok (.aload_n 0, 1) := by decide +kernel
theorem dX7_fund_1 : decode cX7_fund 1 = .ok (.getfield 12, 3) := by decide +kernel
theorem dX7_fund_4 : decode cX7_fund 4 = .ok (.getfield 178, 3) := by decide +kernel
theorem dX7_fund_7 : decode cX7_fund 7 = .ok (.ireturn, 1) := by decide +kernel
theorem dX7_fundedShifts_0 : decode cX7_fundedShifts 0 = .ok (.aload_n 0, 1) := by decide +kernel
theorem dX7_fundedShifts_1 : decode cX7_fundedShifts 1 = .ok (.invokevirtual 181, 3) := by decide +kernel
theorem dX7_fundedShifts_4 : decode cX7_fundedShifts 4 = .ok (.aload_n 0, 1) := by decide +kernel
theorem dX7_fundedShifts_5 : decode cX7_fundedShifts 5 = .ok (.getfield 12, 3) := by decide +kernel
theorem dX7_fundedShifts_8 : decode cX7_fundedShifts 8 = .ok (.invokevirtual 184, 3) := by decide +kernel
theorem dX7_fundedShifts_11 : decode cX7_fundedShifts 11 = .ok (.ireturn, 1) := by decide +kernel
theorem dX7_fundedShiftsByPaying_0 : decode cX7_fundedShiftsByPaying 0 = .ok (.aload_n 0, 1) := by decide +kernel
theorem dX7_fundedShiftsByPaying_1 : decode cX7_fundedShiftsByPaying 1 = .ok (.invokevirtual 181, 3) := by decide +kernel
theorem dX7_fundedShiftsByPaying_4 : decode cX7_fundedShiftsByPaying 4 = .ok (.aload_n 0, 1) := by decide +kernel
theorem dX7_fundedShiftsByPaying_5 : decode cX7_fundedShiftsByPaying 5 = .ok (.getfield 12, 3) := by decide +kernel
theorem dX7_fundedShiftsByPaying_8 : decode cX7_fundedShiftsByPaying 8 = .ok (.invokevirtual 187, 3) := by decide +kernel
theorem dX7_fundedShiftsByPaying_11 : decode cX7_fundedShiftsByPaying 11 = .ok (.ireturn, 1) := by decide +kernel
theorem dX7_signUp_0 : decode cX7_signUp 0 = .ok (.aload_n 0, 1) := by decide +kernel
theorem dX7_signUp_1 : decode cX7_signUp 1 = .ok (.getfield 12, 3) := by decide +kernel
theorem dX7_signUp_4 : decode cX7_signUp 4 = .ok (.iload_n 1, 1) := by decide +kernel
theorem dX7_signUp_5 : decode cX7_signUp 5 = .ok (.iload_n 2, 1) := by decide +kernel
theorem dX7_signUp_6 : decode cX7_signUp 6 = .ok (.invokevirtual 190, 3) := by decide +kernel
theorem dX7_signUp_9 : decode cX7_signUp 9 = .ok (.invokestatic 48, 3) := by decide +kernel
theorem dX7_signUp_12 : decode cX7_signUp 12 = .ok (.aload_n 0, 1) := by decide +kernel
theorem dX7_signUp_13 : decode cX7_signUp 13 = .ok (.invokevirtual 52, 3) := by decide +kernel
theorem dX7_signUp_16 : decode cX7_signUp 16 = .ok (.aload_n 0, 1) := by decide +kernel
theorem dX7_signUp_17 : decode cX7_signUp 17 = .ok (.getfield 12, 3) := by decide +kernel
theorem dX7_signUp_20 : decode cX7_signUp 20 = .ok (.iload_n 1, 1) := by decide +kernel
theorem dX7_signUp_21 : decode cX7_signUp 21 = .ok (.iload_n 2, 1) := by decide +kernel
theorem dX7_signUp_22 : decode cX7_signUp 22 = .ok (.invokevirtual 193, 3) := by decide +kernel
theorem dX7_signUp_25 : decode cX7_signUp 25 = .ok (.istore_n 3, 1) := by decide +kernel
theorem dX7_signUp_26 : decode cX7_signUp 26 = .ok (.aload_n 0, 1) := by decide +kernel
theorem dX7_signUp_27 : decode cX7_signUp 27 = .ok (.invokevirtual 59, 3) := by decide +kernel
theorem dX7_signUp_30 : decode cX7_signUp 30 = .ok (.iload_n 3, 1) := by decide +kernel
theorem dX7_signUp_31 : decode cX7_signUp 31 = .ok (.ireturn, 1) := by decide +kernel
theorem dX7_strikeOff_0 : decode cX7_strikeOff 0 = .ok (.aload_n 0, 1) := by decide +kernel
theorem dX7_strikeOff_1 : decode cX7_strikeOff 1 = .ok (.getfield 12, 3) := by decide +kernel
theorem dX7_strikeOff_4 : decode cX7_strikeOff 4 = .ok (.iload_n 1, 1) := by decide +kernel
theorem dX7_strikeOff_5 : decode cX7_strikeOff 5 = .ok (.invokevirtual 196, 3) := by decide +kernel
theorem dX7_strikeOff_8 : decode cX7_strikeOff 8 = .ok (.invokestatic 48, 3) := by decide +kernel
theorem dX7_strikeOff_11 : decode cX7_strikeOff 11 = .ok (.aload_n 0, 1) := by decide +kernel
theorem dX7_strikeOff_12 : decode cX7_strikeOff 12 = .ok (.invokevirtual 52, 3) := by decide +kernel
theorem dX7_strikeOff_15 : decode cX7_strikeOff 15 = .ok (.aload_n 0, 1) := by decide +kernel
theorem dX7_strikeOff_16 : decode cX7_strikeOff 16 = .ok (.getfield 12, 3) := by decide +kernel
theorem dX7_strikeOff_19 : decode cX7_strikeOff 19 = .ok (.iload_n 1, 1) := by decide +kernel
theorem dX7_strikeOff_20 : decode cX7_strikeOff 20 = .ok (.invokevirtual 199, 3) := by decide +kernel
theorem dX7_strikeOff_23 : decode cX7_strikeOff 23 = .ok (.istore_n 2, 1) := by decide +kernel
theorem dX7_strikeOff_24 : decode cX7_strikeOff 24 = .ok (.aload_n 0, 1) := by decide +kernel
theorem dX7_strikeOff_25 : decode cX7_strikeOff 25 = .ok (.invokevirtual 59, 3) := by decide +kernel
theorem dX7_strikeOff_28 : decode cX7_strikeOff 28 = .ok (.iload_n 2, 1) := by decide +kernel
theorem dX7_strikeOff_29 : decode cX7_strikeOff 29 = .ok (.ireturn, 1) := by decide +kernel
theorem dX7_listLength_0 : decode cX7_listLength 0 = .ok (.iload_n 1, 1) := by decide +kernel
theorem dX7_listLength_1 : decode cX7_listLength 1 = .ok (.invokestatic 74, 3) := by decide +kernel
theorem dX7_listLength_4 : decode cX7_listLength 4 = .ok (.aload_n 0, 1) := by decide +kernel
theorem dX7_listLength_5 : decode cX7_listLength 5 = .ok (.getfield 12, 3) := by decide +kernel
theorem dX7_listLength_8 : decode cX7_listLength 8 = .ok (.iload_n 1, 1) := by decide +kernel
theorem dX7_listLength_9 : decode cX7_listLength 9 = .ok (.invokevirtual 202, 3) := by decide +kernel
theorem dX7_listLength_12 : decode cX7_listLength 12 = .ok (.ireturn, 1) := by decide +kernel
theorem dX7_listedAt_0 : decode cX7_listedAt 0 = .ok (.iload_n 1, 1) := by decide +kernel
theorem dX7_listedAt_1 : decode cX7_listedAt 1 = .ok (.invokestatic 74, 3) := by decide +kernel
theorem dX7_listedAt_4 : decode cX7_listedAt 4 = .ok (.aload_n 0, 1) := by decide +kernel
theorem dX7_listedAt_5 : decode cX7_listedAt 5 = .ok (.getfield 12, 3) := by decide +kernel
theorem dX7_listedAt_8 : decode cX7_listedAt 8 = .ok (.iload_n 1, 1) := by decide +kernel
theorem dX7_listedAt_9 : decode cX7_listedAt 9 = .ok (.iload_n 2, 1) := by decide +kernel
theorem dX7_listedAt_10 : decode cX7_listedAt 10 = .ok (.invokevirtual 205, 3) := by decide +kernel
theorem dX7_listedAt_13 : decode cX7_listedAt 13 = .ok (.istore_n 3, 1) := by decide +kernel
theorem dX7_listedAt_14 : decode cX7_listedAt 14 = .ok (.iload_n 3, 1) := by decide +kernel
theorem dX7_listedAt_15 : decode cX7_listedAt 15 = .ok (.iconst (-1), 1) := by decide +kernel
theorem dX7_listedAt_16 : decode cX7_listedAt 16 = .ok (.if_icmp .ne 13, 3) := by decide +kernel
theorem dX7_listedAt_19 : decode cX7_listedAt 19 = .ok (.new 104, 3) := by decide +kernel
theorem dX7_listedAt_22 : decode cX7_listedAt 22 = .ok (.dup, 1) := by decide +kernel
theorem dX7_listedAt_23 : decode cX7_listedAt 23 = .ok (.ldc 208, 2) := by decide +kernel
theorem dX7_listedAt_25 : decode cX7_listedAt 25 = .ok (.invokespecial 108, 3) := by decide +kernel
theorem dX7_listedAt_28 : decode cX7_listedAt 28 = .ok (.athrow, 1) := by decide +kernel
theorem dX7_listedAt_29 : decode cX7_listedAt 29 = .ok (.iload_n 3, 1) := by decide +kernel
theorem dX7_listedAt_30 : decode cX7_listedAt 30 = .ok (.ireturn, 1) := by decide +kernel
theorem dX7_listOf_0 : decode cX7_listOf 0 = .ok (.aload_n 0, 1) := by decide +kernel
theorem dX7_listOf_1 : decode cX7_listOf 1 = .ok (.iload_n 1, 1) := by decide +kernel
theorem dX7_listOf_2 : decode cX7_listOf 2 = .ok (.invokevirtual 65, 3) := by decide +kernel
theorem dX7_listOf_5 : decode cX7_listOf 5 = .ok (.getfield 210, 3) := by decide +kernel
theorem dX7_listOf_8 : decode cX7_listOf 8 = .ok (.istore_n 2, 1) := by decide +kernel
theorem dX7_listOf_9 : decode cX7_listOf 9 = .ok (.iload_n 2, 1) := by decide +kernel
theorem dX7_listOf_10 : decode cX7_listOf 10 = .ok (.iconst (-1), 1) := by decide +kernel
theorem dX7_listOf_11 : decode cX7_listOf 11 = .ok (.if_icmp .ne 13, 3) := by decide +kernel
theorem dX7_listOf_14 : decode cX7_listOf 14 = .ok (.new 104, 3) := by decide +kernel
theorem dX7_listOf_17 : decode cX7_listOf 17 = .ok (.dup, 1) := by decide +kernel
theorem dX7_listOf_18 : decode cX7_listOf 18 = .ok (.ldc 213, 2) := by decide +kernel
theorem dX7_listOf_20 : decode cX7_listOf 20 = .ok (.invokespecial 108, 3) := by decide +kernel
theorem dX7_listOf_23 : decode cX7_listOf 23 = .ok (.athrow, 1) := by decide +kernel
theorem dX7_listOf_24 : decode cX7_listOf 24 = .ok (.iload_n 2, 1) := by decide +kernel
theorem dX7_listOf_25 : decode cX7_listOf 25 = .ok (.ireturn, 1) := by decide +kernel
theorem dX7_makeOffer_0 : decode cX7_makeOffer 0 = .ok (.aload_n 0, 1) := by decide +kernel
theorem dX7_makeOffer_1 : decode cX7_makeOffer 1 = .ok (.getfield 12, 3) := by decide +kernel
theorem dX7_makeOffer_4 : decode cX7_makeOffer 4 = .ok (.iload_n 1, 1) := by decide +kernel
theorem dX7_makeOffer_5 : decode cX7_makeOffer 5 = .ok (.invokevirtual 215, 3) := by decide +kernel
theorem dX7_makeOffer_8 : decode cX7_makeOffer 8 = .ok (.invokestatic 48, 3) := by decide +kernel
theorem dX7_makeOffer_11 : decode cX7_makeOffer 11 = .ok (.aload_n 0, 1) := by decide +kernel
theorem dX7_makeOffer_12 : decode cX7_makeOffer 12 = .ok (.invokevirtual 52, 3) := by decide +kernel
theorem dX7_makeOffer_15 : decode cX7_makeOffer 15 = .ok (.aload_n 0, 1) := by decide +kernel
theorem dX7_makeOffer_16 : decode cX7_makeOffer 16 = .ok (.getfield 12, 3) := by decide +kernel
theorem dX7_makeOffer_19 : decode cX7_makeOffer 19 = .ok (.iload_n 1, 1) := by decide +kernel
theorem dX7_makeOffer_20 : decode cX7_makeOffer 20 = .ok (.invokevirtual 218, 3) := by decide +kernel
theorem dX7_makeOffer_23 : decode cX7_makeOffer 23 = .ok (.istore_n 2, 1) := by decide +kernel
theorem dX7_makeOffer_24 : decode cX7_makeOffer 24 = .ok (.aload_n 0, 1) := by decide +kernel
theorem dX7_makeOffer_25 : decode cX7_makeOffer 25 = .ok (.invokevirtual 59, 3) := by decide +kernel
theorem dX7_makeOffer_28 : decode cX7_makeOffer 28 = .ok (.iload_n 2, 1) := by decide +kernel
theorem dX7_makeOffer_29 : decode cX7_makeOffer 29 = .ok (.ireturn, 1) := by decide +kernel
theorem dX7_accept_0 : decode cX7_accept 0 = .ok (.aload_n 0, 1) := by decide +kernel
theorem dX7_accept_1 : decode cX7_accept 1 = .ok (.getfield 12, 3) := by decide +kernel
theorem dX7_accept_4 : decode cX7_accept 4 = .ok (.iload_n 1, 1) := by decide +kernel
theorem dX7_accept_5 : decode cX7_accept 5 = .ok (.invokevirtual 221, 3) := by decide +kernel
theorem dX7_accept_8 : decode cX7_accept 8 = .ok (.invokestatic 48, 3) := by decide +kernel
theorem dX7_accept_11 : decode cX7_accept 11 = .ok (.aload_n 0, 1) := by decide +kernel
theorem dX7_accept_12 : decode cX7_accept 12 = .ok (.invokevirtual 52, 3) := by decide +kernel
theorem dX7_accept_15 : decode cX7_accept 15 = .ok (.aload_n 0, 1) := by decide +kernel
theorem dX7_accept_16 : decode cX7_accept 16 = .ok (.getfield 12, 3) := by decide +kernel
theorem dX7_accept_19 : decode cX7_accept 19 = .ok (.iload_n 1, 1) := by decide +kernel
theorem dX7_accept_20 : decode cX7_accept 20 = .ok (.invokevirtual 224, 3) := by decide +kernel
theorem dX7_accept_23 : decode cX7_accept 23 = .ok (.istore_n 2, 1) := by decide +kernel
theorem dX7_accept_24 : decode cX7_accept 24 = .ok (.aload_n 0, 1) := by decide +kernel
theorem dX7_accept_25 : decode cX7_accept 25 = .ok (.invokevirtual 59, 3) := by decide +kernel
theorem dX7_accept_28 : decode cX7_accept 28 = .ok (.iload_n 2, 1) := by decide +kernel
theorem dX7_accept_29 : decode cX7_accept 29 = .ok (.ireturn, 1) := by decide +kernel
theorem dX7_offerPercent_0 : decode cX7_offerPercent 0 = .ok (.aload_n 0, 1) := by decide +kernel
theorem dX7_offerPercent_1 : decode cX7_offerPercent 1 = .ok (.invokevirtual 228, 3) := by decide +kernel
theorem dX7_offerPercent_4 : decode cX7_offerPercent 4 = .ok (.aload_n 0, 1) := by decide +kernel
theorem dX7_offerPercent_5 : decode cX7_offerPercent 5 = .ok (.getfield 12, 3) := by decide +kernel
theorem dX7_offerPercent_8 : decode cX7_offerPercent 8 = .ok (.getfield 231, 3) := by decide +kernel
theorem dX7_offerPercent_11 : decode cX7_offerPercent 11 = .ok (.ireturn, 1) := by decide +kernel
theorem dX7_acceptances_0 : decode cX7_acceptances 0 = .ok (.aload_n 0, 1) := by decide +kernel
theorem dX7_acceptances_1 : decode cX7_acceptances 1 = .ok (.invokevirtual 228, 3) := by decide +kernel
theorem dX7_acceptances_4 : decode cX7_acceptances 4 = .ok (.aload_n 0, 1) := by decide +kernel
theorem dX7_acceptances_5 : decode cX7_acceptances 5 = .ok (.getfield 12, 3) := by decide +kernel
theorem dX7_acceptances_8 : decode cX7_acceptances 8 = .ok (.invokevirtual 234, 3) := by decide +kernel
theorem dX7_acceptances_11 : decode cX7_acceptances 11 = .ok (.ireturn, 1) := by decide +kernel
theorem dX7_offeredRate_0 : decode cX7_offeredRate 0 = .ok (.aload_n 0, 1) := by decide +kernel
theorem dX7_offeredRate_1 : decode cX7_offeredRate 1 = .ok (.iload_n 1, 1) := by decide +kernel
theorem dX7_offeredRate_2 : decode cX7_offeredRate 2 = .ok (.invokevirtual 65, 3) := by decide +kernel
theorem dX7_offeredRate_5 : decode cX7_offeredRate 5 = .ok (.getfield 82, 3) := by decide +kernel
theorem dX7_offeredRate_8 : decode cX7_offeredRate 8 = .ok (.istore_n 2, 1) := by decide +kernel
theorem dX7_offeredRate_9 : decode cX7_offeredRate 9 = .ok (.aload_n 0, 1) := by decide +kernel
theorem dX7_offeredRate_10 : decode cX7_offeredRate 10 = .ok (.invokevirtual 228, 3) := by decide +kernel
theorem dX7_offeredRate_13 : decode cX7_offeredRate 13 = .ok (.iload_n 2, 1) := by decide +kernel
theorem dX7_offeredRate_14 : decode cX7_offeredRate 14 = .ok (.aload_n 0, 1) := by decide +kernel
theorem dX7_offeredRate_15 : decode cX7_offeredRate 15 = .ok (.getfield 12, 3) := by decide +kernel
theorem dX7_offeredRate_18 : decode cX7_offeredRate 18 = .ok (.getfield 231, 3) := by decide +kernel
theorem dX7_offeredRate_21 : decode cX7_offeredRate 21 = .ok (.invokestatic 237, 3) := by decide +kernel
theorem dX7_offeredRate_24 : decode cX7_offeredRate 24 = .ok (.ireturn, 1) := by decide +kernel
theorem dX7_wageTotal_0 : decode cX7_wageTotal 0 = .ok (.aload_n 0, 1) := by decide +kernel
theorem dX7_wageTotal_1 : decode cX7_wageTotal 1 = .ok (.getfield 12, 3) := by decide +kernel
theorem dX7_wageTotal_4 : decode cX7_wageTotal 4 = .ok (.invokevirtual 240, 3) := by decide +kernel
theorem dX7_wageTotal_7 : decode cX7_wageTotal 7 = .ok (.lreturn, 1) := by decide +kernel
theorem dX7_lostTotal_0 : decode cX7_lostTotal 0 = .ok (.aload_n 0, 1) := by decide +kernel
theorem dX7_lostTotal_1 : decode cX7_lostTotal 1 = .ok (.getfield 12, 3) := by decide +kernel
theorem dX7_lostTotal_4 : decode cX7_lostTotal 4 = .ok (.invokevirtual 244, 3) := by decide +kernel
theorem dX7_lostTotal_7 : decode cX7_lostTotal 7 = .ok (.ireturn, 1) := by decide +kernel
theorem dX7_lostTotalByRoofs_0 : decode cX7_lostTotalByRoofs 0 = .ok (.aload_n 0, 1) := by decide +kernel
theorem dX7_lostTotalByRoofs_1 : decode cX7_lostTotalByRoofs 1 = .ok (.getfield 12, 3) := by decide +kernel
theorem dX7_lostTotalByRoofs_4 : decode cX7_lostTotalByRoofs 4 = .ok (.invokevirtual 247, 3) := by decide +kernel
theorem dX7_lostTotalByRoofs_7 : decode cX7_lostTotalByRoofs 7 = .ok (.ireturn, 1) := by decide +kernel
theorem dX7_stepTotal_0 : decode cX7_stepTotal 0 = .ok (.aload_n 0, 1) := by decide +kernel
theorem dX7_stepTotal_1 : decode cX7_stepTotal 1 = .ok (.getfield 12, 3) := by decide +kernel
theorem dX7_stepTotal_4 : decode cX7_stepTotal 4 = .ok (.getfield 250, 3) := by decide +kernel
theorem dX7_stepTotal_7 : decode cX7_stepTotal 7 = .ok (.ireturn, 1) := by decide +kernel
theorem dX7_settlementCount_0 : decode cX7_settlementCount 0 = .ok (.aload_n 0, 1) := by decide +kernel
theorem dX7_settlementCount_1 : decode cX7_settlementCount 1 = .ok (.getfield 12, 3) := by decide +kernel
theorem dX7_settlementCount_4 : decode cX7_settlementCount 4 = .ok (.getfield 253, 3) := by decide +kernel
theorem dX7_settlementCount_7 : decode cX7_settlementCount 7 = .ok (.ireturn, 1) := by decide +kernel
theorem dX7_append_0 : decode cX7_append 0 = .ok (.iload_n 1, 1) := by decide +kernel
theorem dX7_append_1 : decode cX7_append 1 = .ok (.bipush 32, 2) := by decide +kernel
theorem dX7_append_3 : decode cX7_append 3 = .ok (.if_icmp .lt 9, 3) := by decide +kernel
theorem dX7_append_6 : decode cX7_append 6 = .ok (.iload_n 1, 1) := by decide +kernel
theorem dX7_append_7 : decode cX7_append 7 = .ok (.bipush 126, 2) := by decide +kernel
theorem dX7_append_9 : decode cX7_append 9 = .ok (.if_icmp .le 14, 3) := by decide +kernel
theorem dX7_append_12 : decode cX7_append 12 = .ok (.new 256, 3) := by decide +kernel
theorem dX7_append_15 : decode cX7_append 15 = .ok (.dup, 1) := by decide +kernel
theorem dX7_append_16 : decode cX7_append 16 = .ok (.ldc_w 258, 3) := by decide +kernel
theorem dX7_append_19 : decode cX7_append 19 = .ok (.invokespecial 260, 3) := by decide +kernel
theorem dX7_append_22 : decode cX7_append 22 = .ok (.athrow, 1) := by decide +kernel
theorem dX7_append_23 : decode cX7_append 23 = .ok (.aload_n 0, 1) := by decide +kernel
theorem dX7_append_24 : decode cX7_append 24 = .ok (.getfield 26, 3) := by decide +kernel
theorem dX7_append_27 : decode cX7_append 27 = .ok (.getfield 261, 3) := by decide +kernel
theorem dX7_append_30 : decode cX7_append 30 = .ok (.invokevirtual 264, 3) := by decide +kernel
theorem dX7_append_33 : decode cX7_append 33 = .ok (.bipush 60, 2) := by decide +kernel
theorem dX7_append_35 : decode cX7_append 35 = .ok (.if_icmp .lt 14, 3) := by decide +kernel
theorem dX7_append_38 : decode cX7_append 38 = .ok (.new 164, 3) := by decide +kernel
theorem dX7_append_41 : decode cX7_append 41 = .ok (.dup, 1) := by decide +kernel
theorem dX7_append_42 : decode cX7_append 42 = .ok (.ldc_w 267, 3) := by decide +kernel
theorem dX7_append_45 : decode cX7_append 45 = .ok (.invokespecial 168, 3) := by decide +kernel
theorem dX7_append_48 : decode cX7_append 48 = .ok (.athrow, 1) := by decide +kernel
theorem dX7_append_49 : decode cX7_append 49 = .ok (.aload_n 0, 1) := by decide +kernel
theorem dX7_append_50 : decode cX7_append 50 = .ok (.getfield 26, 3) := by decide +kernel
theorem dX7_append_53 : decode cX7_append 53 = .ok (.getfield 261, 3) := by decide +kernel
theorem dX7_append_56 : decode cX7_append 56 = .ok (.iload_n 1, 1) := by decide +kernel
theorem dX7_append_57 : decode cX7_append 57 = .ok (.invokevirtual 269, 3) := by decide +kernel
theorem dX7_append_60 : decode cX7_append 60 = .ok (.pop, 1) := by decide +kernel
theorem dX7_append_61 : decode cX7_append 61 = .ok (.aload_n 0, 1) := by decide +kernel
theorem dX7_append_62 : decode cX7_append 62 = .ok (.getfield 26, 3) := by decide +kernel
theorem dX7_append_65 : decode cX7_append 65 = .ok (.getfield 261, 3) := by decide +kernel
theorem dX7_append_68 : decode cX7_append 68 = .ok (.invokevirtual 264, 3) := by decide +kernel
theorem dX7_append_71 : decode cX7_append 71 = .ok (.ireturn, 1) := by decide +kernel
theorem dX7_run_0 : decode cX7_run 0 = .ok (.aload_n 0, 1) := by decide +kernel
theorem dX7_run_1 : decode cX7_run 1 = .ok (.getfield 26, 3) := by decide +kernel
theorem dX7_run_4 : decode cX7_run 4 = .ok (.invokevirtual 273, 3) := by decide +kernel
theorem dX7_run_7 : decode cX7_run 7 = .ok (.istore_n 1, 1) := by decide +kernel
theorem dX7_run_8 : decode cX7_run 8 = .ok (.aload_n 0, 1) := by decide +kernel
theorem dX7_run_9 : decode cX7_run 9 = .ok (.getfield 26, 3) := by decide +kernel
theorem dX7_run_12 : decode cX7_run 12 = .ok (.getfield 261, 3) := by decide +kernel
theorem dX7_run_15 : decode cX7_run 15 = .ok (.iconst 0, 1) := by decide +kernel
theorem dX7_run_16 : decode cX7_run 16 = .ok (.invokevirtual 277, 3) := by decide +kernel
theorem dX7_run_19 : decode cX7_run 19 = .ok (.iload_n 1, 1) := by decide +kernel
theorem dX7_run_20 : decode cX7_run 20 = .ok (.ifCond .ne 25, 3) := by decide +kernel
theorem dX7_run_23 : decode cX7_run 23 = .ok (.aload_n 0, 1) := by decide +kernel
theorem dX7_run_24 : decode cX7_run 24 = .ok (.aload_n 0, 1) := by decide +kernel
theorem dX7_run_25 : decode cX7_run 25 = .ok (.getfield 26, 3) := by decide +kernel
theorem dX7_run_28 : decode cX7_run 28 = .ok (.getfield 280, 3) := by decide +kernel
theorem dX7_run_31 : decode cX7_run 31 = .ok (.putfield 30, 3) := by decide +kernel
theorem dX7_run_34 : decode cX7_run 34 = .ok (.new 256, 3) := by decide +kernel
theorem dX7_run_37 : decode cX7_run 37 = .ok (.dup, 1) := by decide +kernel
theorem dX7_run_38 : decode cX7_run 38 = .ok (.ldc_w 283, 3) := by decide +kernel
theorem dX7_run_41 : decode cX7_run 41 = .ok (.invokespecial 260, 3) := by decide +kernel
theorem dX7_run_44 : decode cX7_run 44 = .ok (.athrow, 1) := by decide +kernel
theorem dX7_run_45 : decode cX7_run 45 = .ok (.aload_n 0, 1) := by decide +kernel
theorem dX7_run_46 : decode cX7_run 46 = .ok (.invokevirtual 285, 3) := by decide +kernel
theorem dX7_run_49 : decode cX7_run 49 = .ok (.istore_n 2, 1) := by decide +kernel
theorem dX7_run_50 : decode cX7_run 50 = .ok (.iload_n 2, 1) := by decide +kernel
theorem dX7_run_51 : decode cX7_run 51 = .ok (.iconst (-1), 1) := by decide +kernel
theorem dX7_run_52 : decode cX7_run 52 = .ok (.if_icmp .eq 19, 3) := by decide +kernel
theorem dX7_run_55 : decode cX7_run 55 = .ok (.aload_n 0, 1) := by decide +kernel
theorem dX7_run_56 : decode cX7_run 56 = .ok (.iload_n 2, 1) := by decide +kernel
theorem dX7_run_57 : decode cX7_run 57 = .ok (.putfield 34, 3) := by decide +kernel
theorem dX7_run_60 : decode cX7_run 60 = .ok (.new 164, 3) := by decide +kernel
theorem dX7_run_63 : decode cX7_run 63 = .ok (.dup, 1) := by decide +kernel
theorem dX7_run_64 : decode cX7_run 64 = .ok (.ldc_w 288, 3) := by decide +kernel
theorem dX7_run_67 : decode cX7_run 67 = .ok (.invokespecial 168, 3) := by decide +kernel
theorem dX7_run_70 : decode cX7_run 70 = .ok (.athrow, 1) := by decide +kernel
theorem dX7_run_71 : decode cX7_run 71 = .ok (.aload_n 0, 1) := by decide +kernel
theorem dX7_run_72 : decode cX7_run 72 = .ok (.getfield 26, 3) := by decide +kernel
theorem dX7_run_75 : decode cX7_run 75 = .ok (.getfield 290, 3) := by decide +kernel
theorem dX7_run_78 : decode cX7_run 78 = .ok (.ireturn, 1) := by decide +kernel
theorem dX7_errorPosition_0 : decode cX7_errorPosition 0 = .ok (.aload_n 0, 1) := by decide +kernel
theorem dX7_errorPosition_1 : decode cX7_errorPosition 1 = .ok (.getfield 30, 3) := by decide +kernel
theorem dX7_errorPosition_4 : decode cX7_errorPosition 4 = .ok (.iconst (-1), 1) := by decide +kernel
theorem dX7_errorPosition_5 : decode cX7_errorPosition 5 = .ok (.if_icmp .ne 14, 3) := by decide +kernel
theorem dX7_errorPosition_8 : decode cX7_errorPosition 8 = .ok (.new 104, 3) := by decide +kernel
theorem dX7_errorPosition_11 : decode cX7_errorPosition 11 = .ok (.dup, 1) := by decide +kernel
theorem dX7_errorPosition_12 : decode cX7_errorPosition 12 = .ok (.ldc_w 293, 3) := by decide +kernel
theorem dX7_errorPosition_15 : decode cX7_errorPosition 15 = .ok (.invokespecial 108, 3) := by decide +kernel
theorem dX7_errorPosition_18 : decode cX7_errorPosition 18 = .ok (.athrow, 1) := by decide +kernel
theorem dX7_errorPosition_19 : decode cX7_errorPosition 19 = .ok (.aload_n 0, 1) := by decide +kernel
theorem dX7_errorPosition_20 : decode cX7_errorPosition 20 = .ok (.getfield 30, 3) := by decide +kernel
theorem dX7_errorPosition_23 : decode cX7_errorPosition 23 = .ok (.ireturn, 1) := by decide +kernel
theorem dX7_failedCommand_0 : decode cX7_failedCommand 0 = .ok (.aload_n 0, 1) := by decide +kernel
theorem dX7_failedCommand_1 : decode cX7_failedCommand 1 = .ok (.getfield 34, 3) := by decide +kernel
theorem dX7_failedCommand_4 : decode cX7_failedCommand 4 = .ok (.iconst (-1), 1) := by decide +kernel
theorem dX7_failedCommand_5 : decode cX7_failedCommand 5 = .ok (.if_icmp .ne 14, 3) := by decide +kernel
theorem dX7_failedCommand_8 : decode cX7_failedCommand 8 = .ok (.new 104, 3) := by decide +kernel
theorem dX7_failedCommand_11 : decode cX7_failedCommand 11 = .ok (.dup, 1) := by decide +kernel
theorem dX7_failedCommand_12 : decode cX7_failedCommand 12 = .ok (.ldc_w 295, 3) := by decide +kernel
theorem dX7_failedCommand_15 : decode cX7_failedCommand 15 = .ok (.invokespecial 108, 3) := by decide +kernel
theorem dX7_failedCommand_18 : decode cX7_failedCommand 18 = .ok (.athrow, 1) := by decide +kernel
theorem dX7_failedCommand_19 : decode cX7_failedCommand 19 = .ok (.aload_n 0, 1) := by decide +kernel
theorem dX7_failedCommand_20 : decode cX7_failedCommand 20 = .ok (.getfield 34, 3) := by decide +kernel
theorem dX7_failedCommand_23 : decode cX7_failedCommand 23 = .ok (.ireturn, 1) := by decide +kernel
theorem dX7_describeMember_0 : decode cX7_describeMember 0 = .ok (.aload_n 0, 1) := by decide +kernel
theorem dX7_describeMember_1 : decode cX7_describeMember 1 = .ok (.iload_n 1, 1) := by decide +kernel
theorem dX7_describeMember_2 : decode cX7_describeMember 2 = .ok (.invokevirtual 65, 3) := by decide +kernel
theorem dX7_describeMember_5 : decode cX7_describeMember 5 = .ok (.astore_n 2, 1) := by decide +kernel
theorem dX7_describeMember_6 : decode cX7_describeMember 6 = .ok (.aload_n 0, 1) := by decide +kernel
theorem dX7_describeMember_7 : decode cX7_describeMember 7 = .ok (.getfield 40, 3) := by decide +kernel
theorem dX7_describeMember_10 : decode cX7_describeMember 10 = .ok (.iconst 0, 1) := by decide +kernel
theorem dX7_describeMember_11 : decode cX7_describeMember 11 = .ok (.invokevirtual 277, 3) := by decide +kernel
theorem dX7_describeMember_14 : decode cX7_describeMember 14 = .ok (.aload_n 0, 1) := by decide +kernel
theorem dX7_describeMember_15 : decode cX7_describeMember 15 = .ok (.getfield 40, 3) := by decide +kernel
theorem dX7_describeMember_18 : decode cX7_describeMember 18 = .ok (.bipush 109, 2) := by decide +kernel
theorem dX7_describeMember_20 : decode cX7_describeMember 20 = .ok (.invokevirtual 269, 3) := by decide +kernel
theorem dX7_describeMember_23 : decode cX7_describeMember 23 = .ok (.iload_n 1, 1) := by decide +kernel
theorem dX7_describeMember_24 : decode cX7_describeMember 24 = .ok (.invokevirtual 297, 3) := by decide +kernel
theorem dX7_describeMember_27 : decode cX7_describeMember 27 = .ok (.pop, 1) := by decide +kernel
theorem dX7_describeMember_28 : decode cX7_describeMember 28 = .ok (.aload_n 0, 1) := by decide +kernel
theorem dX7_describeMember_29 : decode cX7_describeMember 29 = .ok (.getfield 40, 3) := by decide +kernel
theorem dX7_describeMember_32 : decode cX7_describeMember 32 = .ok (.bipush 64, 2) := by decide +kernel
theorem dX7_describeMember_34 : decode cX7_describeMember 34 = .ok (.invokevirtual 269, 3) := by decide +kernel
theorem dX7_describeMember_37 : decode cX7_describeMember 37 = .ok (.aload_n 2, 1) := by decide +kernel
theorem dX7_describeMember_38 : decode cX7_describeMember 38 = .ok (.getfield 69, 3) := by decide +kernel
theorem dX7_describeMember_41 : decode cX7_describeMember 41 = .ok (.invokevirtual 297, 3) := by decide +kernel
theorem dX7_describeMember_44 : decode cX7_describeMember 44 = .ok (.pop, 1) := by decide +kernel
theorem dX7_describeMember_45 : decode cX7_describeMember 45 = .ok (.aload_n 0, 1) := by decide +kernel
theorem dX7_describeMember_46 : decode cX7_describeMember 46 = .ok (.getfield 40, 3) := by decide +kernel
theorem dX7_describeMember_49 : decode cX7_describeMember 49 = .ok (.bipush 97, 2) := by decide +kernel
theorem dX7_describeMember_51 : decode cX7_describeMember 51 = .ok (.aload_n 2, 1) := by decide +kernel
theorem dX7_describeMember_52 : decode cX7_describeMember 52 = .ok (.getfield 85, 3) := by decide +kernel
theorem dX7_describeMember_55 : decode cX7_describeMember 55 = .ok (.iadd, 1) := by decide +kernel
theorem dX7_describeMember_56 : decode cX7_describeMember 56 = .ok (.i2c, 1) := by decide +kernel
theorem dX7_describeMember_57 : decode cX7_describeMember 57 = .ok (.invokevirtual 269, 3) := by decide +kernel
theorem dX7_describeMember_60 : decode cX7_describeMember 60 = .ok (.pop, 1) := by decide +kernel
theorem dX7_describeMember_61 : decode cX7_describeMember 61 = .ok (.aload_n 0, 1) := by decide +kernel
theorem dX7_describeMember_62 : decode cX7_describeMember 62 = .ok (.getfield 40, 3) := by decide +kernel
theorem dX7_describeMember_65 : decode cX7_describeMember 65 = .ok (.bipush 32, 2) := by decide +kernel
theorem dX7_describeMember_67 : decode cX7_describeMember 67 = .ok (.invokevirtual 269, 3) := by decide +kernel
theorem dX7_describeMember_70 : decode cX7_describeMember 70 = .ok (.aload_n 2, 1) := by decide +kernel
theorem dX7_describeMember_71 : decode cX7_describeMember 71 = .ok (.getfield 88, 3) := by decide +kernel
theorem dX7_describeMember_74 : decode cX7_describeMember 74 = .ok (.invokevirtual 297, 3) := by decide +kernel
theorem dX7_describeMember_77 : decode cX7_describeMember 77 = .ok (.pop, 1) := by decide +kernel
theorem dX7_describeMember_78 : decode cX7_describeMember 78 = .ok (.aload_n 2, 1) := by decide +kernel
theorem dX7_describeMember_79 : decode cX7_describeMember 79 = .ok (.getfield 91, 3) := by decide +kernel
theorem dX7_describeMember_82 : decode cX7_describeMember 82 = .ok (.ifCond .eq 20, 3) := by decide +kernel
theorem dX7_describeMember_85 : decode cX7_describeMember 85 = .ok (.aload_n 0, 1) := by decide +kernel
theorem dX7_describeMember_86 : decode cX7_describeMember 86 = .ok (.getfield 40, 3) := by decide +kernel
theorem dX7_describeMember_89 : decode cX7_describeMember 89 = .ok (.bipush 43, 2) := by decide +kernel
theorem dX7_describeMember_91 : decode cX7_describeMember 91 = .ok (.invokevirtual 269, 3) := by decide +kernel
theorem dX7_describeMember_94 : decode cX7_describeMember 94 = .ok (.aload_n 2, 1) := by decide +kernel
theorem dX7_describeMember_95 : decode cX7_describeMember 95 = .ok (.getfield 91, 3) := by decide +kernel
theorem dX7_describeMember_98 : decode cX7_describeMember 98 = .ok (.invokevirtual 297, 3) := by decide +kernel
theorem dX7_describeMember_101 : decode cX7_describeMember 101 = .ok (.pop, 1) := by decide +kernel
theorem dX7_describeMember_102 : decode cX7_describeMember 102 = .ok (.aload_n 2, 1) := by decide +kernel
theorem dX7_describeMember_103 : decode cX7_describeMember 103 = .ok (.getfield 94, 3) := by decide +kernel
theorem dX7_describeMember_106 : decode cX7_describeMember 106 = .ok (.ifCond .eq 20, 3) := by decide +kernel
theorem dX7_describeMember_109 : decode cX7_describeMember 109 = .ok (.aload_n 0, 1) := by decide +kernel
theorem dX7_describeMember_110 : decode cX7_describeMember 110 = .ok (.getfield 40, 3) := by decide +kernel
theorem dX7_describeMember_113 : decode cX7_describeMember 113 = .ok (.bipush 45, 2) := by decide +kernel
theorem dX7_describeMember_115 : decode cX7_describeMember 115 = .ok (.invokevirtual 269, 3) := by decide +kernel
theorem dX7_describeMember_118 : decode cX7_describeMember 118 = .ok (.aload_n 2, 1) := by decide +kernel
theorem dX7_describeMember_119 : decode cX7_describeMember 119 = .ok (.getfield 94, 3) := by decide +kernel
theorem dX7_describeMember_122 : decode cX7_describeMember 122 = .ok (.invokevirtual 297, 3) := by decide +kernel
theorem dX7_describeMember_125 : decode cX7_describeMember 125 = .ok (.pop, 1) := by decide +kernel
theorem dX7_describeMember_126 : decode cX7_describeMember 126 = .ok (.aload_n 2, 1) := by decide +kernel
theorem dX7_describeMember_127 : decode cX7_describeMember 127 = .ok (.getfield 210, 3) := by decide +kernel
theorem dX7_describeMember_130 : decode cX7_describeMember 130 = .ok (.iconst (-1), 1) := by decide +kernel
theorem dX7_describeMember_131 : decode cX7_describeMember 131 = .ok (.if_icmp .eq 13, 3) := by decide +kernel
theorem dX7_describeMember_134 : decode cX7_describeMember 134 = .ok (.aload_n 0, 1) := by decide +kernel
theorem dX7_describeMember_135 : decode cX7_describeMember 135 = .ok (.getfield 40, 3) := by decide +kernel
theorem dX7_describeMember_138 : decode cX7_describeMember 138 = .ok (.bipush 33, 2) := by decide +kernel
theorem dX7_describeMember_140 : decode cX7_describeMember 140 = .ok (.invokevirtual 269, 3) := by decide +kernel
theorem dX7_describeMember_143 : decode cX7_describeMember 143 = .ok (.pop, 1) := by decide +kernel
theorem dX7_describeMember_144 : decode cX7_describeMember 144 = .ok (.aload_n 0, 1) := by decide +kernel
theorem dX7_describeMember_145 : decode cX7_describeMember 145 = .ok (.getfield 40, 3) := by decide +kernel
theorem dX7_describeMember_148 : decode cX7_describeMember 148 = .ok (.invokevirtual 264, 3) := by decide +kernel
theorem dX7_describeMember_151 : decode cX7_describeMember 151 = .ok (.ireturn, 1) := by decide +kernel
theorem dX7_lineAt_0 : decode cX7_lineAt 0 = .ok (.iload_n 1, 1) := by decide +kernel
theorem dX7_lineAt_1 : decode cX7_lineAt 1 = .ok (.ifCond .lt 14, 3) := by decide +kernel
theorem dX7_lineAt_4 : decode cX7_lineAt 4 = .ok (.iload_n 1, 1) := by decide +kernel
theorem dX7_lineAt_5 : decode cX7_lineAt 5 = .ok (.aload_n 0, 1) := by decide +kernel
theorem dX7_lineAt_6 : decode cX7_lineAt 6 = .ok (.getfield 40, 3) := by decide +kernel
theorem dX7_lineAt_9 : decode cX7_lineAt 9 = .ok (.invokevirtual 264, 3) := by decide +kernel
theorem dX7_lineAt_12 : decode cX7_lineAt 12 = .ok (.if_icmp .lt 14, 3) := by decide +kernel
theorem dX7_lineAt_15 : decode cX7_lineAt 15 = .ok (.new 300, 3) := by decide +kernel
theorem dX7_lineAt_18 : decode cX7_lineAt 18 = .ok (.dup, 1) := by decide +kernel
theorem dX7_lineAt_19 : decode cX7_lineAt 19 = .ok (.ldc_w 302, 3) := by decide +kernel
theorem dX7_lineAt_22 : decode cX7_lineAt 22 = .ok (.invokespecial 304, 3) := by decide +kernel
theorem dX7_lineAt_25 : decode cX7_lineAt 25 = .ok (.athrow, 1) := by decide +kernel
theorem dX7_lineAt_26 : decode cX7_lineAt 26 = .ok (.aload_n 0, 1) := by decide +kernel
theorem dX7_lineAt_27 : decode cX7_lineAt 27 = .ok (.getfield 40, 3) := by decide +kernel
theorem dX7_lineAt_30 : decode cX7_lineAt 30 = .ok (.iload_n 1, 1) := by decide +kernel
theorem dX7_lineAt_31 : decode cX7_lineAt 31 = .ok (.invokevirtual 305, 3) := by decide +kernel
theorem dX7_lineAt_34 : decode cX7_lineAt 34 = .ok (.ireturn, 1) := by decide +kernel
theorem dX7_meanLostDays_0 : decode cX7_meanLostDays 0 = .ok (.aload_n 0, 1) := by decide +kernel
theorem dX7_meanLostDays_1 : decode cX7_meanLostDays 1 = .ok (.invokevirtual 181, 3) := by decide +kernel
theorem dX7_meanLostDays_4 : decode cX7_meanLostDays 4 = .ok (.aload_n 0, 1) := by decide +kernel
theorem dX7_meanLostDays_5 : decode cX7_meanLostDays 5 = .ok (.getfield 12, 3) := by decide +kernel
theorem dX7_meanLostDays_8 : decode cX7_meanLostDays 8 = .ok (.invokevirtual 244, 3) := by decide +kernel
theorem dX7_meanLostDays_11 : decode cX7_meanLostDays 11 = .ok (.i2d, 1) := by decide +kernel
theorem dX7_meanLostDays_12 : decode cX7_meanLostDays 12 = .ok (.iconst 3, 1) := by decide +kernel
theorem dX7_meanLostDays_13 : decode cX7_meanLostDays 13 = .ok (.aload_n 0, 1) := by decide +kernel
theorem dX7_meanLostDays_14 : decode cX7_meanLostDays 14 = .ok (.getfield 12, 3) := by decide +kernel
theorem dX7_meanLostDays_17 : decode cX7_meanLostDays 17 = .ok (.getfield 62, 3) := by decide +kernel
theorem dX7_meanLostDays_20 : decode cX7_meanLostDays 20 = .ok (.imul, 1) := by decide +kernel
theorem dX7_meanLostDays_21 : decode cX7_meanLostDays 21 = .ok (.i2d, 1) := by decide +kernel
theorem dX7_meanLostDays_22 : decode cX7_meanLostDays 22 = .ok (.ddiv, 1) := by decide +kernel
theorem dX7_meanLostDays_23 : decode cX7_meanLostDays 23 = .ok (.dreturn, 1) := by decide +kernel
theorem dX7_isConsistent_0 : decode cX7_isConsistent 0 = .ok (.iconst 0, 1) := by decide +kernel
theorem dX7_isConsistent_1 : decode cX7_isConsistent 1 = .ok (.istore_n 1, 1) := by decide +kernel
theorem dX7_isConsistent_2 : decode cX7_isConsistent 2 = .ok (.iload_n 1, 1) := by decide +kernel
theorem dX7_isConsistent_3 : decode cX7_isConsistent 3 = .ok (.aload_n 0, 1) := by decide +kernel
theorem dX7_isConsistent_4 : decode cX7_isConsistent 4 = .ok (.getfield 12, 3) := by decide +kernel
theorem dX7_isConsistent_7 : decode cX7_isConsistent 7 = .ok (.getfield 62, 3) := by decide +kernel
theorem dX7_isConsistent_10 : decode cX7_isConsistent 10 = .ok (.if_icmp .ge 24, 3) := by decide +kernel
theorem dX7_isConsistent_13 : decode cX7_isConsistent 13 = .ok (.aload_n 0, 1) := by decide +kernel
theorem dX7_isConsistent_14 : decode cX7_isConsistent 14 = .ok (.iload_n 1, 1) := by decide +kernel
theorem dX7_isConsistent_15 : decode cX7_isConsistent 15 = .ok (.invokevirtual 309, 3) := by decide +kernel
theorem dX7_isConsistent_18 : decode cX7_isConsistent 18 = .ok (.aload_n 0, 1) := by decide +kernel
theorem dX7_isConsistent_19 : decode cX7_isConsistent 19 = .ok (.iload_n 1, 1) := by decide +kernel
theorem dX7_isConsistent_20 : decode cX7_isConsistent 20 = .ok (.invokevirtual 312, 3) := by decide +kernel
theorem dX7_isConsistent_23 : decode cX7_isConsistent 23 = .ok (.if_icmp .eq 5, 3) := by decide +kernel
theorem dX7_isConsistent_26 : decode cX7_isConsistent 26 = .ok (.iconst 0, 1) := by decide +kernel
theorem dX7_isConsistent_27 : decode cX7_isConsistent 27 = .ok (.ireturn, 1) := by decide +kernel
theorem dX7_isConsistent_28 : decode cX7_isConsistent 28 = .ok (.iinc 1 1, 3) := by decide +kernel
theorem dX7_isConsistent_31 : decode cX7_isConsistent 31 = .ok (.goto (-29), 3) := by decide +kernel
theorem dX7_isConsistent_34 : decode cX7_isConsistent 34 = .ok (.aload_n 0, 1) := by decide +kernel
theorem dX7_isConsistent_35 : decode cX7_isConsistent 35 = .ok (.invokevirtual 315, 3) := by decide +kernel
theorem dX7_isConsistent_38 : decode cX7_isConsistent 38 = .ok (.aload_n 0, 1) := by decide +kernel
theorem dX7_isConsistent_39 : decode cX7_isConsistent 39 = .ok (.invokevirtual 318, 3) := by decide +kernel
theorem dX7_isConsistent_42 : decode cX7_isConsistent 42 = .ok (.if_icmp .eq 5, 3) := by decide +kernel
theorem dX7_isConsistent_45 : decode cX7_isConsistent 45 = .ok (.iconst 0, 1) := by decide +kernel
theorem dX7_isConsistent_46 : decode cX7_isConsistent 46 = .ok (.ireturn, 1) := by decide +kernel
theorem dX7_isConsistent_47 : decode cX7_isConsistent 47 = .ok (.aload_n 0, 1) := by decide +kernel
theorem dX7_isConsistent_48 : decode cX7_isConsistent 48 = .ok (.getfield 12, 3) := by decide +kernel
theorem dX7_isConsistent_51 : decode cX7_isConsistent 51 = .ok (.getfield 62, 3) := by decide +kernel
theorem dX7_isConsistent_54 : decode cX7_isConsistent 54 = .ok (.ifCond .eq 14, 3) := by decide +kernel
theorem dX7_isConsistent_57 : decode cX7_isConsistent 57 = .ok (.aload_n 0, 1) := by decide +kernel
theorem dX7_isConsistent_58 : decode cX7_isConsistent 58 = .ok (.invokevirtual 321, 3) := by decide +kernel
theorem dX7_isConsistent_61 : decode cX7_isConsistent 61 = .ok (.aload_n 0, 1) := by decide +kernel
theorem dX7_isConsistent_62 : decode cX7_isConsistent 62 = .ok (.invokevirtual 324, 3) := by decide +kernel
theorem dX7_isConsistent_65 : decode cX7_isConsistent 65 = .ok (.if_icmp .ne 7, 3) := by decide +kernel
theorem dX7_isConsistent_68 : decode cX7_isConsistent 68 = .ok (.iconst 1, 1) := by decide +kernel
theorem dX7_isConsistent_69 : decode cX7_isConsistent 69 = .ok (.goto 4, 3) := by decide +kernel
theorem dX7_isConsistent_72 : decode cX7_isConsistent 72 = .ok (.iconst 0, 1) := by decide +kernel
theorem dX7_isConsistent_73 : decode cX7_isConsistent 73 = .ok (.ireturn, 1) := by decide +kernel
theorem dX7_undo_0 : decode cX7_undo 0 = .ok (.aload_n 0, 1) := by decide +kernel
theorem dX7_undo_1 : decode cX7_undo 1 = .ok (.getfield 327, 3) := by decide +kernel
theorem dX7_undo_4 : decode cX7_undo 4 = .ok (.ifCond .ne 14, 3) := by decide +kernel
theorem dX7_undo_7 : decode cX7_undo 7 = .ok (.new 164, 3) := by decide +kernel
theorem dX7_undo_10 : decode cX7_undo 10 = .ok (.dup, 1) := by decide +kernel
theorem dX7_undo_11 : decode cX7_undo 11 = .ok (.ldc_w 330, 3) := by decide +kernel
theorem dX7_undo_14 : decode cX7_undo 14 = .ok (.invokespecial 168, 3) := by decide +kernel
theorem dX7_undo_17 : decode cX7_undo 17 = .ok (.athrow, 1) := by decide +kernel
theorem dX7_undo_18 : decode cX7_undo 18 = .ok (.aload_n 0, 1) := by decide +kernel
theorem dX7_undo_19 : decode cX7_undo 19 = .ok (.dup, 1) := by decide +kernel
theorem dX7_undo_20 : decode cX7_undo 20 = .ok (.getfield 327, 3) := by decide +kernel
theorem dX7_undo_23 : decode cX7_undo 23 = .ok (.iconst 1, 1) := by decide +kernel
theorem dX7_undo_24 : decode cX7_undo 24 = .ok (.isub, 1) := by decide +kernel
theorem dX7_undo_25 : decode cX7_undo 25 = .ok (.putfield 327, 3) := by decide +kernel
theorem dX7_undo_28 : decode cX7_undo 28 = .ok (.aload_n 0, 1) := by decide +kernel
theorem dX7_undo_29 : decode cX7_undo 29 = .ok (.aload_n 0, 1) := by decide +kernel
theorem dX7_undo_30 : decode cX7_undo 30 = .ok (.getfield 332, 3) := by decide +kernel
theorem dX7_undo_33 : decode cX7_undo 33 = .ok (.bipush 9, 2) := by decide +kernel
theorem dX7_undo_35 : decode cX7_undo 35 = .ok (.iadd, 1) := by decide +kernel
theorem dX7_undo_36 : decode cX7_undo 36 = .ok (.iconst 1, 1) := by decide +kernel
theorem dX7_undo_37 : decode cX7_undo 37 = .ok (.isub, 1) := by decide +kernel
theorem dX7_undo_38 : decode cX7_undo 38 = .ok (.bipush 9, 2) := by decide +kernel
theorem dX7_undo_40 : decode cX7_undo 40 = .ok (.irem, 1) := by decide +kernel
theorem dX7_undo_41 : decode cX7_undo 41 = .ok (.putfield 332, 3) := by decide +kernel
theorem dX7_undo_44 : decode cX7_undo 44 = .ok (.aload_n 0, 1) := by decide +kernel
theorem dX7_undo_45 : decode cX7_undo 45 = .ok (.getfield 12, 3) := by decide +kernel
theorem dX7_undo_48 : decode cX7_undo 48 = .ok (.aload_n 0, 1) := by decide +kernel
theorem dX7_undo_49 : decode cX7_undo 49 = .ok (.getfield 16, 3) := by decide +kernel
theorem dX7_undo_52 : decode cX7_undo 52 = .ok (.aload_n 0, 1) := by decide +kernel
theorem dX7_undo_53 : decode cX7_undo 53 = .ok (.getfield 332, 3) := by decide +kernel
theorem dX7_undo_56 : decode cX7_undo 56 = .ok (.aaload, 1) := by decide +kernel
theorem dX7_undo_57 : decode cX7_undo 57 = .ok (.invokevirtual 335, 3) := by decide +kernel
theorem dX7_undo_60 : decode cX7_undo 60 = .ok (.aload_n 0, 1) := by decide +kernel
theorem dX7_undo_61 : decode cX7_undo 61 = .ok (.getfield 327, 3) := by decide +kernel
theorem dX7_undo_64 : decode cX7_undo 64 = .ok (.ireturn, 1) := by decide +kernel
theorem dX7_save_0 : decode cX7_save 0 = .ok (.aload_n 0, 1) := by decide +kernel
theorem dX7_save_1 : decode cX7_save 1 = .ok (.getfield 20, 3) := by decide +kernel
theorem dX7_save_4 : decode cX7_save 4 = .ok (.aload_n 0, 1) := by decide +kernel
theorem dX7_save_5 : decode cX7_save 5 = .ok (.getfield 12, 3) := by decide +kernel
theorem dX7_save_8 : decode cX7_save 8 = .ok (.invokevirtual 335, 3) := by decide +kernel
theorem dX7_save_11 : decode cX7_save 11 = .ok (.aload_n 0, 1) := by decide +kernel
theorem dX7_save_12 : decode cX7_save 12 = .ok (.iconst 1, 1) := by decide +kernel
theorem dX7_save_13 : decode cX7_save 13 = .ok (.putfield 339, 3) := by decide +kernel
theorem dX7_save_16 : decode cX7_save 16 = .ok (.aload_n 0, 1) := by decide +kernel
theorem dX7_save_17 : decode cX7_save 17 = .ok (.getfield 12, 3) := by decide +kernel
theorem dX7_save_20 : decode cX7_save 20 = .ok (.getfield 62, 3) := by decide +kernel
theorem dX7_save_23 : decode cX7_save 23 = .ok (.ireturn, 1) := by decide +kernel
theorem dX7_restore_0 : decode cX7_restore 0 = .ok (.aload_n 0, 1) := by decide +kernel
theorem dX7_restore_1 : decode cX7_restore 1 = .ok (.getfield 339, 3) := by decide +kernel
theorem dX7_restore_4 : decode cX7_restore 4 = .ok (.ifCond .ne 14, 3) := by decide +kernel
theorem dX7_restore_7 : decode cX7_restore 7 = .ok (.new 164, 3) := by decide +kernel
theorem dX7_restore_10 : decode cX7_restore 10 = .ok (.dup, 1) := by decide +kernel
theorem dX7_restore_11 : decode cX7_restore 11 = .ok (.ldc_w 342, 3) := by decide +kernel
theorem dX7_restore_14 : decode cX7_restore 14 = .ok (.invokespecial 168, 3) := by decide +kernel
theorem dX7_restore_17 : decode cX7_restore 17 = .ok (.athrow, 1) := by decide +kernel
theorem dX7_restore_18 : decode cX7_restore 18 = .ok (.aload_n 0, 1) := by decide +kernel
theorem dX7_restore_19 : decode cX7_restore 19 = .ok (.getfield 12, 3) := by decide +kernel
theorem dX7_restore_22 : decode cX7_restore 22 = .ok (.aload_n 0, 1) := by decide +kernel
theorem dX7_restore_23 : decode cX7_restore 23 = .ok (.getfield 20, 3) := by decide +kernel
theorem dX7_restore_26 : decode cX7_restore 26 = .ok (.invokevirtual 335, 3) := by decide +kernel
theorem dX7_restore_29 : decode cX7_restore 29 = .ok (.aload_n 0, 1) := by decide +kernel
theorem dX7_restore_30 : decode cX7_restore 30 = .ok (.iconst 0, 1) := by decide +kernel
theorem dX7_restore_31 : decode cX7_restore 31 = .ok (.putfield 327, 3) := by decide +kernel
theorem dX7_restore_34 : decode cX7_restore 34 = .ok (.aload_n 0, 1) := by decide +kernel
theorem dX7_restore_35 : decode cX7_restore 35 = .ok (.getfield 12, 3) := by decide +kernel
theorem dX7_restore_38 : decode cX7_restore 38 = .ok (.getfield 62, 3) := by decide +kernel
theorem dX7_restore_41 : decode cX7_restore 41 = .ok (.ireturn, 1) := by decide +kernel
theorem dX7_existing_0 : decode cX7_existing 0 = .ok (.aload_n 0, 1) := by decide +kernel
theorem dX7_existing_1 : decode cX7_existing 1 = .ok (.getfield 12, 3) := by decide +kernel
theorem dX7_existing_4 : decode cX7_existing 4 = .ok (.iload_n 1, 1) := by decide +kernel
theorem dX7_existing_5 : decode cX7_existing 5 = .ok (.invokevirtual 344, 3) := by decide +kernel
theorem dX7_existing_8 : decode cX7_existing 8 = .ok (.ifCond .ne 14, 3) := by decide +kernel
theorem dX7_existing_11 : decode cX7_existing 11 = .ok (.new 300, 3) := by decide +kernel
theorem dX7_existing_14 : decode cX7_existing 14 = .ok (.dup, 1) := by decide +kernel
theorem dX7_existing_15 : decode cX7_existing 15 = .ok (.ldc_w 347, 3) := by decide +kernel
theorem dX7_existing_18 : decode cX7_existing 18 = .ok (.invokespecial 304, 3) := by decide +kernel
theorem dX7_existing_21 : decode cX7_existing 21 = .ok (.athrow, 1) := by decide +kernel
theorem dX7_existing_22 : decode cX7_existing 22 = .ok (.aload_n 0, 1) := by decide +kernel
theorem dX7_existing_23 : decode cX7_existing 23 = .ok (.getfield 12, 3) := by decide +kernel
theorem dX7_existing_26 : decode cX7_existing 26 = .ok (.getfield 349, 3) := by decide +kernel
theorem dX7_existing_29 : decode cX7_existing 29 = .ok (.iload_n 1, 1) := by decide +kernel
theorem dX7_existing_30 : decode cX7_existing 30 = .ok (.aaload, 1) := by decide +kernel
theorem dX7_existing_31 : decode cX7_existing 31 = .ok (.areturn, 1) := by decide +kernel
theorem dX7_requireRoof_0 : decode cX7_requireRoof 0 = .ok (.iload_n 0, 1) := by decide +kernel
theorem dX7_requireRoof_1 : decode cX7_requireRoof 1 = .ok (.invokestatic 353, 3) := by decide +kernel
theorem dX7_requireRoof_4 : decode cX7_requireRoof 4 = .ok (.ifCond .ne 14, 3) := by decide +kernel
theorem dX7_requireRoof_7 : decode cX7_requireRoof 7 = .ok (.new 300, 3) := by decide +kernel
theorem dX7_requireRoof_10 : decode cX7_requireRoof 10 = .ok (.dup, 1) := by decide +kernel
theorem dX7_requireRoof_11 : decode cX7_requireRoof 11 = .ok (.ldc_w 356, 3) := by decide +kernel
theorem dX7_requireRoof_14 : decode cX7_requireRoof 14 = .ok (.invokespecial 304, 3) := by decide +kernel
theorem dX7_requireRoof_17 : decode cX7_requireRoof 17 = .ok (.athrow, 1) := by decide +kernel
theorem dX7_requireRoof_18 : decode cX7_requireRoof 18 = .ok (.return_, 1) := by decide +kernel
theorem dX7_requireMembers_0 : decode cX7_requireMembers 0 = .ok (.aload_n 0, 1) := by decide +kernel
theorem dX7_requireMembers_1 : decode cX7_requireMembers 1 = .ok (.getfield 12, 3) := by decide +kernel
theorem dX7_requireMembers_4 : decode cX7_requireMembers 4 = .ok (.getfield 62, 3) := by decide +kernel
theorem dX7_requireMembers_7 : decode cX7_requireMembers 7 = .ok (.ifCond .ne 14, 3) := by decide +kernel
theorem dX7_requireMembers_10 : decode cX7_requireMembers 10 = .ok (.new 358, 3) := by decide +kernel
theorem dX7_requireMembers_13 : decode cX7_requireMembers 13 = .ok (.dup, 1) := by decide +kernel
theorem dX7_requireMembers_14 : decode cX7_requireMembers 14 = .ok (.ldc_w 360, 3) := by decide +kernel
theorem dX7_requireMembers_17 : decode cX7_requireMembers 17 = .ok (.invokespecial 362, 3) := by decide +kernel
theorem dX7_requireMembers_20 : decode cX7_requireMembers 20 = .ok (.athrow, 1) := by decide +kernel
theorem dX7_requireMembers_21 : decode cX7_requireMembers 21 = .ok (.return_, 1) := by decide +kernel
theorem dX7_requireOffer_0 : decode cX7_requireOffer 0 = .ok (.aload_n 0, 1) := by decide +kernel
theorem dX7_requireOffer_1 : decode cX7_requireOffer 1 = .ok (.getfield 12, 3) := by decide +kernel
theorem dX7_requireOffer_4 : decode cX7_requireOffer 4 = .ok (.getfield 231, 3) := by decide +kernel
theorem dX7_requireOffer_7 : decode cX7_requireOffer 7 = .ok (.ifCond .ne 14, 3) := by decide +kernel
theorem dX7_requireOffer_10 : decode cX7_requireOffer 10 = .ok (.new 104, 3) := by decide +kernel
theorem dX7_requireOffer_13 : decode cX7_requireOffer 13 = .ok (.dup, 1) := by decide +kernel
theorem dX7_requireOffer_14 : decode cX7_requireOffer 14 = .ok (.ldc_w 363, 3) := by decide +kernel
theorem dX7_requireOffer_17 : decode cX7_requireOffer 17 = .ok (.invokespecial 108, 3) := by decide +kernel
theorem dX7_requireOffer_20 : decode cX7_requireOffer 20 = .ok (.athrow, 1) := by decide +kernel
theorem dX7_requireOffer_21 : decode cX7_requireOffer 21 = .ok (.return_, 1) := by decide +kernel
theorem dX7_refuse_0 : decode cX7_refuse 0 = .ok (.getstatic 365, 3) := by decide +kernel
theorem dX7_refuse_3 : decode cX7_refuse 3 = .ok (.aload_n 0, 1) := by decide +kernel
theorem dX7_refuse_4 : decode cX7_refuse 4 = .ok (.invokevirtual 371, 3) := by decide +kernel
theorem dX7_refuse_7 : decode cX7_refuse 7 = .ok (.iaload, 1) := by decide +kernel
theorem dX7_refuse_8 : decode cX7_refuse 8 = .ok (.tableswitch 91 1 5 #[36, 47, 58, 69, 80], 36) := by decide +kernel
theorem dX7_refuse_44 : decode cX7_refuse 44 = .ok (.new 300, 3) := by decide +kernel
theorem dX7_refuse_47 : decode cX7_refuse 47 = .ok (.dup, 1) := by decide +kernel
theorem dX7_refuse_48 : decode cX7_refuse 48 = .ok (.ldc_w 376, 3) := by decide +kernel
theorem dX7_refuse_51 : decode cX7_refuse 51 = .ok (.invokespecial 304, 3) := by decide +kernel
theorem dX7_refuse_54 : decode cX7_refuse 54 = .ok (.athrow, 1) := by decide +kernel
theorem dX7_refuse_55 : decode cX7_refuse 55 = .ok (.new 256, 3) := by decide +kernel
theorem dX7_refuse_58 : decode cX7_refuse 58 = .ok (.dup, 1) := by decide +kernel
theorem dX7_refuse_59 : decode cX7_refuse 59 = .ok (.ldc_w 378, 3) := by decide +kernel
theorem dX7_refuse_62 : decode cX7_refuse 62 = .ok (.invokespecial 260, 3) := by decide +kernel
theorem dX7_refuse_65 : decode cX7_refuse 65 = .ok (.athrow, 1) := by decide +kernel
theorem dX7_refuse_66 : decode cX7_refuse 66 = .ok (.new 164, 3) := by decide +kernel
theorem dX7_refuse_69 : decode cX7_refuse 69 = .ok (.dup, 1) := by decide +kernel
theorem dX7_refuse_70 : decode cX7_refuse 70 = .ok (.ldc_w 380, 3) := by decide +kernel
theorem dX7_refuse_73 : decode cX7_refuse 73 = .ok (.invokespecial 168, 3) := by decide +kernel
theorem dX7_refuse_76 : decode cX7_refuse 76 = .ok (.athrow, 1) := by decide +kernel
theorem dX7_refuse_77 : decode cX7_refuse 77 = .ok (.new 382, 3) := by decide +kernel
theorem dX7_refuse_80 : decode cX7_refuse 80 = .ok (.dup, 1) := by decide +kernel
theorem dX7_refuse_81 : decode cX7_refuse 81 = .ok (.ldc_w 384, 3) := by decide +kernel
theorem dX7_refuse_84 : decode cX7_refuse 84 = .ok (.invokespecial 386, 3) := by decide +kernel
theorem dX7_refuse_87 : decode cX7_refuse 87 = .ok (.athrow, 1) := by decide +kernel
theorem dX7_refuse_88 : decode cX7_refuse 88 = .ok (.new 104, 3) := by decide +kernel
theorem dX7_refuse_91 : decode cX7_refuse 91 = .ok (.dup, 1) := by decide +kernel
theorem dX7_refuse_92 : decode cX7_refuse 92 = .ok (.ldc_w 387, 3) := by decide +kernel
theorem dX7_refuse_95 : decode cX7_refuse 95 = .ok (.invokespecial 108, 3) := by decide +kernel
theorem dX7_refuse_98 : decode cX7_refuse 98 = .ok (.athrow, 1) := by decide +kernel
theorem dX7_refuse_99 : decode cX7_refuse 99 = .ok (.return_, 1) := by decide +kernel
theorem dX7_beginChange_0 : decode cX7_beginChange 0 = .ok (.aload_n 0, 1) := by decide +kernel
theorem dX7_beginChange_1 : decode cX7_beginChange 1 = .ok (.getfield 16, 3) := by decide +kernel
theorem dX7_beginChange_4 : decode cX7_beginChange 4 = .ok (.aload_n 0, 1) := by decide +kernel
theorem dX7_beginChange_5 : decode cX7_beginChange 5 = .ok (.getfield 332, 3) := by decide +kernel
theorem dX7_beginChange_8 : decode cX7_beginChange 8 = .ok (.aaload, 1) := by decide +kernel
theorem dX7_beginChange_9 : decode cX7_beginChange 9 = .ok (.aload_n 0, 1) := by decide +kernel
theorem dX7_beginChange_10 : decode cX7_beginChange 10 = .ok (.getfield 12, 3) := by decide +kernel
theorem dX7_beginChange_13 : decode cX7_beginChange 13 = .ok (.invokevirtual 335, 3) := by decide +kernel
theorem dX7_beginChange_16 : decode cX7_beginChange 16 = .ok (.return_, 1) := by decide +kernel
theorem dX7_endChange_0 : decode cX7_endChange 0 = .ok (.aload_n 0, 1) := by decide +kernel
theorem dX7_endChange_1 : decode cX7_endChange 1 = .ok (.aload_n 0, 1) := by decide +kernel
theorem dX7_endChange_2 : decode cX7_endChange 2 = .ok (.getfield 332, 3) := by decide +kernel
theorem dX7_endChange_5 : decode cX7_endChange 5 = .ok (.iconst 1, 1) := by decide +kernel
theorem dX7_endChange_6 : decode cX7_endChange 6 = .ok (.iadd, 1) := by decide +kernel
theorem dX7_endChange_7 : decode cX7_endChange 7 = .ok (.bipush 9, 2) := by decide +kernel
theorem dX7_endChange_9 : decode cX7_endChange 9 = .ok (.irem, 1) := by decide +kernel
theorem dX7_endChange_10 : decode cX7_endChange 10 = .ok (.putfield 332, 3) := by decide +kernel
theorem dX7_endChange_13 : decode cX7_endChange 13 = .ok (.aload_n 0, 1) := by decide +kernel
theorem dX7_endChange_14 : decode cX7_endChange 14 = .ok (.getfield 327, 3) := by decide +kernel
theorem dX7_endChange_17 : decode cX7_endChange 17 = .ok (.bipush 8, 2) := by decide +kernel
theorem dX7_endChange_19 : decode cX7_endChange 19 = .ok (.if_icmp .ge 13, 3) := by decide +kernel
theorem dX7_endChange_22 : decode cX7_endChange 22 = .ok (.aload_n 0, 1) := by decide +kernel
theorem dX7_endChange_23 : decode cX7_endChange 23 = .ok (.dup, 1) := by decide +kernel
theorem dX7_endChange_24 : decode cX7_endChange 24 = .ok (.getfield 327, 3) := by decide +kernel
theorem dX7_endChange_27 : decode cX7_endChange 27 = .ok (.iconst 1, 1) := by decide +kernel
theorem dX7_endChange_28 : decode cX7_endChange 28 = .ok (.iadd, 1) := by decide +kernel
theorem dX7_endChange_29 : decode cX7_endChange 29 = .ok (.putfield 327, 3) := by decide +kernel
theorem dX7_endChange_32 : decode cX7_endChange 32 = .ok (.return_, 1) := by decide +kernel
theorem dX7_carryOutAll_0 : decode cX7_carryOutAll 0 = .ok (.aload_n 0, 1) := by decide +kernel
theorem dX7_carryOutAll_1 : decode cX7_carryOutAll 1 = .ok (.invokevirtual 52, 3) := by decide +kernel
theorem dX7_carryOutAll_4 : decode cX7_carryOutAll 4 = .ok (.iconst 0, 1) := by decide +kernel
theorem dX7_carryOutAll_5 : decode cX7_carryOutAll 5 = .ok (.istore_n 1, 1) := by decide +kernel
theorem dX7_carryOutAll_6 : decode cX7_carryOutAll 6 = .ok (.iload_n 1, 1) := by decide +kernel
theorem dX7_carryOutAll_7 : decode cX7_carryOutAll 7 = .ok (.aload_n 0, 1) := by decide +kernel
theorem dX7_carryOutAll_8 : decode cX7_carryOutAll 8 = .ok (.getfield 26, 3) := by decide +kernel
theorem dX7_carryOutAll_11 : decode cX7_carryOutAll 11 = .ok (.getfield 290, 3) := by decide +kernel
theorem dX7_carryOutAll_14 : decode cX7_carryOutAll 14 = .ok (.if_icmp .ge 59, 3) := by decide +kernel
theorem dX7_carryOutAll_17 : decode cX7_carryOutAll 17 = .ok (.aload_n 0, 1) := by decide +kernel
theorem dX7_carryOutAll_18 : decode cX7_carryOutAll 18 = .ok (.getfield 26, 3) := by decide +kernel
theorem dX7_carryOutAll_21 : decode cX7_carryOutAll 21 = .ok (.getfield 389, 3) := by decide +kernel
theorem dX7_carryOutAll_24 : decode cX7_carryOutAll 24 = .ok (.iload_n 1, 1) := by decide +kernel
theorem dX7_carryOutAll_25 : decode cX7_carryOutAll 25 = .ok (.aaload, 1) := by decide +kernel
theorem dX7_carryOutAll_26 : decode cX7_carryOutAll 26 = .ok (.astore_n 2, 1) := by decide +kernel
theorem dX7_carryOutAll_27 : decode cX7_carryOutAll 27 = .ok (.aload_n 0, 1) := by decide +kernel
theorem dX7_carryOutAll_28 : decode cX7_carryOutAll 28 = .ok (.getfield 12, 3) := by decide +kernel
theorem dX7_carryOutAll_31 : decode cX7_carryOutAll 31 = .ok (.aload_n 2, 1) := by decide +kernel
theorem dX7_carryOutAll_32 : decode cX7_carryOutAll 32 = .ok (.invokevirtual 393, 3) := by decide +kernel
theorem dX7_carryOutAll_35 : decode cX7_carryOutAll 35 = .ok (.getstatic 397, 3) := by decide +kernel
theorem dX7_carryOutAll_38 : decode cX7_carryOutAll 38 = .ok (.if_acmp .eq 21, 3) := by decide +kernel
theorem dX7_carryOutAll_41 : decode cX7_carryOutAll 41 = .ok (.aload_n 0, 1) := by decide +kernel
theorem dX7_carryOutAll_42 : decode cX7_carryOutAll 42 = .ok (.getfield 12, 3) := by decide +kernel
theorem dX7_carryOutAll_45 : decode cX7_carryOutAll 45 = .ok (.aload_n 0, 1) := by decide +kernel
theorem dX7_carryOutAll_46 : decode cX7_carryOutAll 46 = .ok (.getfield 16, 3) := by decide +kernel
theorem dX7_carryOutAll_49 : decode cX7_carryOutAll 49 = .ok (.aload_n 0, 1) := by decide +kernel
theorem dX7_carryOutAll_50 : decode cX7_carryOutAll 50 = .ok (.getfield 332, 3) := by decide +kernel
theorem dX7_carryOutAll_53 : decode cX7_carryOutAll 53 = .ok (.aaload, 1) := by decide +kernel
theorem dX7_carryOutAll_54 : decode cX7_carryOutAll 54 = .ok (.invokevirtual 335, 3) := by decide +kernel
theorem dX7_carryOutAll_57 : decode cX7_carryOutAll 57 = .ok (.iload_n 1, 1) := by decide +kernel
theorem dX7_carryOutAll_58 : decode cX7_carryOutAll 58 = .ok (.ireturn, 1) := by decide +kernel
theorem dX7_carryOutAll_59 : decode cX7_carryOutAll 59 = .ok (.aload_n 0, 1) := by decide +kernel
theorem dX7_carryOutAll_60 : decode cX7_carryOutAll 60 = .ok (.getfield 12, 3) := by decide +kernel
theorem dX7_carryOutAll_63 : decode cX7_carryOutAll 63 = .ok (.aload_n 2, 1) := by decide +kernel
theorem dX7_carryOutAll_64 : decode cX7_carryOutAll 64 = .ok (.invokevirtual 401, 3) := by decide +kernel
theorem dX7_carryOutAll_67 : decode cX7_carryOutAll 67 = .ok (.iinc 1 1, 3) := by decide +kernel
theorem dX7_carryOutAll_70 : decode cX7_carryOutAll 70 = .ok (.goto (-64), 3) := by decide +kernel
theorem dX7_carryOutAll_73 : decode cX7_carryOutAll 73 = .ok (.aload_n 0, 1) := by decide +kernel
theorem dX7_carryOutAll_74 : decode cX7_carryOutAll 74 = .ok (.invokevirtual 59, 3) := by decide +kernel
theorem dX7_carryOutAll_77 : decode cX7_carryOutAll 77 = .ok (.iconst (-1), 1) := by decide +kernel
theorem dX7_carryOutAll_78 : decode cX7_carryOutAll 78 = .ok (.ireturn, 1) := by decide +kernel
theorem dX7_isRoof_0 : decode cX7_isRoof 0 = .ok (.iload_n 0, 1) := by decide +kernel
theorem dX7_isRoof_1 : decode cX7_isRoof 1 = .ok (.ifCond .lt 13, 3) := by decide +kernel
theorem dX7_isRoof_4 : decode cX7_isRoof 4 = .ok (.iload_n 0, 1) := by decide +kernel
theorem dX7_isRoof_5 : decode cX7_isRoof 5 = .ok (.bipush 10, 2) := by decide +kernel
theorem dX7_isRoof_7 : decode cX7_isRoof 7 = .ok (.if_icmp .ge 7, 3) := by decide +kernel
theorem dX7_isRoof_10 : decode cX7_isRoof 10 = .ok (.iconst 1, 1) := by decide +kernel
theorem dX7_isRoof_11 : decode cX7_isRoof 11 = .ok (.goto 4, 3) := by decide +kernel
theorem dX7_isRoof_14 : decode cX7_isRoof 14 = .ok (.iconst 0, 1) := by decide +kernel
theorem dX7_isRoof_15 : decode cX7_isRoof 15 = .ok (.ireturn, 1) := by decide +kernel
theorem dX7_stepsBetween_0 : decode cX7_stepsBetween 0 = .ok (.iload_n 0, 1) := by decide +kernel
theorem dX7_stepsBetween_1 : decode cX7_stepsBetween 1 = .ok (.iload_n 1, 1) := by decide +kernel
theorem dX7_stepsBetween_2 : decode cX7_stepsBetween 2 = .ok (.if_icmp .ge 9, 3) := by decide +kernel
theorem dX7_stepsBetween_5 : decode cX7_stepsBetween 5 = .ok (.iload_n 1, 1) := by decide +kernel
theorem dX7_stepsBetween_6 : decode cX7_stepsBetween 6 = .ok (.iload_n 0, 1) := by decide +kernel
theorem dX7_stepsBetween_7 : decode cX7_stepsBetween 7 = .ok (.isub, 1) := by decide +kernel
theorem dX7_stepsBetween_8 : decode cX7_stepsBetween 8 = .ok (.goto 6, 3) := by decide +kernel
theorem dX7_stepsBetween_11 : decode cX7_stepsBetween 11 = .ok (.iload_n 0, 1) := by decide +kernel
theorem dX7_stepsBetween_12 : decode cX7_stepsBetween 12 = .ok (.iload_n 1, 1) := by decide +kernel
theorem dX7_stepsBetween_13 : decode cX7_stepsBetween 13 = .ok (.isub, 1) := by decide +kernel
theorem dX7_stepsBetween_14 : decode cX7_stepsBetween 14 = .ok (.istore_n 2, 1) := by decide +kernel
theorem dX7_stepsBetween_15 : decode cX7_stepsBetween 15 = .ok (.iload_n 2, 1) := by decide +kernel
theorem dX7_stepsBetween_16 : decode cX7_stepsBetween 16 = .ok (.bipush 8, 2) := by decide +kernel
theorem dX7_stepsBetween_18 : decode cX7_stepsBetween 18 = .ok (.iload_n 2, 1) := by decide +kernel
theorem dX7_stepsBetween_19 : decode cX7_stepsBetween 19 = .ok (.isub, 1) := by decide +kernel
theorem dX7_stepsBetween_20 : decode cX7_stepsBetween 20 = .ok (.invokestatic 405, 3) := by decide +kernel
theorem dX7_stepsBetween_23 : decode cX7_stepsBetween 23 = .ok (.ireturn, 1) := by decide +kernel
theorem dX7_stepsByTurning_0 : decode cX7_stepsByTurning 0 = .ok (.iload_n 0, 1) := by decide +kernel
theorem dX7_stepsByTurning_1 : decode cX7_stepsByTurning 1 = .ok (.istore_n 2, 1) := by decide +kernel
theorem dX7_stepsByTurning_2 : decode cX7_stepsByTurning 2 = .ok (.iload_n 0, 1) := by decide +kernel
theorem dX7_stepsByTurning_3 : decode cX7_stepsByTurning 3 = .ok (.istore_n 3, 1) := by decide +kernel
theorem dX7_stepsByTurning_4 : decode cX7_stepsByTurning 4 = .ok (.iconst 0, 1) := by decide +kernel
theorem dX7_stepsByTurning_5 : decode cX7_stepsByTurning 5 = .ok (.istore 4, 2) := by decide +kernel
theorem dX7_stepsByTurning_7 : decode cX7_stepsByTurning 7 = .ok (.iload 4, 2) := by decide +kernel
theorem dX7_stepsByTurning_9 : decode cX7_stepsByTurning 9 = .ok (.bipush 8, 2) := by decide +kernel
theorem dX7_stepsByTurning_11 : decode cX7_stepsByTurning 11 = .ok (.if_icmp .ge 46, 3) := by decide +kernel
theorem dX7_stepsByTurning_14 : decode cX7_stepsByTurning 14 = .ok (.iload_n 2, 1) := by decide +kernel
theorem dX7_stepsByTurning_15 : decode cX7_stepsByTurning 15 = .ok (.iload_n 1, 1) := by decide +kernel
theorem dX7_stepsByTurning_16 : decode cX7_stepsByTurning 16 = .ok (.if_icmp .eq 41, 3) := by decide +kernel
theorem dX7_stepsByTurning_19 : decode cX7_stepsByTurning 19 = .ok (.iload_n 3, 1) := by decide +kernel
theorem dX7_stepsByTurning_20 : decode cX7_stepsByTurning 20 = .ok (.iload_n 1, 1) := by decide +kernel
theorem dX7_stepsByTurning_21 : decode cX7_stepsByTurning 21 = .ok (.if_icmp .eq 36, 3) := by decide +kernel
theorem dX7_stepsByTurning_24 : decode cX7_stepsByTurning 24 = .ok (.iload_n 2, 1) := by decide +kernel
theorem dX7_stepsByTurning_25 : decode cX7_stepsByTurning 25 = .ok (.bipush 7, 2) := by decide +kernel
theorem dX7_stepsByTurning_27 : decode cX7_stepsByTurning 27 = .ok (.if_icmp .ne 7, 3) := by decide +kernel
theorem dX7_stepsByTurning_30 : decode cX7_stepsByTurning 30 = .ok (.iconst 0, 1) := by decide +kernel
theorem dX7_stepsByTurning_31 : decode cX7_stepsByTurning 31 = .ok (.goto 6, 3) := by decide +kernel
theorem dX7_stepsByTurning_34 : decode cX7_stepsByTurning 34 = .ok (.iload_n 2, 1) := by decide +kernel
theorem dX7_stepsByTurning_35 : decode cX7_stepsByTurning 35 = .ok (.iconst 1, 1) := by decide +kernel
theorem dX7_stepsByTurning_36 : decode cX7_stepsByTurning 36 = .ok (.iadd, 1) := by decide +kernel
theorem dX7_stepsByTurning_37 : decode cX7_stepsByTurning 37 = .ok (.istore_n 2, 1) := by decide +kernel
theorem dX7_stepsByTurning_38 : decode cX7_stepsByTurning 38 = .ok (.iload_n 3, 1) := by decide +kernel
theorem dX7_stepsByTurning_39 : decode cX7_stepsByTurning 39 = .ok (.ifCond .ne 8, 3) := by decide +kernel
theorem dX7_stepsByTurning_42 : decode cX7_stepsByTurning 42 = .ok (.bipush 7, 2) := by decide +kernel
theorem dX7_stepsByTurning_44 : decode cX7_stepsByTurning 44 = .ok (.goto 6, 3) := by decide +kernel
theorem dX7_stepsByTurning_47 : decode cX7_stepsByTurning 47 = .ok (.iload_n 3, 1) := by decide +kernel
theorem dX7_stepsByTurning_48 : decode cX7_stepsByTurning 48 = .ok (.iconst 1, 1) := by decide +kernel
theorem dX7_stepsByTurning_49 : decode cX7_stepsByTurning 49 = .ok (.isub, 1) := by decide +kernel
theorem dX7_stepsByTurning_50 : decode cX7_stepsByTurning 50 = .ok (.istore_n 3, 1) := by decide +kernel
theorem dX7_stepsByTurning_51 : decode cX7_stepsByTurning 51 = .ok (.iinc 4 1, 3) := by decide +kernel
theorem dX7_stepsByTurning_54 : decode cX7_stepsByTurning 54 = .ok (.goto (-47), 3) := by decide +kernel
theorem dX7_stepsByTurning_57 : decode cX7_stepsByTurning 57 = .ok (.iload 4, 2) := by decide +kernel
theorem dX7_stepsByTurning_59 : decode cX7_stepsByTurning 59 = .ok (.ireturn, 1) := by decide +kernel
theorem dX7_raisedRate_0 : decode cX7_raisedRate 0 = .ok (.iload_n 0, 1) := by decide +kernel
theorem dX7_raisedRate_1 : decode cX7_raisedRate 1 = .ok (.bipush 100, 2) := by decide +kernel
theorem dX7_raisedRate_3 : decode cX7_raisedRate 3 = .ok (.iload_n 1, 1) := by decide +kernel
theorem dX7_raisedRate_4 : decode cX7_raisedRate 4 = .ok (.iadd, 1) := by decide +kernel
theorem dX7_raisedRate_5 : decode cX7_raisedRate 5 = .ok (.imul, 1) := by decide +kernel
theorem dX7_raisedRate_6 : decode cX7_raisedRate 6 = .ok (.bipush 99, 2) := by decide +kernel
theorem dX7_raisedRate_8 : decode cX7_raisedRate 8 = .ok (.iadd, 1) := by decide +kernel
theorem dX7_raisedRate_9 : decode cX7_raisedRate 9 = .ok (.bipush 100, 2) := by decide +kernel
theorem dX7_raisedRate_11 : decode cX7_raisedRate 11 = .ok (.idiv, 1) := by decide +kernel
theorem dX7_raisedRate_12 : decode cX7_raisedRate 12 = .ok (.istore_n 2, 1) := by decide +kernel
theorem dX7_raisedRate_13 : decode cX7_raisedRate 13 = .ok (.iload_n 2, 1) := by decide +kernel
theorem dX7_raisedRate_14 : decode cX7_raisedRate 14 = .ok (.bipush 99, 2) := by decide +kernel
theorem dX7_raisedRate_16 : decode cX7_raisedRate 16 = .ok (.invokestatic 405, 3) := by decide +kernel
theorem dX7_raisedRate_19 : decode cX7_raisedRate 19 = .ok (.ireturn, 1) := by decide +kernel
