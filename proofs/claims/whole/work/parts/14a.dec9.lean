theorem dX9_init_0 : decode cX9_init 0 = .ok (.aload_n 0, 1) := by decide +kernel
theorem dX9_init_1 : decode cX9_init 1 = .ok (.invokespecial 1, 3) := by decide +kernel
theorem dX9_init_4 : decode cX9_init 4 = .ok (.aload_n 0, 1) := by decide +kernel
theorem dX9_init_5 : decode cX9_init 5 = .ok (.bipush 100, 2) := by decide +kernel
theorem dX9_init_7 : decode cX9_init 7 = .ok (.newarray .int, 2) := by decide +kernel
theorem dX9_init_9 : decode cX9_init 9 = .ok (.putfield 7, 3) := by decide +kernel
theorem dX9_init_12 : decode cX9_init 12 = .ok (.aload_n 0, 1) := by decide +kernel
theorem dX9_init_13 : decode cX9_init 13 = .ok (.bipush 100, 2) := by decide +kernel
theorem dX9_init_15 : decode cX9_init 15 = .ok (.newarray .int, 2) := by decide +kernel
theorem dX9_init_17 : decode cX9_init 17 = .ok (.putfield 13, 3) := by decide +kernel
theorem dX9_init_20 : decode cX9_init 20 = .ok (.aload_n 0, 1) := by decide +kernel
theorem dX9_init_21 : decode cX9_init 21 = .ok (.sipush 1400, 3) := by decide +kernel
theorem dX9_init_24 : decode cX9_init 24 = .ok (.newarray .int, 2) := by decide +kernel
theorem dX9_init_26 : decode cX9_init 26 = .ok (.putfield 16, 3) := by decide +kernel
theorem dX9_init_29 : decode cX9_init 29 = .ok (.aload_n 0, 1) := by decide +kernel
theorem dX9_init_30 : decode cX9_init 30 = .ok (.sipush 200, 3) := by decide +kernel
theorem dX9_init_33 : decode cX9_init 33 = .ok (.newarray .int, 2) := by decide +kernel
theorem dX9_init_35 : decode cX9_init 35 = .ok (.putfield 19, 3) := by decide +kernel
theorem dX9_init_38 : decode cX9_init 38 = .ok (.aload_n 0, 1) := by decide +kernel
theorem dX9_init_39 : decode cX9_init 39 = .ok (.iconst 2, 1) := by decide +kernel
theorem dX9_init_40 : decode cX9_init 40 = .ok (.newarray .boolean, 2) := by decide +kernel
theorem dX9_init_42 : decode cX9_init 42 = .ok (.putfield 22, 3) := by decide +kernel
theorem dX9_init_45 : decode cX9_init 45 = .ok (.aload_n 0, 1) := by decide +kernel
theorem dX9_init_46 : decode cX9_init 46 = .ok (.bipush 120, 2) := by decide +kernel
theorem dX9_init_48 : decode cX9_init 48 = .ok (.newarray .int, 2) := by decide +kernel
theorem dX9_init_50 : decode cX9_init 50 = .ok (.putfield 26, 3) := by decide +kernel
theorem dX9_init_53 : decode cX9_init 53 = .ok (.aload_n 0, 1) := by decide +kernel
theorem dX9_init_54 : decode cX9_init 54 = .ok (.bipush 6, 2) := by decide +kernel
theorem dX9_init_56 : decode cX9_init 56 = .ok (.newarray .int, 2) := by decide +kernel
theorem dX9_init_58 : decode cX9_init 58 = .ok (.putfield 29, 3) := by decide +kernel
theorem dX9_init_61 : decode cX9_init 61 = .ok (.aload_n 0, 1) := by decide +kernel
theorem dX9_init_62 : decode cX9_init 62 = .ok (.invokevirtual 32, 3) := by decide +kernel
theorem dX9_init_65 : decode cX9_init 65 = .ok (.return_, 1) := by decide +kernel
theorem dX9_thrown_0 : decode cX9_thrown 0 = .ok (.aload_n 0, 1) := by decide +kernel
theorem dX9_thrown_1 : decode cX9_thrown 1 = .ok (.getfield 35, 3) := by decide +kernel
theorem dX9_thrown_4 : decode cX9_thrown 4 = .ok (.ireturn, 1) := by decide +kernel
theorem dX9_in_0 : decode cX9_in 0 = .ok (.iload_n 0, 1) := by decide +kernel
theorem dX9_in_1 : decode cX9_in 1 = .ok (.iload_n 1, 1) := by decide +kernel
theorem dX9_in_2 : decode cX9_in 2 = .ok (.if_icmp .lt 12, 3) := by decide +kernel
theorem dX9_in_5 : decode cX9_in 5 = .ok (.iload_n 0, 1) := by decide +kernel
theorem dX9_in_6 : decode cX9_in 6 = .ok (.iload_n 2, 1) := by decide +kernel
theorem dX9_in_7 : decode cX9_in 7 = .ok (.if_icmp .gt 7, 3) := by decide +kernel
theorem dX9_in_10 : decode cX9_in 10 = .ok (.iconst 1, 1) := by decide +kernel
theorem dX9_in_11 : decode cX9_in 11 = .ok (.goto 4, 3) := by decide +kernel
theorem dX9_in_14 : decode cX9_in 14 = .ok (.iconst 0, 1) := by decide +kernel
theorem dX9_in_15 : decode cX9_in 15 = .ok (.ireturn, 1) := by decide +kernel
theorem dX9_fails_0 : decode cX9_fails 0 = .ok (.aload_n 0, 1) := by decide +kernel
theorem dX9_fails_1 : decode cX9_fails 1 = .ok (.iload_n 1, 1) := by decide +kernel
theorem dX9_fails_2 : decode cX9_fails 2 = .ok (.putfield 35, 3) := by decide +kernel
theorem dX9_fails_5 : decode cX9_fails 5 = .ok (.iconst 0, 1) := by decide +kernel
theorem dX9_fails_6 : decode cX9_fails 6 = .ok (.ireturn, 1) := by decide +kernel
theorem dX9_anew_0 : decode cX9_anew 0 = .ok (.iconst 0, 1) := by decide +kernel
theorem dX9_anew_1 : decode cX9_anew 1 = .ok (.istore_n 1, 1) := by decide +kernel
theorem dX9_anew_2 : decode cX9_anew 2 = .ok (.iload_n 1, 1) := by decide +kernel
theorem dX9_anew_3 : decode cX9_anew 3 = .ok (.bipush 100, 2) := by decide +kernel
theorem dX9_anew_5 : decode cX9_anew 5 = .ok (.if_icmp .ge 31, 3) := by decide +kernel
theorem dX9_anew_8 : decode cX9_anew 8 = .ok (.aload_n 0, 1) := by decide +kernel
theorem dX9_anew_9 : decode cX9_anew 9 = .ok (.getfield 7, 3) := by decide +kernel
theorem dX9_anew_12 : decode cX9_anew 12 = .ok (.iload_n 1, 1) := by decide +kernel
theorem dX9_anew_13 : decode cX9_anew 13 = .ok (.iload_n 1, 1) := by decide +kernel
theorem dX9_anew_14 : decode cX9_anew 14 = .ok (.bipush 40, 2) := by decide +kernel
theorem dX9_anew_16 : decode cX9_anew 16 = .ok (.bipush 69, 2) := by decide +kernel
theorem dX9_anew_18 : decode cX9_anew 18 = .ok (.invokestatic 39, 3) := by decide +kernel
theorem dX9_anew_21 : decode cX9_anew 21 = .ok (.ifCond .eq 7, 3) := by decide +kernel
theorem dX9_anew_24 : decode cX9_anew 24 = .ok (.iconst 5, 1) := by decide +kernel
theorem dX9_anew_25 : decode cX9_anew 25 = .ok (.goto 4, 3) := by decide +kernel
theorem dX9_anew_28 : decode cX9_anew 28 = .ok (.iconst 0, 1) := by decide +kernel
theorem dX9_anew_29 : decode cX9_anew 29 = .ok (.iastore, 1) := by decide +kernel
theorem dX9_anew_30 : decode cX9_anew 30 = .ok (.iinc 1 1, 3) := by decide +kernel
theorem dX9_anew_33 : decode cX9_anew 33 = .ok (.goto (-31), 3) := by decide +kernel
theorem dX9_anew_36 : decode cX9_anew 36 = .ok (.return_, 1) := by decide +kernel
theorem dX9_keep_0 : decode cX9_keep 0 = .ok (.iconst 0, 1) := by decide +kernel
theorem dX9_keep_1 : decode cX9_keep 1 = .ok (.istore_n 1, 1) := by decide +kernel
theorem dX9_keep_2 : decode cX9_keep 2 = .ok (.iload_n 1, 1) := by decide +kernel
theorem dX9_keep_3 : decode cX9_keep 3 = .ok (.bipush 100, 2) := by decide +kernel
theorem dX9_keep_5 : decode cX9_keep 5 = .ok (.if_icmp .ge 21, 3) := by decide +kernel
theorem dX9_keep_8 : decode cX9_keep 8 = .ok (.aload_n 0, 1) := by decide +kernel
theorem dX9_keep_9 : decode cX9_keep 9 = .ok (.getfield 13, 3) := by decide +kernel
theorem dX9_keep_12 : decode cX9_keep 12 = .ok (.iload_n 1, 1) := by decide +kernel
theorem dX9_keep_13 : decode cX9_keep 13 = .ok (.aload_n 0, 1) := by decide +kernel
theorem dX9_keep_14 : decode cX9_keep 14 = .ok (.getfield 7, 3) := by decide +kernel
theorem dX9_keep_17 : decode cX9_keep 17 = .ok (.iload_n 1, 1) := by decide +kernel
theorem dX9_keep_18 : decode cX9_keep 18 = .ok (.iaload, 1) := by decide +kernel
theorem dX9_keep_19 : decode cX9_keep 19 = .ok (.iastore, 1) := by decide +kernel
theorem dX9_keep_20 : decode cX9_keep 20 = .ok (.iinc 1 1, 3) := by decide +kernel
theorem dX9_keep_23 : decode cX9_keep 23 = .ok (.goto (-21), 3) := by decide +kernel
theorem dX9_keep_26 : decode cX9_keep 26 = .ok (.return_, 1) := by decide +kernel
theorem dX9_bringBack_0 : decode cX9_bringBack 0 = .ok (.iconst 0, 1) := by decide +kernel
theorem dX9_bringBack_1 : decode cX9_bringBack 1 = .ok (.istore_n 1, 1) := by decide +kernel
theorem dX9_bringBack_2 : decode cX9_bringBack 2 = .ok (.iload_n 1, 1) := by decide +kernel
theorem dX9_bringBack_3 : decode cX9_bringBack 3 = .ok (.bipush 100, 2) := by decide +kernel
theorem dX9_bringBack_5 : decode cX9_bringBack 5 = .ok (.if_icmp .ge 21, 3) := by decide +kernel
theorem dX9_bringBack_8 : decode cX9_bringBack 8 = .ok (.aload_n 0, 1) := by decide +kernel
theorem dX9_bringBack_9 : decode cX9_bringBack 9 = .ok (.getfield 7, 3) := by decide +kernel
theorem dX9_bringBack_12 : decode cX9_bringBack 12 = .ok (.iload_n 1, 1) := by decide +kernel
theorem dX9_bringBack_13 : decode cX9_bringBack 13 = .ok (.aload_n 0, 1) := by decide +kernel
theorem dX9_bringBack_14 : decode cX9_bringBack 14 = .ok (.getfield 13, 3) := by decide +kernel
theorem dX9_bringBack_17 : decode cX9_bringBack 17 = .ok (.iload_n 1, 1) := by decide +kernel
theorem dX9_bringBack_18 : decode cX9_bringBack 18 = .ok (.iaload, 1) := by decide +kernel
theorem dX9_bringBack_19 : decode cX9_bringBack 19 = .ok (.iastore, 1) := by decide +kernel
theorem dX9_bringBack_20 : decode cX9_bringBack 20 = .ok (.iinc 1 1, 3) := by decide +kernel
theorem dX9_bringBack_23 : decode cX9_bringBack 23 = .ok (.goto (-21), 3) := by decide +kernel
theorem dX9_bringBack_26 : decode cX9_bringBack 26 = .ok (.return_, 1) := by decide +kernel
theorem dX9_remember_0 : decode cX9_remember 0 = .ok (.aload_n 0, 1) := by decide +kernel
theorem dX9_remember_1 : decode cX9_remember 1 = .ok (.getfield 43, 3) := by decide +kernel
theorem dX9_remember_4 : decode cX9_remember 4 = .ok (.bipush 14, 2) := by decide +kernel
theorem dX9_remember_6 : decode cX9_remember 6 = .ok (.if_icmp .ne 43, 3) := by decide +kernel
theorem dX9_remember_9 : decode cX9_remember 9 = .ok (.iconst 0, 1) := by decide +kernel
theorem dX9_remember_10 : decode cX9_remember 10 = .ok (.istore_n 1, 1) := by decide +kernel
theorem dX9_remember_11 : decode cX9_remember 11 = .ok (.iload_n 1, 1) := by decide +kernel
theorem dX9_remember_12 : decode cX9_remember 12 = .ok (.sipush 1300, 3) := by decide +kernel
theorem dX9_remember_15 : decode cX9_remember 15 = .ok (.if_icmp .ge 24, 3) := by decide +kernel
theorem dX9_remember_18 : decode cX9_remember 18 = .ok (.aload_n 0, 1) := by decide +kernel
theorem dX9_remember_19 : decode cX9_remember 19 = .ok (.getfield 16, 3) := by decide +kernel
theorem dX9_remember_22 : decode cX9_remember 22 = .ok (.iload_n 1, 1) := by decide +kernel
theorem dX9_remember_23 : decode cX9_remember 23 = .ok (.aload_n 0, 1) := by decide +kernel
theorem dX9_remember_24 : decode cX9_remember 24 = .ok (.getfield 16, 3) := by decide +kernel
theorem dX9_remember_27 : decode cX9_remember 27 = .ok (.iload_n 1, 1) := by decide +kernel
theorem dX9_remember_28 : decode cX9_remember 28 = .ok (.bipush 100, 2) := by decide +kernel
theorem dX9_remember_30 : decode cX9_remember 30 = .ok (.iadd, 1) := by decide +kernel
theorem dX9_remember_31 : decode cX9_remember 31 = .ok (.iaload, 1) := by decide +kernel
theorem dX9_remember_32 : decode cX9_remember 32 = .ok (.iastore, 1) := by decide +kernel
theorem dX9_remember_33 : decode cX9_remember 33 = .ok (.iinc 1 1, 3) := by decide +kernel
theorem dX9_remember_36 : decode cX9_remember 36 = .ok (.goto (-25), 3) := by decide +kernel
theorem dX9_remember_39 : decode cX9_remember 39 = .ok (.aload_n 0, 1) := by decide +kernel
theorem dX9_remember_40 : decode cX9_remember 40 = .ok (.dup, 1) := by decide +kernel
theorem dX9_remember_41 : decode cX9_remember 41 = .ok (.getfield 43, 3) := by decide +kernel
theorem dX9_remember_44 : decode cX9_remember 44 = .ok (.iconst 1, 1) := by decide +kernel
theorem dX9_remember_45 : decode cX9_remember 45 = .ok (.isub, 1) := by decide +kernel
theorem dX9_remember_46 : decode cX9_remember 46 = .ok (.putfield 43, 3) := by decide +kernel
theorem dX9_remember_49 : decode cX9_remember 49 = .ok (.iconst 0, 1) := by decide +kernel
theorem dX9_remember_50 : decode cX9_remember 50 = .ok (.istore_n 1, 1) := by decide +kernel
theorem dX9_remember_51 : decode cX9_remember 51 = .ok (.iload_n 1, 1) := by decide +kernel
theorem dX9_remember_52 : decode cX9_remember 52 = .ok (.bipush 100, 2) := by decide +kernel
theorem dX9_remember_54 : decode cX9_remember 54 = .ok (.if_icmp .ge 29, 3) := by decide +kernel
theorem dX9_remember_57 : decode cX9_remember 57 = .ok (.aload_n 0, 1) := by decide +kernel
theorem dX9_remember_58 : decode cX9_remember 58 = .ok (.getfield 16, 3) := by decide +kernel
theorem dX9_remember_61 : decode cX9_remember 61 = .ok (.bipush 100, 2) := by decide +kernel
theorem dX9_remember_63 : decode cX9_remember 63 = .ok (.aload_n 0, 1) := by decide +kernel
theorem dX9_remember_64 : decode cX9_remember 64 = .ok (.getfield 43, 3) := by decide +kernel
theorem dX9_remember_67 : decode cX9_remember 67 = .ok (.imul, 1) := by decide +kernel
theorem dX9_remember_68 : decode cX9_remember 68 = .ok (.iload_n 1, 1) := by decide +kernel
theorem dX9_remember_69 : decode cX9_remember 69 = .ok (.iadd, 1) := by decide +kernel
theorem dX9_remember_70 : decode cX9_remember 70 = .ok (.aload_n 0, 1) := by decide +kernel
theorem dX9_remember_71 : decode cX9_remember 71 = .ok (.getfield 7, 3) := by decide +kernel
theorem dX9_remember_74 : decode cX9_remember 74 = .ok (.iload_n 1, 1) := by decide +kernel
theorem dX9_remember_75 : decode cX9_remember 75 = .ok (.iaload, 1) := by decide +kernel
theorem dX9_remember_76 : decode cX9_remember 76 = .ok (.iastore, 1) := by decide +kernel
theorem dX9_remember_77 : decode cX9_remember 77 = .ok (.iinc 1 1, 3) := by decide +kernel
theorem dX9_remember_80 : decode cX9_remember 80 = .ok (.goto (-29), 3) := by decide +kernel
theorem dX9_remember_83 : decode cX9_remember 83 = .ok (.aload_n 0, 1) := by decide +kernel
theorem dX9_remember_84 : decode cX9_remember 84 = .ok (.dup, 1) := by decide +kernel
theorem dX9_remember_85 : decode cX9_remember 85 = .ok (.getfield 43, 3) := by decide +kernel
theorem dX9_remember_88 : decode cX9_remember 88 = .ok (.iconst 1, 1) := by decide +kernel
theorem dX9_remember_89 : decode cX9_remember 89 = .ok (.iadd, 1) := by decide +kernel
theorem dX9_remember_90 : decode cX9_remember 90 = .ok (.putfield 43, 3) := by decide +kernel
theorem dX9_remember_93 : decode cX9_remember 93 = .ok (.return_, 1) := by decide +kernel
theorem dX9_isHouse_0 : decode cX9_isHouse 0 = .ok (.iload_n 1, 1) := by decide +kernel
theorem dX9_isHouse_1 : decode cX9_isHouse 1 = .ok (.iconst 0, 1) := by decide +kernel
theorem dX9_isHouse_2 : decode cX9_isHouse 2 = .ok (.aload_n 0, 1) := by decide +kernel
theorem dX9_isHouse_3 : decode cX9_isHouse 3 = .ok (.getfield 7, 3) := by decide +kernel
theorem dX9_isHouse_6 : decode cX9_isHouse 6 = .ok (.iconst 0, 1) := by decide +kernel
theorem dX9_isHouse_7 : decode cX9_isHouse 7 = .ok (.iaload, 1) := by decide +kernel
theorem dX9_isHouse_8 : decode cX9_isHouse 8 = .ok (.iconst 1, 1) := by decide +kernel
theorem dX9_isHouse_9 : decode cX9_isHouse 9 = .ok (.isub, 1) := by decide +kernel
theorem dX9_isHouse_10 : decode cX9_isHouse 10 = .ok (.invokestatic 39, 3) := by decide +kernel
theorem dX9_isHouse_13 : decode cX9_isHouse 13 = .ok (.ireturn, 1) := by decide +kernel
theorem dX9_isVegetable_0 : decode cX9_isVegetable 0 = .ok (.iload_n 1, 1) := by decide +kernel
theorem dX9_isVegetable_1 : decode cX9_isVegetable 1 = .ok (.iconst 0, 1) := by decide +kernel
theorem dX9_isVegetable_2 : decode cX9_isVegetable 2 = .ok (.aload_n 0, 1) := by decide +kernel
theorem dX9_isVegetable_3 : decode cX9_isVegetable 3 = .ok (.getfield 7, 3) := by decide +kernel
theorem dX9_isVegetable_6 : decode cX9_isVegetable 6 = .ok (.iconst 1, 1) := by decide +kernel
theorem dX9_isVegetable_7 : decode cX9_isVegetable 7 = .ok (.iaload, 1) := by decide +kernel
theorem dX9_isVegetable_8 : decode cX9_isVegetable 8 = .ok (.iconst 1, 1) := by decide +kernel
theorem dX9_isVegetable_9 : decode cX9_isVegetable 9 = .ok (.isub, 1) := by decide +kernel
theorem dX9_isVegetable_10 : decode cX9_isVegetable 10 = .ok (.invokestatic 39, 3) := by decide +kernel
theorem dX9_isVegetable_13 : decode cX9_isVegetable 13 = .ok (.ireturn, 1) := by decide +kernel
theorem dX9_size_0 : decode cX9_size 0 = .ok (.bipush 6, 2) := by decide +kernel
theorem dX9_size_2 : decode cX9_size 2 = .ok (.iconst 4, 1) := by decide +kernel
theorem dX9_size_3 : decode cX9_size 3 = .ok (.iload_n 0, 1) := by decide +kernel
theorem dX9_size_4 : decode cX9_size 4 = .ok (.imul, 1) := by decide +kernel
theorem dX9_size_5 : decode cX9_size 5 = .ok (.iadd, 1) := by decide +kernel
theorem dX9_size_6 : decode cX9_size 6 = .ok (.ireturn, 1) := by decide +kernel
theorem dX9_harvest_0 : decode cX9_harvest 0 = .ok (.bipush 30, 2) := by decide +kernel
theorem dX9_harvest_2 : decode cX9_harvest 2 = .ok (.iconst 2, 1) := by decide +kernel
theorem dX9_harvest_3 : decode cX9_harvest 3 = .ok (.iload_n 0, 1) := by decide +kernel
theorem dX9_harvest_4 : decode cX9_harvest 4 = .ok (.imul, 1) := by decide +kernel
theorem dX9_harvest_5 : decode cX9_harvest 5 = .ok (.iadd, 1) := by decide +kernel
theorem dX9_harvest_6 : decode cX9_harvest 6 = .ok (.ireturn, 1) := by decide +kernel
theorem dX9_like_0 : decode cX9_like 0 = .ok (.bipush 40, 2) := by decide +kernel
theorem dX9_like_2 : decode cX9_like 2 = .ok (.iconst 5, 1) := by decide +kernel
theorem dX9_like_3 : decode cX9_like 3 = .ok (.iload_n 0, 1) := by decide +kernel
theorem dX9_like_4 : decode cX9_like 4 = .ok (.imul, 1) := by decide +kernel
theorem dX9_like_5 : decode cX9_like 5 = .ok (.iadd, 1) := by decide +kernel
theorem dX9_like_6 : decode cX9_like 6 = .ok (.iload_n 1, 1) := by decide +kernel
theorem dX9_like_7 : decode cX9_like 7 = .ok (.iadd, 1) := by decide +kernel
theorem dX9_like_8 : decode cX9_like 8 = .ok (.ireturn, 1) := by decide +kernel
theorem dX9_kilos_0 : decode cX9_kilos 0 = .ok (.bipush 70, 2) := by decide +kernel
theorem dX9_kilos_2 : decode cX9_kilos 2 = .ok (.iconst 5, 1) := by decide +kernel
theorem dX9_kilos_3 : decode cX9_kilos 3 = .ok (.iload_n 0, 1) := by decide +kernel
theorem dX9_kilos_4 : decode cX9_kilos 4 = .ok (.imul, 1) := by decide +kernel
theorem dX9_kilos_5 : decode cX9_kilos 5 = .ok (.iadd, 1) := by decide +kernel
theorem dX9_kilos_6 : decode cX9_kilos 6 = .ok (.iload_n 1, 1) := by decide +kernel
theorem dX9_kilos_7 : decode cX9_kilos 7 = .ok (.iadd, 1) := by decide +kernel
theorem dX9_kilos_8 : decode cX9_kilos 8 = .ok (.ireturn, 1) := by decide +kernel
theorem dX9_getsBox_0 : decode cX9_getsBox 0 = .ok (.aload_n 0, 1) := by decide +kernel
theorem dX9_getsBox_1 : decode cX9_getsBox 1 = .ok (.getfield 7, 3) := by decide +kernel
theorem dX9_getsBox_4 : decode cX9_getsBox 4 = .ok (.iload_n 1, 1) := by decide +kernel
theorem dX9_getsBox_5 : decode cX9_getsBox 5 = .ok (.invokestatic 46, 3) := by decide +kernel
theorem dX9_getsBox_8 : decode cX9_getsBox 8 = .ok (.iconst 3, 1) := by decide +kernel
theorem dX9_getsBox_9 : decode cX9_getsBox 9 = .ok (.iadd, 1) := by decide +kernel
theorem dX9_getsBox_10 : decode cX9_getsBox 10 = .ok (.iaload, 1) := by decide +kernel
theorem dX9_getsBox_11 : decode cX9_getsBox 11 = .ok (.ifCond .ne 22, 3) := by decide +kernel
theorem dX9_getsBox_14 : decode cX9_getsBox 14 = .ok (.aload_n 0, 1) := by decide +kernel
theorem dX9_getsBox_15 : decode cX9_getsBox 15 = .ok (.getfield 7, 3) := by decide +kernel
theorem dX9_getsBox_18 : decode cX9_getsBox 18 = .ok (.iload_n 1, 1) := by decide +kernel
theorem dX9_getsBox_19 : decode cX9_getsBox 19 = .ok (.invokestatic 46, 3) := by decide +kernel
theorem dX9_getsBox_22 : decode cX9_getsBox 22 = .ok (.iconst 1, 1) := by decide +kernel
theorem dX9_getsBox_23 : decode cX9_getsBox 23 = .ok (.iadd, 1) := by decide +kernel
theorem dX9_getsBox_24 : decode cX9_getsBox 24 = .ok (.iaload, 1) := by decide +kernel
theorem dX9_getsBox_25 : decode cX9_getsBox 25 = .ok (.iconst 3, 1) := by decide +kernel
theorem dX9_getsBox_26 : decode cX9_getsBox 26 = .ok (.if_icmp .ge 7, 3) := by decide +kernel
theorem dX9_getsBox_29 : decode cX9_getsBox 29 = .ok (.iconst 1, 1) := by decide +kernel
theorem dX9_getsBox_30 : decode cX9_getsBox 30 = .ok (.goto 4, 3) := by decide +kernel
theorem dX9_getsBox_33 : decode cX9_getsBox 33 = .ok (.iconst 0, 1) := by decide +kernel
theorem dX9_getsBox_34 : decode cX9_getsBox 34 = .ok (.ireturn, 1) := by decide +kernel
theorem dX9_boxes_0 : decode cX9_boxes 0 = .ok (.iconst 0, 1) := by decide +kernel
theorem dX9_boxes_1 : decode cX9_boxes 1 = .ok (.istore_n 1, 1) := by decide +kernel
theorem dX9_boxes_2 : decode cX9_boxes 2 = .ok (.iconst 0, 1) := by decide +kernel
theorem dX9_boxes_3 : decode cX9_boxes 3 = .ok (.istore_n 2, 1) := by decide +kernel
theorem dX9_boxes_4 : decode cX9_boxes 4 = .ok (.iload_n 2, 1) := by decide +kernel
theorem dX9_boxes_5 : decode cX9_boxes 5 = .ok (.aload_n 0, 1) := by decide +kernel
theorem dX9_boxes_6 : decode cX9_boxes 6 = .ok (.getfield 7, 3) := by decide +kernel
theorem dX9_boxes_9 : decode cX9_boxes 9 = .ok (.iconst 0, 1) := by decide +kernel
theorem dX9_boxes_10 : decode cX9_boxes 10 = .ok (.iaload, 1) := by decide +kernel
theorem dX9_boxes_11 : decode cX9_boxes 11 = .ok (.if_icmp .ge 25, 3) := by decide +kernel
theorem dX9_boxes_14 : decode cX9_boxes 14 = .ok (.iload_n 1, 1) := by decide +kernel
theorem dX9_boxes_15 : decode cX9_boxes 15 = .ok (.aload_n 0, 1) := by decide +kernel
theorem dX9_boxes_16 : decode cX9_boxes 16 = .ok (.iload_n 2, 1) := by decide +kernel
theorem dX9_boxes_17 : decode cX9_boxes 17 = .ok (.invokevirtual 50, 3) := by decide +kernel
theorem dX9_boxes_20 : decode cX9_boxes 20 = .ok (.ifCond .eq 7, 3) := by decide +kernel
theorem dX9_boxes_23 : decode cX9_boxes 23 = .ok (.iconst 1, 1) := by decide +kernel
theorem dX9_boxes_24 : decode cX9_boxes 24 = .ok (.goto 4, 3) := by decide +kernel
theorem dX9_boxes_27 : decode cX9_boxes 27 = .ok (.iconst 0, 1) := by decide +kernel
theorem dX9_boxes_28 : decode cX9_boxes 28 = .ok (.iadd, 1) := by decide +kernel
theorem dX9_boxes_29 : decode cX9_boxes 29 = .ok (.istore_n 1, 1) := by decide +kernel
theorem dX9_boxes_30 : decode cX9_boxes 30 = .ok (.iinc 2 1, 3) := by decide +kernel
theorem dX9_boxes_33 : decode cX9_boxes 33 = .ok (.goto (-29), 3) := by decide +kernel
theorem dX9_boxes_36 : decode cX9_boxes 36 = .ok (.iload_n 1, 1) := by decide +kernel
theorem dX9_boxes_37 : decode cX9_boxes 37 = .ok (.ireturn, 1) := by decide +kernel
theorem dX9_partOf_0 : decode cX9_partOf 0 = .ok (.aload_n 0, 1) := by decide +kernel
theorem dX9_partOf_1 : decode cX9_partOf 1 = .ok (.iload_n 1, 1) := by decide +kernel
theorem dX9_partOf_2 : decode cX9_partOf 2 = .ok (.invokevirtual 50, 3) := by decide +kernel
theorem dX9_partOf_5 : decode cX9_partOf 5 = .ok (.ifCond .ne 7, 3) := by decide +kernel
theorem dX9_partOf_8 : decode cX9_partOf 8 = .ok (.iconst 0, 1) := by decide +kernel
theorem dX9_partOf_9 : decode cX9_partOf 9 = .ok (.goto 40, 3) := by decide +kernel
theorem dX9_partOf_12 : decode cX9_partOf 12 = .ok (.aload_n 0, 1) := by decide +kernel
theorem dX9_partOf_13 : decode cX9_partOf 13 = .ok (.getfield 7, 3) := by decide +kernel
theorem dX9_partOf_16 : decode cX9_partOf 16 = .ok (.iload_n 1, 1) := by decide +kernel
theorem dX9_partOf_17 : decode cX9_partOf 17 = .ok (.invokestatic 46, 3) := by decide +kernel
theorem dX9_partOf_20 : decode cX9_partOf 20 = .ok (.iconst 2, 1) := by decide +kernel
theorem dX9_partOf_21 : decode cX9_partOf 21 = .ok (.iadd, 1) := by decide +kernel
theorem dX9_partOf_22 : decode cX9_partOf 22 = .ok (.iaload, 1) := by decide +kernel
theorem dX9_partOf_23 : decode cX9_partOf 23 = .ok (.ifCond .le 17, 3) := by decide +kernel
theorem dX9_partOf_26 : decode cX9_partOf 26 = .ok (.aload_n 0, 1) := by decide +kernel
theorem dX9_partOf_27 : decode cX9_partOf 27 = .ok (.getfield 7, 3) := by decide +kernel
theorem dX9_partOf_30 : decode cX9_partOf 30 = .ok (.iload_n 1, 1) := by decide +kernel
theorem dX9_partOf_31 : decode cX9_partOf 31 = .ok (.invokestatic 46, 3) := by decide +kernel
theorem dX9_partOf_34 : decode cX9_partOf 34 = .ok (.iaload, 1) := by decide +kernel
theorem dX9_partOf_35 : decode cX9_partOf 35 = .ok (.iconst 1, 1) := by decide +kernel
theorem dX9_partOf_36 : decode cX9_partOf 36 = .ok (.iadd, 1) := by decide +kernel
theorem dX9_partOf_37 : decode cX9_partOf 37 = .ok (.goto 12, 3) := by decide +kernel
theorem dX9_partOf_40 : decode cX9_partOf 40 = .ok (.aload_n 0, 1) := by decide +kernel
theorem dX9_partOf_41 : decode cX9_partOf 41 = .ok (.getfield 7, 3) := by decide +kernel
theorem dX9_partOf_44 : decode cX9_partOf 44 = .ok (.iload_n 1, 1) := by decide +kernel
theorem dX9_partOf_45 : decode cX9_partOf 45 = .ok (.invokestatic 46, 3) := by decide +kernel
theorem dX9_partOf_48 : decode cX9_partOf 48 = .ok (.iaload, 1) := by decide +kernel
theorem dX9_partOf_49 : decode cX9_partOf 49 = .ok (.ireturn, 1) := by decide +kernel
theorem dX9_greedy_0 : decode cX9_greedy 0 = .ok (.iconst (-1), 1) := by decide +kernel
theorem dX9_greedy_1 : decode cX9_greedy 1 = .ok (.istore_n 2, 1) := by decide +kernel
theorem dX9_greedy_2 : decode cX9_greedy 2 = .ok (.iconst 0, 1) := by decide +kernel
theorem dX9_greedy_3 : decode cX9_greedy 3 = .ok (.istore_n 3, 1) := by decide +kernel
theorem dX9_greedy_4 : decode cX9_greedy 4 = .ok (.iload_n 3, 1) := by decide +kernel
theorem dX9_greedy_5 : decode cX9_greedy 5 = .ok (.aload_n 0, 1) := by decide +kernel
theorem dX9_greedy_6 : decode cX9_greedy 6 = .ok (.getfield 7, 3) := by decide +kernel
theorem dX9_greedy_9 : decode cX9_greedy 9 = .ok (.iconst 0, 1) := by decide +kernel
theorem dX9_greedy_10 : decode cX9_greedy 10 = .ok (.iaload, 1) := by decide +kernel
theorem dX9_greedy_11 : decode cX9_greedy 11 = .ok (.if_icmp .ge 93, 3) := by decide +kernel
theorem dX9_greedy_14 : decode cX9_greedy 14 = .ok (.aload_n 0, 1) := by decide +kernel
theorem dX9_greedy_15 : decode cX9_greedy 15 = .ok (.iload_n 3, 1) := by decide +kernel
theorem dX9_greedy_16 : decode cX9_greedy 16 = .ok (.invokevirtual 50, 3) := by decide +kernel
theorem dX9_greedy_19 : decode cX9_greedy 19 = .ok (.ifCond .eq 20, 3) := by decide +kernel
theorem dX9_greedy_22 : decode cX9_greedy 22 = .ok (.aload_n 0, 1) := by decide +kernel
theorem dX9_greedy_23 : decode cX9_greedy 23 = .ok (.getfield 7, 3) := by decide +kernel
theorem dX9_greedy_26 : decode cX9_greedy 26 = .ok (.iload_n 3, 1) := by decide +kernel
theorem dX9_greedy_27 : decode cX9_greedy 27 = .ok (.iload_n 1, 1) := by decide +kernel
theorem dX9_greedy_28 : decode cX9_greedy 28 = .ok (.invokestatic 54, 3) := by decide +kernel
theorem dX9_greedy_31 : decode cX9_greedy 31 = .ok (.iaload, 1) := by decide +kernel
theorem dX9_greedy_32 : decode cX9_greedy 32 = .ok (.ifCond .le 7, 3) := by decide +kernel
theorem dX9_greedy_35 : decode cX9_greedy 35 = .ok (.iconst 1, 1) := by decide +kernel
theorem dX9_greedy_36 : decode cX9_greedy 36 = .ok (.goto 4, 3) := by decide +kernel
theorem dX9_greedy_39 : decode cX9_greedy 39 = .ok (.iconst 0, 1) := by decide +kernel
theorem dX9_greedy_40 : decode cX9_greedy 40 = .ok (.istore 4, 2) := by decide +kernel
theorem dX9_greedy_42 : decode cX9_greedy 42 = .ok (.iload 4, 2) := by decide +kernel
theorem dX9_greedy_44 : decode cX9_greedy 44 = .ok (.ifCond .eq 52, 3) := by decide +kernel
theorem dX9_greedy_47 : decode cX9_greedy 47 = .ok (.iload_n 2, 1) := by decide +kernel
theorem dX9_greedy_48 : decode cX9_greedy 48 = .ok (.ifCond .lt 44, 3) := by decide +kernel
theorem dX9_greedy_51 : decode cX9_greedy 51 = .ok (.aload_n 0, 1) := by decide +kernel
theorem dX9_greedy_52 : decode cX9_greedy 52 = .ok (.getfield 7, 3) := by decide +kernel
theorem dX9_greedy_55 : decode cX9_greedy 55 = .ok (.iload_n 3, 1) := by decide +kernel
theorem dX9_greedy_56 : decode cX9_greedy 56 = .ok (.iload_n 1, 1) := by decide +kernel
theorem dX9_greedy_57 : decode cX9_greedy 57 = .ok (.invokestatic 54, 3) := by decide +kernel
theorem dX9_greedy_60 : decode cX9_greedy 60 = .ok (.iaload, 1) := by decide +kernel
theorem dX9_greedy_61 : decode cX9_greedy 61 = .ok (.iconst 2, 1) := by decide +kernel
theorem dX9_greedy_62 : decode cX9_greedy 62 = .ok (.aload_n 0, 1) := by decide +kernel
theorem dX9_greedy_63 : decode cX9_greedy 63 = .ok (.getfield 29, 3) := by decide +kernel
theorem dX9_greedy_66 : decode cX9_greedy 66 = .ok (.iload_n 3, 1) := by decide +kernel
theorem dX9_greedy_67 : decode cX9_greedy 67 = .ok (.iaload, 1) := by decide +kernel
theorem dX9_greedy_68 : decode cX9_greedy 68 = .ok (.imul, 1) := by decide +kernel
theorem dX9_greedy_69 : decode cX9_greedy 69 = .ok (.isub, 1) := by decide +kernel
theorem dX9_greedy_70 : decode cX9_greedy 70 = .ok (.aload_n 0, 1) := by decide +kernel
theorem dX9_greedy_71 : decode cX9_greedy 71 = .ok (.getfield 7, 3) := by decide +kernel
theorem dX9_greedy_74 : decode cX9_greedy 74 = .ok (.iload_n 2, 1) := by decide +kernel
theorem dX9_greedy_75 : decode cX9_greedy 75 = .ok (.iload_n 1, 1) := by decide +kernel
theorem dX9_greedy_76 : decode cX9_greedy 76 = .ok (.invokestatic 54, 3) := by decide +kernel
theorem dX9_greedy_79 : decode cX9_greedy 79 = .ok (.iaload, 1) := by decide +kernel
theorem dX9_greedy_80 : decode cX9_greedy 80 = .ok (.iconst 2, 1) := by decide +kernel
theorem dX9_greedy_81 : decode cX9_greedy 81 = .ok (.aload_n 0, 1) := by decide +kernel
theorem dX9_greedy_82 : decode cX9_greedy 82 = .ok (.getfield 29, 3) := by decide +kernel
theorem dX9_greedy_85 : decode cX9_greedy 85 = .ok (.iload_n 2, 1) := by decide +kernel
theorem dX9_greedy_86 : decode cX9_greedy 86 = .ok (.iaload, 1) := by decide +kernel
theorem dX9_greedy_87 : decode cX9_greedy 87 = .ok (.imul, 1) := by decide +kernel
theorem dX9_greedy_88 : decode cX9_greedy 88 = .ok (.isub, 1) := by decide +kernel
theorem dX9_greedy_89 : decode cX9_greedy 89 = .ok (.if_icmp .le 7, 3) := by decide +kernel
theorem dX9_greedy_92 : decode cX9_greedy 92 = .ok (.iload_n 3, 1) := by decide +kernel
theorem dX9_greedy_93 : decode cX9_greedy 93 = .ok (.goto 4, 3) := by decide +kernel
theorem dX9_greedy_96 : decode cX9_greedy 96 = .ok (.iload_n 2, 1) := by decide +kernel
theorem dX9_greedy_97 : decode cX9_greedy 97 = .ok (.istore_n 2, 1) := by decide +kernel
theorem dX9_greedy_98 : decode cX9_greedy 98 = .ok (.iinc 3 1, 3) := by decide +kernel
theorem dX9_greedy_101 : decode cX9_greedy 101 = .ok (.goto (-97), 3) := by decide +kernel
theorem dX9_greedy_104 : decode cX9_greedy 104 = .ok (.iload_n 2, 1) := by decide +kernel
theorem dX9_greedy_105 : decode cX9_greedy 105 = .ok (.ireturn, 1) := by decide +kernel
theorem dX9_shareOut_0 : decode cX9_shareOut 0 = .ok (.iconst 0, 1) := by decide +kernel
theorem dX9_shareOut_1 : decode cX9_shareOut 1 = .ok (.istore_n 2, 1) := by decide +kernel
theorem dX9_shareOut_2 : decode cX9_shareOut 2 = .ok (.iconst 0, 1) := by decide +kernel
theorem dX9_shareOut_3 : decode cX9_shareOut 3 = .ok (.istore_n 3, 1) := by decide +kernel
theorem dX9_shareOut_4 : decode cX9_shareOut 4 = .ok (.iload_n 3, 1) := by decide +kernel
theorem dX9_shareOut_5 : decode cX9_shareOut 5 = .ok (.aload_n 0, 1) := by decide +kernel
theorem dX9_shareOut_6 : decode cX9_shareOut 6 = .ok (.getfield 7, 3) := by decide +kernel
theorem dX9_shareOut_9 : decode cX9_shareOut 9 = .ok (.iconst 0, 1) := by decide +kernel
theorem dX9_shareOut_10 : decode cX9_shareOut 10 = .ok (.iaload, 1) := by decide +kernel
theorem dX9_shareOut_11 : decode cX9_shareOut 11 = .ok (.if_icmp .ge 24, 3) := by decide +kernel
theorem dX9_shareOut_14 : decode cX9_shareOut 14 = .ok (.iload_n 2, 1) := by decide +kernel
theorem dX9_shareOut_15 : decode cX9_shareOut 15 = .ok (.aload_n 0, 1) := by decide +kernel
theorem dX9_shareOut_16 : decode cX9_shareOut 16 = .ok (.iload_n 3, 1) := by decide +kernel
theorem dX9_shareOut_17 : decode cX9_shareOut 17 = .ok (.invokevirtual 58, 3) := by decide +kernel
theorem dX9_shareOut_20 : decode cX9_shareOut 20 = .ok (.iadd, 1) := by decide +kernel
theorem dX9_shareOut_21 : decode cX9_shareOut 21 = .ok (.istore_n 2, 1) := by decide +kernel
theorem dX9_shareOut_22 : decode cX9_shareOut 22 = .ok (.aload_n 0, 1) := by decide +kernel
theorem dX9_shareOut_23 : decode cX9_shareOut 23 = .ok (.getfield 29, 3) := by decide +kernel
theorem dX9_shareOut_26 : decode cX9_shareOut 26 = .ok (.iload_n 3, 1) := by decide +kernel
theorem dX9_shareOut_27 : decode cX9_shareOut 27 = .ok (.iconst 0, 1) := by decide +kernel
theorem dX9_shareOut_28 : decode cX9_shareOut 28 = .ok (.iastore, 1) := by decide +kernel
theorem dX9_shareOut_29 : decode cX9_shareOut 29 = .ok (.iinc 3 1, 3) := by decide +kernel
theorem dX9_shareOut_32 : decode cX9_shareOut 32 = .ok (.goto (-28), 3) := by decide +kernel
theorem dX9_shareOut_35 : decode cX9_shareOut 35 = .ok (.aload_n 0, 1) := by decide +kernel
theorem dX9_shareOut_36 : decode cX9_shareOut 36 = .ok (.getfield 7, 3) := by decide +kernel
theorem dX9_shareOut_39 : decode cX9_shareOut 39 = .ok (.iload_n 1, 1) := by decide +kernel
theorem dX9_shareOut_40 : decode cX9_shareOut 40 = .ok (.invokestatic 61, 3) := by decide +kernel
theorem dX9_shareOut_43 : decode cX9_shareOut 43 = .ok (.iaload, 1) := by decide +kernel
theorem dX9_shareOut_44 : decode cX9_shareOut 44 = .ok (.istore_n 3, 1) := by decide +kernel
theorem dX9_shareOut_45 : decode cX9_shareOut 45 = .ok (.iconst 0, 1) := by decide +kernel
theorem dX9_shareOut_46 : decode cX9_shareOut 46 = .ok (.istore 4, 2) := by decide +kernel
theorem dX9_shareOut_48 : decode cX9_shareOut 48 = .ok (.iload 4, 2) := by decide +kernel
theorem dX9_shareOut_50 : decode cX9_shareOut 50 = .ok (.aload_n 0, 1) := by decide +kernel
theorem dX9_shareOut_51 : decode cX9_shareOut 51 = .ok (.getfield 7, 3) := by decide +kernel
theorem dX9_shareOut_54 : decode cX9_shareOut 54 = .ok (.iconst 0, 1) := by decide +kernel
theorem dX9_shareOut_55 : decode cX9_shareOut 55 = .ok (.iaload, 1) := by decide +kernel
theorem dX9_shareOut_56 : decode cX9_shareOut 56 = .ok (.if_icmp .ge 47, 3) := by decide +kernel
theorem dX9_shareOut_59 : decode cX9_shareOut 59 = .ok (.aload_n 0, 1) := by decide +kernel
theorem dX9_shareOut_60 : decode cX9_shareOut 60 = .ok (.getfield 7, 3) := by decide +kernel
theorem dX9_shareOut_63 : decode cX9_shareOut 63 = .ok (.iload_n 1, 1) := by decide +kernel
theorem dX9_shareOut_64 : decode cX9_shareOut 64 = .ok (.invokestatic 61, 3) := by decide +kernel
theorem dX9_shareOut_67 : decode cX9_shareOut 67 = .ok (.iaload, 1) := by decide +kernel
theorem dX9_shareOut_68 : decode cX9_shareOut 68 = .ok (.aload_n 0, 1) := by decide +kernel
theorem dX9_shareOut_69 : decode cX9_shareOut 69 = .ok (.iload 4, 2) := by decide +kernel
theorem dX9_shareOut_71 : decode cX9_shareOut 71 = .ok (.invokevirtual 58, 3) := by decide +kernel
theorem dX9_shareOut_74 : decode cX9_shareOut 74 = .ok (.imul, 1) := by decide +kernel
theorem dX9_shareOut_75 : decode cX9_shareOut 75 = .ok (.iload_n 2, 1) := by decide +kernel
theorem dX9_shareOut_76 : decode cX9_shareOut 76 = .ok (.idiv, 1) := by decide +kernel
theorem dX9_shareOut_77 : decode cX9_shareOut 77 = .ok (.istore 5, 2) := by decide +kernel
theorem dX9_shareOut_79 : decode cX9_shareOut 79 = .ok (.aload_n 0, 1) := by decide +kernel
theorem dX9_shareOut_80 : decode cX9_shareOut 80 = .ok (.getfield 7, 3) := by decide +kernel
theorem dX9_shareOut_83 : decode cX9_shareOut 83 = .ok (.iload 4, 2) := by decide +kernel
theorem dX9_shareOut_85 : decode cX9_shareOut 85 = .ok (.iload_n 1, 1) := by decide +kernel
theorem dX9_shareOut_86 : decode cX9_shareOut 86 = .ok (.invokestatic 64, 3) := by decide +kernel
theorem dX9_shareOut_89 : decode cX9_shareOut 89 = .ok (.iload 5, 2) := by decide +kernel
theorem dX9_shareOut_91 : decode cX9_shareOut 91 = .ok (.iastore, 1) := by decide +kernel
theorem dX9_shareOut_92 : decode cX9_shareOut 92 = .ok (.iload_n 3, 1) := by decide +kernel
theorem dX9_shareOut_93 : decode cX9_shareOut 93 = .ok (.iload 5, 2) := by decide +kernel
theorem dX9_shareOut_95 : decode cX9_shareOut 95 = .ok (.isub, 1) := by decide +kernel
theorem dX9_shareOut_96 : decode cX9_shareOut 96 = .ok (.istore_n 3, 1) := by decide +kernel
theorem dX9_shareOut_97 : decode cX9_shareOut 97 = .ok (.iinc 4 1, 3) := by decide +kernel
theorem dX9_shareOut_100 : decode cX9_shareOut 100 = .ok (.goto (-52), 3) := by decide +kernel
theorem dX9_shareOut_103 : decode cX9_shareOut 103 = .ok (.aload_n 0, 1) := by decide +kernel
theorem dX9_shareOut_104 : decode cX9_shareOut 104 = .ok (.iload_n 1, 1) := by decide +kernel
theorem dX9_shareOut_105 : decode cX9_shareOut 105 = .ok (.invokevirtual 67, 3) := by decide +kernel
theorem dX9_shareOut_108 : decode cX9_shareOut 108 = .ok (.istore 4, 2) := by decide +kernel
theorem dX9_shareOut_110 : decode cX9_shareOut 110 = .ok (.iload_n 3, 1) := by decide +kernel
theorem dX9_shareOut_111 : decode cX9_shareOut 111 = .ok (.ifCond .le 47, 3) := by decide +kernel
theorem dX9_shareOut_114 : decode cX9_shareOut 114 = .ok (.iload 4, 2) := by decide +kernel
theorem dX9_shareOut_116 : decode cX9_shareOut 116 = .ok (.ifCond .lt 42, 3) := by decide +kernel
theorem dX9_shareOut_119 : decode cX9_shareOut 119 = .ok (.aload_n 0, 1) := by decide +kernel
theorem dX9_shareOut_120 : decode cX9_shareOut 120 = .ok (.getfield 7, 3) := by decide +kernel
theorem dX9_shareOut_123 : decode cX9_shareOut 123 = .ok (.iload 4, 2) := by decide +kernel
theorem dX9_shareOut_125 : decode cX9_shareOut 125 = .ok (.iload_n 1, 1) := by decide +kernel
theorem dX9_shareOut_126 : decode cX9_shareOut 126 = .ok (.invokestatic 64, 3) := by decide +kernel
theorem dX9_shareOut_129 : decode cX9_shareOut 129 = .ok (.dup2, 1) := by decide +kernel
theorem dX9_shareOut_130 : decode cX9_shareOut 130 = .ok (.iaload, 1) := by decide +kernel
theorem dX9_shareOut_131 : decode cX9_shareOut 131 = .ok (.iconst 1, 1) := by decide +kernel
theorem dX9_shareOut_132 : decode cX9_shareOut 132 = .ok (.iadd, 1) := by decide +kernel
theorem dX9_shareOut_133 : decode cX9_shareOut 133 = .ok (.iastore, 1) := by decide +kernel
theorem dX9_shareOut_134 : decode cX9_shareOut 134 = .ok (.aload_n 0, 1) := by decide +kernel
theorem dX9_shareOut_135 : decode cX9_shareOut 135 = .ok (.getfield 29, 3) := by decide +kernel
theorem dX9_shareOut_138 : decode cX9_shareOut 138 = .ok (.iload 4, 2) := by decide +kernel
theorem dX9_shareOut_140 : decode cX9_shareOut 140 = .ok (.dup2, 1) := by decide +kernel
theorem dX9_shareOut_141 : decode cX9_shareOut 141 = .ok (.iaload, 1) := by decide +kernel
theorem dX9_shareOut_142 : decode cX9_shareOut 142 = .ok (.iconst 1, 1) := by decide +kernel
theorem dX9_shareOut_143 : decode cX9_shareOut 143 = .ok (.iadd, 1) := by decide +kernel
theorem dX9_shareOut_144 : decode cX9_shareOut 144 = .ok (.iastore, 1) := by decide +kernel
theorem dX9_shareOut_145 : decode cX9_shareOut 145 = .ok (.iinc 3 (-1), 3) := by decide +kernel
theorem dX9_shareOut_148 : decode cX9_shareOut 148 = .ok (.aload_n 0, 1) := by decide +kernel
theorem dX9_shareOut_149 : decode cX9_shareOut 149 = .ok (.iload_n 1, 1) := by decide +kernel
theorem dX9_shareOut_150 : decode cX9_shareOut 150 = .ok (.invokevirtual 67, 3) := by decide +kernel
theorem dX9_shareOut_153 : decode cX9_shareOut 153 = .ok (.istore 4, 2) := by decide +kernel
theorem dX9_shareOut_155 : decode cX9_shareOut 155 = .ok (.goto (-45), 3) := by decide +kernel
theorem dX9_shareOut_158 : decode cX9_shareOut 158 = .ok (.aload_n 0, 1) := by decide +kernel
theorem dX9_shareOut_159 : decode cX9_shareOut 159 = .ok (.getfield 7, 3) := by decide +kernel
theorem dX9_shareOut_162 : decode cX9_shareOut 162 = .ok (.iload_n 1, 1) := by decide +kernel
theorem dX9_shareOut_163 : decode cX9_shareOut 163 = .ok (.invokestatic 61, 3) := by decide +kernel
theorem dX9_shareOut_166 : decode cX9_shareOut 166 = .ok (.iconst 1, 1) := by decide +kernel
theorem dX9_shareOut_167 : decode cX9_shareOut 167 = .ok (.iadd, 1) := by decide +kernel
theorem dX9_shareOut_168 : decode cX9_shareOut 168 = .ok (.dup2, 1) := by decide +kernel
theorem dX9_shareOut_169 : decode cX9_shareOut 169 = .ok (.iaload, 1) := by decide +kernel
theorem dX9_shareOut_170 : decode cX9_shareOut 170 = .ok (.iload_n 3, 1) := by decide +kernel
theorem dX9_shareOut_171 : decode cX9_shareOut 171 = .ok (.iadd, 1) := by decide +kernel
theorem dX9_shareOut_172 : decode cX9_shareOut 172 = .ok (.iastore, 1) := by decide +kernel
theorem dX9_shareOut_173 : decode cX9_shareOut 173 = .ok (.return_, 1) := by decide +kernel
theorem dX9_canSwap_0 : decode cX9_canSwap 0 = .ok (.aload_n 0, 1) := by decide +kernel
theorem dX9_canSwap_1 : decode cX9_canSwap 1 = .ok (.getfield 7, 3) := by decide +kernel
theorem dX9_canSwap_4 : decode cX9_canSwap 4 = .ok (.iload_n 1, 1) := by decide +kernel
theorem dX9_canSwap_5 : decode cX9_canSwap 5 = .ok (.iload_n 3, 1) := by decide +kernel
theorem dX9_canSwap_6 : decode cX9_canSwap 6 = .ok (.invokestatic 64, 3) := by decide +kernel
theorem dX9_canSwap_9 : decode cX9_canSwap 9 = .ok (.iaload, 1) := by decide +kernel
theorem dX9_canSwap_10 : decode cX9_canSwap 10 = .ok (.ifCond .le 21, 3) := by decide +kernel
theorem dX9_canSwap_13 : decode cX9_canSwap 13 = .ok (.aload_n 0, 1) := by decide +kernel
theorem dX9_canSwap_14 : decode cX9_canSwap 14 = .ok (.getfield 7, 3) := by decide +kernel
theorem dX9_canSwap_17 : decode cX9_canSwap 17 = .ok (.iload_n 2, 1) := by decide +kernel
theorem dX9_canSwap_18 : decode cX9_canSwap 18 = .ok (.iload 4, 2) := by decide +kernel
theorem dX9_canSwap_20 : decode cX9_canSwap 20 = .ok (.invokestatic 64, 3) := by decide +kernel
theorem dX9_canSwap_23 : decode cX9_canSwap 23 = .ok (.iaload, 1) := by decide +kernel
theorem dX9_canSwap_24 : decode cX9_canSwap 24 = .ok (.ifCond .le 7, 3) := by decide +kernel
theorem dX9_canSwap_27 : decode cX9_canSwap 27 = .ok (.iconst 1, 1) := by decide +kernel
theorem dX9_canSwap_28 : decode cX9_canSwap 28 = .ok (.goto 4, 3) := by decide +kernel
theorem dX9_canSwap_31 : decode cX9_canSwap 31 = .ok (.iconst 0, 1) := by decide +kernel
theorem dX9_canSwap_32 : decode cX9_canSwap 32 = .ok (.istore 5, 2) := by decide +kernel
theorem dX9_canSwap_34 : decode cX9_canSwap 34 = .ok (.iload 5, 2) := by decide +kernel
theorem dX9_canSwap_36 : decode cX9_canSwap 36 = .ok (.ifCond .eq 55, 3) := by decide +kernel
theorem dX9_canSwap_39 : decode cX9_canSwap 39 = .ok (.aload_n 0, 1) := by decide +kernel
theorem dX9_canSwap_40 : decode cX9_canSwap 40 = .ok (.getfield 7, 3) := by decide +kernel
theorem dX9_canSwap_43 : decode cX9_canSwap 43 = .ok (.iload_n 1, 1) := by decide +kernel
theorem dX9_canSwap_44 : decode cX9_canSwap 44 = .ok (.iload 4, 2) := by decide +kernel
theorem dX9_canSwap_46 : decode cX9_canSwap 46 = .ok (.invokestatic 54, 3) := by decide +kernel
theorem dX9_canSwap_49 : decode cX9_canSwap 49 = .ok (.iaload, 1) := by decide +kernel
theorem dX9_canSwap_50 : decode cX9_canSwap 50 = .ok (.aload_n 0, 1) := by decide +kernel
theorem dX9_canSwap_51 : decode cX9_canSwap 51 = .ok (.getfield 7, 3) := by decide +kernel
theorem dX9_canSwap_54 : decode cX9_canSwap 54 = .ok (.iload_n 1, 1) := by decide +kernel
theorem dX9_canSwap_55 : decode cX9_canSwap 55 = .ok (.iload_n 3, 1) := by decide +kernel
theorem dX9_canSwap_56 : decode cX9_canSwap 56 = .ok (.invokestatic 54, 3) := by decide +kernel
theorem dX9_canSwap_59 : decode cX9_canSwap 59 = .ok (.iaload, 1) := by decide +kernel
theorem dX9_canSwap_60 : decode cX9_canSwap 60 = .ok (.if_icmp .le 31, 3) := by decide +kernel
theorem dX9_canSwap_63 : decode cX9_canSwap 63 = .ok (.aload_n 0, 1) := by decide +kernel
theorem dX9_canSwap_64 : decode cX9_canSwap 64 = .ok (.getfield 7, 3) := by decide +kernel
theorem dX9_canSwap_67 : decode cX9_canSwap 67 = .ok (.iload_n 2, 1) := by decide +kernel
theorem dX9_canSwap_68 : decode cX9_canSwap 68 = .ok (.iload_n 3, 1) := by decide +kernel
theorem dX9_canSwap_69 : decode cX9_canSwap 69 = .ok (.invokestatic 54, 3) := by decide +kernel
theorem dX9_canSwap_72 : decode cX9_canSwap 72 = .ok (.iaload, 1) := by decide +kernel
theorem dX9_canSwap_73 : decode cX9_canSwap 73 = .ok (.aload_n 0, 1) := by decide +kernel
theorem dX9_canSwap_74 : decode cX9_canSwap 74 = .ok (.getfield 7, 3) := by decide +kernel
theorem dX9_canSwap_77 : decode cX9_canSwap 77 = .ok (.iload_n 2, 1) := by decide +kernel
theorem dX9_canSwap_78 : decode cX9_canSwap 78 = .ok (.iload 4, 2) := by decide +kernel
theorem dX9_canSwap_80 : decode cX9_canSwap 80 = .ok (.invokestatic 54, 3) := by decide +kernel
theorem dX9_canSwap_83 : decode cX9_canSwap 83 = .ok (.iaload, 1) := by decide +kernel
theorem dX9_canSwap_84 : decode cX9_canSwap 84 = .ok (.if_icmp .le 7, 3) := by decide +kernel
theorem dX9_canSwap_87 : decode cX9_canSwap 87 = .ok (.iconst 1, 1) := by decide +kernel
theorem dX9_canSwap_88 : decode cX9_canSwap 88 = .ok (.goto 4, 3) := by decide +kernel
theorem dX9_canSwap_91 : decode cX9_canSwap 91 = .ok (.iconst 0, 1) := by decide +kernel
theorem dX9_canSwap_92 : decode cX9_canSwap 92 = .ok (.ireturn, 1) := by decide +kernel
theorem dX9_bestSwap_0 : decode cX9_bestSwap 0 = .ok (.iconst (-1), 1) := by decide +kernel
theorem dX9_bestSwap_1 : decode cX9_bestSwap 1 = .ok (.istore_n 1, 1) := by decide +kernel
theorem dX9_bestSwap_2 : decode cX9_bestSwap 2 = .ok (.iconst 0, 1) := by decide +kernel
theorem dX9_bestSwap_3 : decode cX9_bestSwap 3 = .ok (.istore_n 2, 1) := by decide +kernel
theorem dX9_bestSwap_4 : decode cX9_bestSwap 4 = .ok (.iconst 0, 1) := by decide +kernel
theorem dX9_bestSwap_5 : decode cX9_bestSwap 5 = .ok (.istore_n 3, 1) := by decide +kernel
theorem dX9_bestSwap_6 : decode cX9_bestSwap 6 = .ok (.iload_n 3, 1) := by decide +kernel
theorem dX9_bestSwap_7 : decode cX9_bestSwap 7 = .ok (.sipush 900, 3) := by decide +kernel
theorem dX9_bestSwap_10 : decode cX9_bestSwap 10 = .ok (.if_icmp .ge 190, 3) := by decide +kernel
theorem dX9_bestSwap_13 : decode cX9_bestSwap 13 = .ok (.iload_n 3, 1) := by decide +kernel
theorem dX9_bestSwap_14 : decode cX9_bestSwap 14 = .ok (.sipush 150, 3) := by decide +kernel
theorem dX9_bestSwap_17 : decode cX9_bestSwap 17 = .ok (.idiv, 1) := by decide +kernel
theorem dX9_bestSwap_18 : decode cX9_bestSwap 18 = .ok (.istore 4, 2) := by decide +kernel
theorem dX9_bestSwap_20 : decode cX9_bestSwap 20 = .ok (.iload_n 3, 1) := by decide +kernel
theorem dX9_bestSwap_21 : decode cX9_bestSwap 21 = .ok (.bipush 25, 2) := by decide +kernel
theorem dX9_bestSwap_23 : decode cX9_bestSwap 23 = .ok (.idiv, 1) := by decide +kernel
theorem dX9_bestSwap_24 : decode cX9_bestSwap 24 = .ok (.bipush 6, 2) := by decide +kernel
theorem dX9_bestSwap_26 : decode cX9_bestSwap 26 = .ok (.irem, 1) := by decide +kernel
theorem dX9_bestSwap_27 : decode cX9_bestSwap 27 = .ok (.istore 5, 2) := by decide +kernel
theorem dX9_bestSwap_29 : decode cX9_bestSwap 29 = .ok (.iload_n 3, 1) := by decide +kernel
theorem dX9_bestSwap_30 : decode cX9_bestSwap 30 = .ok (.iconst 5, 1) := by decide +kernel
theorem dX9_bestSwap_31 : decode cX9_bestSwap 31 = .ok (.idiv, 1) := by decide +kernel
theorem dX9_bestSwap_32 : decode cX9_bestSwap 32 = .ok (.iconst 5, 1) := by decide +kernel
theorem dX9_bestSwap_33 : decode cX9_bestSwap 33 = .ok (.irem, 1) := by decide +kernel
theorem dX9_bestSwap_34 : decode cX9_bestSwap 34 = .ok (.istore 6, 2) := by decide +kernel
theorem dX9_bestSwap_36 : decode cX9_bestSwap 36 = .ok (.iload_n 3, 1) := by decide +kernel
theorem dX9_bestSwap_37 : decode cX9_bestSwap 37 = .ok (.iconst 5, 1) := by decide +kernel
theorem dX9_bestSwap_38 : decode cX9_bestSwap 38 = .ok (.irem, 1) := by decide +kernel
theorem dX9_bestSwap_39 : decode cX9_bestSwap 39 = .ok (.istore 7, 2) := by decide +kernel
theorem dX9_bestSwap_41 : decode cX9_bestSwap 41 = .ok (.iload 4, 2) := by decide +kernel
theorem dX9_bestSwap_43 : decode cX9_bestSwap 43 = .ok (.iload 5, 2) := by decide +kernel
theorem dX9_bestSwap_45 : decode cX9_bestSwap 45 = .ok (.if_icmp .ge 149, 3) := by decide +kernel
theorem dX9_bestSwap_48 : decode cX9_bestSwap 48 = .ok (.iload 5, 2) := by decide +kernel
theorem dX9_bestSwap_50 : decode cX9_bestSwap 50 = .ok (.aload_n 0, 1) := by decide +kernel
theorem dX9_bestSwap_51 : decode cX9_bestSwap 51 = .ok (.getfield 7, 3) := by decide +kernel
theorem dX9_bestSwap_54 : decode cX9_bestSwap 54 = .ok (.iconst 0, 1) := by decide +kernel
theorem dX9_bestSwap_55 : decode cX9_bestSwap 55 = .ok (.iaload, 1) := by decide +kernel
theorem dX9_bestSwap_56 : decode cX9_bestSwap 56 = .ok (.if_icmp .ge 138, 3) := by decide +kernel
theorem dX9_bestSwap_59 : decode cX9_bestSwap 59 = .ok (.iload 6, 2) := by decide +kernel
theorem dX9_bestSwap_61 : decode cX9_bestSwap 61 = .ok (.aload_n 0, 1) := by decide +kernel
theorem dX9_bestSwap_62 : decode cX9_bestSwap 62 = .ok (.getfield 7, 3) := by decide +kernel
theorem dX9_bestSwap_65 : decode cX9_bestSwap 65 = .ok (.iconst 1, 1) := by decide +kernel
theorem dX9_bestSwap_66 : decode cX9_bestSwap 66 = .ok (.iaload, 1) := by decide +kernel
theorem dX9_bestSwap_67 : decode cX9_bestSwap 67 = .ok (.if_icmp .ge 127, 3) := by decide +kernel
theorem dX9_bestSwap_70 : decode cX9_bestSwap 70 = .ok (.iload 7, 2) := by decide +kernel
theorem dX9_bestSwap_72 : decode cX9_bestSwap 72 = .ok (.aload_n 0, 1) := by decide +kernel
theorem dX9_bestSwap_73 : decode cX9_bestSwap 73 = .ok (.getfield 7, 3) := by decide +kernel
theorem dX9_bestSwap_76 : decode cX9_bestSwap 76 = .ok (.iconst 1, 1) := by decide +kernel
theorem dX9_bestSwap_77 : decode cX9_bestSwap 77 = .ok (.iaload, 1) := by decide +kernel
theorem dX9_bestSwap_78 : decode cX9_bestSwap 78 = .ok (.if_icmp .ge 116, 3) := by decide +kernel
theorem dX9_bestSwap_81 : decode cX9_bestSwap 81 = .ok (.aload_n 0, 1) := by decide +kernel
theorem dX9_bestSwap_82 : decode cX9_bestSwap 82 = .ok (.iload 4, 2) := by decide +kernel
theorem dX9_bestSwap_84 : decode cX9_bestSwap 84 = .ok (.iload 5, 2) := by decide +kernel
theorem dX9_bestSwap_86 : decode cX9_bestSwap 86 = .ok (.iload 6, 2) := by decide +kernel
theorem dX9_bestSwap_88 : decode cX9_bestSwap 88 = .ok (.iload 7, 2) := by decide +kernel
theorem dX9_bestSwap_90 : decode cX9_bestSwap 90 = .ok (.invokevirtual 70, 3) := by decide +kernel
theorem dX9_bestSwap_93 : decode cX9_bestSwap 93 = .ok (.ifCond .eq 101, 3) := by decide +kernel
theorem dX9_bestSwap_96 : decode cX9_bestSwap 96 = .ok (.aload_n 0, 1) := by decide +kernel
theorem dX9_bestSwap_97 : decode cX9_bestSwap 97 = .ok (.getfield 7, 3) := by decide +kernel
theorem dX9_bestSwap_100 : decode cX9_bestSwap 100 = .ok (.iload 4, 2) := by decide +kernel
theorem dX9_bestSwap_102 : decode cX9_bestSwap 102 = .ok (.iload 7, 2) := by decide +kernel
theorem dX9_bestSwap_104 : decode cX9_bestSwap 104 = .ok (.invokestatic 54, 3) := by decide +kernel
theorem dX9_bestSwap_107 : decode cX9_bestSwap 107 = .ok (.iaload, 1) := by decide +kernel
theorem dX9_bestSwap_108 : decode cX9_bestSwap 108 = .ok (.aload_n 0, 1) := by decide +kernel
theorem dX9_bestSwap_109 : decode cX9_bestSwap 109 = .ok (.getfield 7, 3) := by decide +kernel
theorem dX9_bestSwap_112 : decode cX9_bestSwap 112 = .ok (.iload 4, 2) := by decide +kernel
theorem dX9_bestSwap_114 : decode cX9_bestSwap 114 = .ok (.iload 6, 2) := by decide +kernel
theorem dX9_bestSwap_116 : decode cX9_bestSwap 116 = .ok (.invokestatic 54, 3) := by decide +kernel
theorem dX9_bestSwap_119 : decode cX9_bestSwap 119 = .ok (.iaload, 1) := by decide +kernel
theorem dX9_bestSwap_120 : decode cX9_bestSwap 120 = .ok (.isub, 1) := by decide +kernel
theorem dX9_bestSwap_121 : decode cX9_bestSwap 121 = .ok (.aload_n 0, 1) := by decide +kernel
theorem dX9_bestSwap_122 : decode cX9_bestSwap 122 = .ok (.getfield 7, 3) := by decide +kernel
theorem dX9_bestSwap_125 : decode cX9_bestSwap 125 = .ok (.iload 5, 2) := by decide +kernel
theorem dX9_bestSwap_127 : decode cX9_bestSwap 127 = .ok (.iload 6, 2) := by decide +kernel
theorem dX9_bestSwap_129 : decode cX9_bestSwap 129 = .ok (.invokestatic 54, 3) := by decide +kernel
theorem dX9_bestSwap_132 : decode cX9_bestSwap 132 = .ok (.iaload, 1) := by decide +kernel
theorem dX9_bestSwap_133 : decode cX9_bestSwap 133 = .ok (.iadd, 1) := by decide +kernel
theorem dX9_bestSwap_134 : decode cX9_bestSwap 134 = .ok (.aload_n 0, 1) := by decide +kernel
theorem dX9_bestSwap_135 : decode cX9_bestSwap 135 = .ok (.getfield 7, 3) := by decide +kernel
theorem dX9_bestSwap_138 : decode cX9_bestSwap 138 = .ok (.iload 5, 2) := by decide +kernel
theorem dX9_bestSwap_140 : decode cX9_bestSwap 140 = .ok (.iload 7, 2) := by decide +kernel
theorem dX9_bestSwap_142 : decode cX9_bestSwap 142 = .ok (.invokestatic 54, 3) := by decide +kernel
theorem dX9_bestSwap_145 : decode cX9_bestSwap 145 = .ok (.iaload, 1) := by decide +kernel
theorem dX9_bestSwap_146 : decode cX9_bestSwap 146 = .ok (.isub, 1) := by decide +kernel
theorem dX9_bestSwap_147 : decode cX9_bestSwap 147 = .ok (.istore 8, 2) := by decide +kernel
theorem dX9_bestSwap_149 : decode cX9_bestSwap 149 = .ok (.iload 8, 2) := by decide +kernel
theorem dX9_bestSwap_151 : decode cX9_bestSwap 151 = .ok (.iload_n 2, 1) := by decide +kernel
theorem dX9_bestSwap_152 : decode cX9_bestSwap 152 = .ok (.if_icmp .le 27, 3) := by decide +kernel
theorem dX9_bestSwap_155 : decode cX9_bestSwap 155 = .ok (.sipush 1000, 3) := by decide +kernel
theorem dX9_bestSwap_158 : decode cX9_bestSwap 158 = .ok (.iload 4, 2) := by decide +kernel
theorem dX9_bestSwap_160 : decode cX9_bestSwap 160 = .ok (.imul, 1) := by decide +kernel
theorem dX9_bestSwap_161 : decode cX9_bestSwap 161 = .ok (.bipush 100, 2) := by decide +kernel
theorem dX9_bestSwap_163 : decode cX9_bestSwap 163 = .ok (.iload 5, 2) := by decide +kernel
theorem dX9_bestSwap_165 : decode cX9_bestSwap 165 = .ok (.imul, 1) := by decide +kernel
theorem dX9_bestSwap_166 : decode cX9_bestSwap 166 = .ok (.iadd, 1) := by decide +kernel
theorem dX9_bestSwap_167 : decode cX9_bestSwap 167 = .ok (.bipush 10, 2) := by decide +kernel
theorem dX9_bestSwap_169 : decode cX9_bestSwap 169 = .ok (.iload 6, 2) := by decide +kernel
theorem dX9_bestSwap_171 : decode cX9_bestSwap 171 = .ok (.imul, 1) := by decide +kernel
theorem dX9_bestSwap_172 : decode cX9_bestSwap 172 = .ok (.iadd, 1) := by decide +kernel
theorem dX9_bestSwap_173 : decode cX9_bestSwap 173 = .ok (.iload 7, 2) := by decide +kernel
theorem dX9_bestSwap_175 : decode cX9_bestSwap 175 = .ok (.iadd, 1) := by decide +kernel
theorem dX9_bestSwap_176 : decode cX9_bestSwap 176 = .ok (.goto 4, 3) := by decide +kernel
theorem dX9_bestSwap_179 : decode cX9_bestSwap 179 = .ok (.iload_n 1, 1) := by decide +kernel
theorem dX9_bestSwap_180 : decode cX9_bestSwap 180 = .ok (.istore_n 1, 1) := by decide +kernel
theorem dX9_bestSwap_181 : decode cX9_bestSwap 181 = .ok (.iload 8, 2) := by decide +kernel
theorem dX9_bestSwap_183 : decode cX9_bestSwap 183 = .ok (.iload_n 2, 1) := by decide +kernel
theorem dX9_bestSwap_184 : decode cX9_bestSwap 184 = .ok (.if_icmp .le 8, 3) := by decide +kernel
theorem dX9_bestSwap_187 : decode cX9_bestSwap 187 = .ok (.iload 8, 2) := by decide +kernel
theorem dX9_bestSwap_189 : decode cX9_bestSwap 189 = .ok (.goto 4, 3) := by decide +kernel
theorem dX9_bestSwap_192 : decode cX9_bestSwap 192 = .ok (.iload_n 2, 1) := by decide +kernel
theorem dX9_bestSwap_193 : decode cX9_bestSwap 193 = .ok (.istore_n 2, 1) := by decide +kernel
theorem dX9_bestSwap_194 : decode cX9_bestSwap 194 = .ok (.iinc 3 1, 3) := by decide +kernel
theorem dX9_bestSwap_197 : decode cX9_bestSwap 197 = .ok (.goto (-191), 3) := by decide +kernel
theorem dX9_bestSwap_200 : decode cX9_bestSwap 200 = .ok (.iload_n 1, 1) := by decide +kernel
theorem dX9_bestSwap_201 : decode cX9_bestSwap 201 = .ok (.ireturn, 1) := by decide +kernel
theorem dX9_swaps_0 : decode cX9_swaps 0 = .ok (.iconst 0, 1) := by decide +kernel
theorem dX9_swaps_1 : decode cX9_swaps 1 = .ok (.istore_n 1, 1) := by decide +kernel
theorem dX9_swaps_2 : decode cX9_swaps 2 = .ok (.aload_n 0, 1) := by decide +kernel
theorem dX9_swaps_3 : decode cX9_swaps 3 = .ok (.invokevirtual 74, 3) := by decide +kernel
theorem dX9_swaps_6 : decode cX9_swaps 6 = .ok (.istore_n 2, 1) := by decide +kernel
theorem dX9_swaps_7 : decode cX9_swaps 7 = .ok (.iload_n 2, 1) := by decide +kernel
theorem dX9_swaps_8 : decode cX9_swaps 8 = .ok (.ifCond .lt 106, 3) := by decide +kernel
theorem dX9_swaps_11 : decode cX9_swaps 11 = .ok (.iload_n 2, 1) := by decide +kernel
theorem dX9_swaps_12 : decode cX9_swaps 12 = .ok (.sipush 1000, 3) := by decide +kernel
theorem dX9_swaps_15 : decode cX9_swaps 15 = .ok (.idiv, 1) := by decide +kernel
theorem dX9_swaps_16 : decode cX9_swaps 16 = .ok (.istore_n 3, 1) := by decide +kernel
theorem dX9_swaps_17 : decode cX9_swaps 17 = .ok (.iload_n 2, 1) := by decide +kernel
theorem dX9_swaps_18 : decode cX9_swaps 18 = .ok (.bipush 100, 2) := by decide +kernel
theorem dX9_swaps_20 : decode cX9_swaps 20 = .ok (.idiv, 1) := by decide +kernel
theorem dX9_swaps_21 : decode cX9_swaps 21 = .ok (.bipush 10, 2) := by decide +kernel
theorem dX9_swaps_23 : decode cX9_swaps 23 = .ok (.irem, 1) := by decide +kernel
theorem dX9_swaps_24 : decode cX9_swaps 24 = .ok (.istore 4, 2) := by decide +kernel
theorem dX9_swaps_26 : decode cX9_swaps 26 = .ok (.iload_n 2, 1) := by decide +kernel
theorem dX9_swaps_27 : decode cX9_swaps 27 = .ok (.bipush 10, 2) := by decide +kernel
theorem dX9_swaps_29 : decode cX9_swaps 29 = .ok (.idiv, 1) := by decide +kernel
theorem dX9_swaps_30 : decode cX9_swaps 30 = .ok (.bipush 10, 2) := by decide +kernel
theorem dX9_swaps_32 : decode cX9_swaps 32 = .ok (.irem, 1) := by decide +kernel
theorem dX9_swaps_33 : decode cX9_swaps 33 = .ok (.istore 5, 2) := by decide +kernel
theorem dX9_swaps_35 : decode cX9_swaps 35 = .ok (.iload_n 2, 1) := by decide +kernel
theorem dX9_swaps_36 : decode cX9_swaps 36 = .ok (.bipush 10, 2) := by decide +kernel
theorem dX9_swaps_38 : decode cX9_swaps 38 = .ok (.irem, 1) := by decide +kernel
theorem dX9_swaps_39 : decode cX9_swaps 39 = .ok (.istore 6, 2) := by decide +kernel
theorem dX9_swaps_41 : decode cX9_swaps 41 = .ok (.aload_n 0, 1) := by decide +kernel
theorem dX9_swaps_42 : decode cX9_swaps 42 = .ok (.getfield 7, 3) := by decide +kernel
theorem dX9_swaps_45 : decode cX9_swaps 45 = .ok (.iload_n 3, 1) := by decide +kernel
theorem dX9_swaps_46 : decode cX9_swaps 46 = .ok (.iload 5, 2) := by decide +kernel
theorem dX9_swaps_48 : decode cX9_swaps 48 = .ok (.invokestatic 64, 3) := by decide +kernel
theorem dX9_swaps_51 : decode cX9_swaps 51 = .ok (.dup2, 1) := by decide +kernel
theorem dX9_swaps_52 : decode cX9_swaps 52 = .ok (.iaload, 1) := by decide +kernel
theorem dX9_swaps_53 : decode cX9_swaps 53 = .ok (.iconst 1, 1) := by decide +kernel
theorem dX9_swaps_54 : decode cX9_swaps 54 = .ok (.isub, 1) := by decide +kernel
theorem dX9_swaps_55 : decode cX9_swaps 55 = .ok (.iastore, 1) := by decide +kernel
theorem dX9_swaps_56 : decode cX9_swaps 56 = .ok (.aload_n 0, 1) := by decide +kernel
theorem dX9_swaps_57 : decode cX9_swaps 57 = .ok (.getfield 7, 3) := by decide +kernel
theorem dX9_swaps_60 : decode cX9_swaps 60 = .ok (.iload 4, 2) := by decide +kernel
theorem dX9_swaps_62 : decode cX9_swaps 62 = .ok (.iload 5, 2) := by decide +kernel
theorem dX9_swaps_64 : decode cX9_swaps 64 = .ok (.invokestatic 64, 3) := by decide +kernel
theorem dX9_swaps_67 : decode cX9_swaps 67 = .ok (.dup2, 1) := by decide +kernel
theorem dX9_swaps_68 : decode cX9_swaps 68 = .ok (.iaload, 1) := by decide +kernel
theorem dX9_swaps_69 : decode cX9_swaps 69 = .ok (.iconst 1, 1) := by decide +kernel
theorem dX9_swaps_70 : decode cX9_swaps 70 = .ok (.iadd, 1) := by decide +kernel
theorem dX9_swaps_71 : decode cX9_swaps 71 = .ok (.iastore, 1) := by decide +kernel
theorem dX9_swaps_72 : decode cX9_swaps 72 = .ok (.aload_n 0, 1) := by decide +kernel
theorem dX9_swaps_73 : decode cX9_swaps 73 = .ok (.getfield 7, 3) := by decide +kernel
theorem dX9_swaps_76 : decode cX9_swaps 76 = .ok (.iload 4, 2) := by decide +kernel
theorem dX9_swaps_78 : decode cX9_swaps 78 = .ok (.iload 6, 2) := by decide +kernel
theorem dX9_swaps_80 : decode cX9_swaps 80 = .ok (.invokestatic 64, 3) := by decide +kernel
theorem dX9_swaps_83 : decode cX9_swaps 83 = .ok (.dup2, 1) := by decide +kernel
theorem dX9_swaps_84 : decode cX9_swaps 84 = .ok (.iaload, 1) := by decide +kernel
theorem dX9_swaps_85 : decode cX9_swaps 85 = .ok (.iconst 1, 1) := by decide +kernel
theorem dX9_swaps_86 : decode cX9_swaps 86 = .ok (.isub, 1) := by decide +kernel
theorem dX9_swaps_87 : decode cX9_swaps 87 = .ok (.iastore, 1) := by decide +kernel
theorem dX9_swaps_88 : decode cX9_swaps 88 = .ok (.aload_n 0, 1) := by decide +kernel
theorem dX9_swaps_89 : decode cX9_swaps 89 = .ok (.getfield 7, 3) := by decide +kernel
theorem dX9_swaps_92 : decode cX9_swaps 92 = .ok (.iload_n 3, 1) := by decide +kernel
theorem dX9_swaps_93 : decode cX9_swaps 93 = .ok (.iload 6, 2) := by decide +kernel
theorem dX9_swaps_95 : decode cX9_swaps 95 = .ok (.invokestatic 64, 3) := by decide +kernel
theorem dX9_swaps_98 : decode cX9_swaps 98 = .ok (.dup2, 1) := by decide +kernel
theorem dX9_swaps_99 : decode cX9_swaps 99 = .ok (.iaload, 1) := by decide +kernel
theorem dX9_swaps_100 : decode cX9_swaps 100 = .ok (.iconst 1, 1) := by decide +kernel
theorem dX9_swaps_101 : decode cX9_swaps 101 = .ok (.iadd, 1) := by decide +kernel
theorem dX9_swaps_102 : decode cX9_swaps 102 = .ok (.iastore, 1) := by decide +kernel
theorem dX9_swaps_103 : decode cX9_swaps 103 = .ok (.iinc 1 1, 3) := by decide +kernel
theorem dX9_swaps_106 : decode cX9_swaps 106 = .ok (.aload_n 0, 1) := by decide +kernel
theorem dX9_swaps_107 : decode cX9_swaps 107 = .ok (.invokevirtual 74, 3) := by decide +kernel
theorem dX9_swaps_110 : decode cX9_swaps 110 = .ok (.istore_n 2, 1) := by decide +kernel
theorem dX9_swaps_111 : decode cX9_swaps 111 = .ok (.goto (-104), 3) := by decide +kernel
theorem dX9_swaps_114 : decode cX9_swaps 114 = .ok (.iload_n 1, 1) := by decide +kernel
theorem dX9_swaps_115 : decode cX9_swaps 115 = .ok (.ireturn, 1) := by decide +kernel
theorem dX9_packs_0 : decode cX9_packs 0 = .ok (.bipush 70, 2) := by decide +kernel
theorem dX9_packs_2 : decode cX9_packs 2 = .ok (.istore_n 1, 1) := by decide +kernel
theorem dX9_packs_3 : decode cX9_packs 3 = .ok (.iload_n 1, 1) := by decide +kernel
theorem dX9_packs_4 : decode cX9_packs 4 = .ok (.bipush 100, 2) := by decide +kernel
theorem dX9_packs_6 : decode cX9_packs 6 = .ok (.if_icmp .ge 31, 3) := by decide +kernel
theorem dX9_packs_9 : decode cX9_packs 9 = .ok (.aload_n 0, 1) := by decide +kernel
theorem dX9_packs_10 : decode cX9_packs 10 = .ok (.getfield 7, 3) := by decide +kernel
theorem dX9_packs_13 : decode cX9_packs 13 = .ok (.iconst 3, 1) := by decide +kernel
theorem dX9_packs_14 : decode cX9_packs 14 = .ok (.dup2, 1) := by decide +kernel
theorem dX9_packs_15 : decode cX9_packs 15 = .ok (.iaload, 1) := by decide +kernel
theorem dX9_packs_16 : decode cX9_packs 16 = .ok (.aload_n 0, 1) := by decide +kernel
theorem dX9_packs_17 : decode cX9_packs 17 = .ok (.getfield 7, 3) := by decide +kernel
theorem dX9_packs_20 : decode cX9_packs 20 = .ok (.iload_n 1, 1) := by decide +kernel
theorem dX9_packs_21 : decode cX9_packs 21 = .ok (.iaload, 1) := by decide +kernel
theorem dX9_packs_22 : decode cX9_packs 22 = .ok (.iadd, 1) := by decide +kernel
theorem dX9_packs_23 : decode cX9_packs 23 = .ok (.iastore, 1) := by decide +kernel
theorem dX9_packs_24 : decode cX9_packs 24 = .ok (.aload_n 0, 1) := by decide +kernel
theorem dX9_packs_25 : decode cX9_packs 25 = .ok (.getfield 7, 3) := by decide +kernel
theorem dX9_packs_28 : decode cX9_packs 28 = .ok (.iload_n 1, 1) := by decide +kernel
theorem dX9_packs_29 : decode cX9_packs 29 = .ok (.iconst 0, 1) := by decide +kernel
theorem dX9_packs_30 : decode cX9_packs 30 = .ok (.iastore, 1) := by decide +kernel
theorem dX9_packs_31 : decode cX9_packs 31 = .ok (.iinc 1 1, 3) := by decide +kernel
theorem dX9_packs_34 : decode cX9_packs 34 = .ok (.goto (-31), 3) := by decide +kernel
theorem dX9_packs_37 : decode cX9_packs 37 = .ok (.aload_n 0, 1) := by decide +kernel
theorem dX9_packs_38 : decode cX9_packs 38 = .ok (.invokevirtual 78, 3) := by decide +kernel
theorem dX9_packs_41 : decode cX9_packs 41 = .ok (.ifCond .le 7, 3) := by decide +kernel
theorem dX9_packs_44 : decode cX9_packs 44 = .ok (.iconst 1, 1) := by decide +kernel
theorem dX9_packs_45 : decode cX9_packs 45 = .ok (.goto 4, 3) := by decide +kernel
theorem dX9_packs_48 : decode cX9_packs 48 = .ok (.iconst 0, 1) := by decide +kernel
theorem dX9_packs_49 : decode cX9_packs 49 = .ok (.istore_n 1, 1) := by decide +kernel
theorem dX9_packs_50 : decode cX9_packs 50 = .ok (.iconst 0, 1) := by decide +kernel
theorem dX9_packs_51 : decode cX9_packs 51 = .ok (.istore_n 2, 1) := by decide +kernel
theorem dX9_packs_52 : decode cX9_packs 52 = .ok (.iload_n 2, 1) := by decide +kernel
theorem dX9_packs_53 : decode cX9_packs 53 = .ok (.aload_n 0, 1) := by decide +kernel
theorem dX9_packs_54 : decode cX9_packs 54 = .ok (.getfield 7, 3) := by decide +kernel
theorem dX9_packs_57 : decode cX9_packs 57 = .ok (.iconst 1, 1) := by decide +kernel
theorem dX9_packs_58 : decode cX9_packs 58 = .ok (.iaload, 1) := by decide +kernel
theorem dX9_packs_59 : decode cX9_packs 59 = .ok (.if_icmp .ge 44, 3) := by decide +kernel
theorem dX9_packs_62 : decode cX9_packs 62 = .ok (.iload_n 1, 1) := by decide +kernel
theorem dX9_packs_63 : decode cX9_packs 63 = .ok (.ifCond .eq 11, 3) := by decide +kernel
theorem dX9_packs_66 : decode cX9_packs 66 = .ok (.aload_n 0, 1) := by decide +kernel
theorem dX9_packs_67 : decode cX9_packs 67 = .ok (.iload_n 2, 1) := by decide +kernel
theorem dX9_packs_68 : decode cX9_packs 68 = .ok (.invokevirtual 81, 3) := by decide +kernel
theorem dX9_packs_71 : decode cX9_packs 71 = .ok (.goto 26, 3) := by decide +kernel
theorem dX9_packs_74 : decode cX9_packs 74 = .ok (.aload_n 0, 1) := by decide +kernel
theorem dX9_packs_75 : decode cX9_packs 75 = .ok (.getfield 7, 3) := by decide +kernel
theorem dX9_packs_78 : decode cX9_packs 78 = .ok (.iload_n 2, 1) := by decide +kernel
theorem dX9_packs_79 : decode cX9_packs 79 = .ok (.invokestatic 61, 3) := by decide +kernel
theorem dX9_packs_82 : decode cX9_packs 82 = .ok (.iconst 1, 1) := by decide +kernel
theorem dX9_packs_83 : decode cX9_packs 83 = .ok (.iadd, 1) := by decide +kernel
theorem dX9_packs_84 : decode cX9_packs 84 = .ok (.dup2, 1) := by decide +kernel
theorem dX9_packs_85 : decode cX9_packs 85 = .ok (.iaload, 1) := by decide +kernel
theorem dX9_packs_86 : decode cX9_packs 86 = .ok (.aload_n 0, 1) := by decide +kernel
theorem dX9_packs_87 : decode cX9_packs 87 = .ok (.getfield 7, 3) := by decide +kernel
theorem dX9_packs_90 : decode cX9_packs 90 = .ok (.iload_n 2, 1) := by decide +kernel
theorem dX9_packs_91 : decode cX9_packs 91 = .ok (.invokestatic 61, 3) := by decide +kernel
theorem dX9_packs_94 : decode cX9_packs 94 = .ok (.iaload, 1) := by decide +kernel
theorem dX9_packs_95 : decode cX9_packs 95 = .ok (.iadd, 1) := by decide +kernel
theorem dX9_packs_96 : decode cX9_packs 96 = .ok (.iastore, 1) := by decide +kernel
theorem dX9_packs_97 : decode cX9_packs 97 = .ok (.iinc 2 1, 3) := by decide +kernel
theorem dX9_packs_100 : decode cX9_packs 100 = .ok (.goto (-48), 3) := by decide +kernel
theorem dX9_packs_103 : decode cX9_packs 103 = .ok (.aload_n 0, 1) := by decide +kernel
theorem dX9_packs_104 : decode cX9_packs 104 = .ok (.invokevirtual 85, 3) := by decide +kernel
theorem dX9_packs_107 : decode cX9_packs 107 = .ok (.istore_n 2, 1) := by decide +kernel
theorem dX9_packs_108 : decode cX9_packs 108 = .ok (.iconst 0, 1) := by decide +kernel
theorem dX9_packs_109 : decode cX9_packs 109 = .ok (.istore_n 3, 1) := by decide +kernel
theorem dX9_packs_110 : decode cX9_packs 110 = .ok (.iload_n 3, 1) := by decide +kernel
theorem dX9_packs_111 : decode cX9_packs 111 = .ok (.aload_n 0, 1) := by decide +kernel
theorem dX9_packs_112 : decode cX9_packs 112 = .ok (.getfield 7, 3) := by decide +kernel
theorem dX9_packs_115 : decode cX9_packs 115 = .ok (.iconst 0, 1) := by decide +kernel
theorem dX9_packs_116 : decode cX9_packs 116 = .ok (.iaload, 1) := by decide +kernel
theorem dX9_packs_117 : decode cX9_packs 117 = .ok (.if_icmp .ge 144, 3) := by decide +kernel
theorem dX9_packs_120 : decode cX9_packs 120 = .ok (.iload_n 3, 1) := by decide +kernel
theorem dX9_packs_121 : decode cX9_packs 121 = .ok (.invokestatic 46, 3) := by decide +kernel
theorem dX9_packs_124 : decode cX9_packs 124 = .ok (.istore 4, 2) := by decide +kernel
theorem dX9_packs_126 : decode cX9_packs 126 = .ok (.aload_n 0, 1) := by decide +kernel
theorem dX9_packs_127 : decode cX9_packs 127 = .ok (.iload_n 3, 1) := by decide +kernel
theorem dX9_packs_128 : decode cX9_packs 128 = .ok (.invokevirtual 50, 3) := by decide +kernel
theorem dX9_packs_131 : decode cX9_packs 131 = .ok (.ifCond .eq 48, 3) := by decide +kernel
theorem dX9_packs_134 : decode cX9_packs 134 = .ok (.aload_n 0, 1) := by decide +kernel
theorem dX9_packs_135 : decode cX9_packs 135 = .ok (.getfield 7, 3) := by decide +kernel
theorem dX9_packs_138 : decode cX9_packs 138 = .ok (.iload 4, 2) := by decide +kernel
theorem dX9_packs_140 : decode cX9_packs 140 = .ok (.iconst 1, 1) := by decide +kernel
theorem dX9_packs_141 : decode cX9_packs 141 = .ok (.iadd, 1) := by decide +kernel
theorem dX9_packs_142 : decode cX9_packs 142 = .ok (.dup2, 1) := by decide +kernel
theorem dX9_packs_143 : decode cX9_packs 143 = .ok (.iaload, 1) := by decide +kernel
theorem dX9_packs_144 : decode cX9_packs 144 = .ok (.iconst 1, 1) := by decide +kernel
theorem dX9_packs_145 : decode cX9_packs 145 = .ok (.iadd, 1) := by decide +kernel
theorem dX9_packs_146 : decode cX9_packs 146 = .ok (.iastore, 1) := by decide +kernel
theorem dX9_packs_147 : decode cX9_packs 147 = .ok (.aload_n 0, 1) := by decide +kernel
theorem dX9_packs_148 : decode cX9_packs 148 = .ok (.getfield 7, 3) := by decide +kernel
theorem dX9_packs_151 : decode cX9_packs 151 = .ok (.iload 4, 2) := by decide +kernel
theorem dX9_packs_153 : decode cX9_packs 153 = .ok (.iconst 2, 1) := by decide +kernel
theorem dX9_packs_154 : decode cX9_packs 154 = .ok (.iadd, 1) := by decide +kernel
theorem dX9_packs_155 : decode cX9_packs 155 = .ok (.dup2, 1) := by decide +kernel
theorem dX9_packs_156 : decode cX9_packs 156 = .ok (.iaload, 1) := by decide +kernel
theorem dX9_packs_157 : decode cX9_packs 157 = .ok (.aload_n 0, 1) := by decide +kernel
theorem dX9_packs_158 : decode cX9_packs 158 = .ok (.getfield 7, 3) := by decide +kernel
theorem dX9_packs_161 : decode cX9_packs 161 = .ok (.iload 4, 2) := by decide +kernel
theorem dX9_packs_163 : decode cX9_packs 163 = .ok (.iconst 2, 1) := by decide +kernel
theorem dX9_packs_164 : decode cX9_packs 164 = .ok (.iadd, 1) := by decide +kernel
theorem dX9_packs_165 : decode cX9_packs 165 = .ok (.iaload, 1) := by decide +kernel
theorem dX9_packs_166 : decode cX9_packs 166 = .ok (.ifCond .le 7, 3) := by decide +kernel
theorem dX9_packs_169 : decode cX9_packs 169 = .ok (.iconst 1, 1) := by decide +kernel
theorem dX9_packs_170 : decode cX9_packs 170 = .ok (.goto 4, 3) := by decide +kernel
theorem dX9_packs_173 : decode cX9_packs 173 = .ok (.iconst 0, 1) := by decide +kernel
theorem dX9_packs_174 : decode cX9_packs 174 = .ok (.isub, 1) := by decide +kernel
theorem dX9_packs_175 : decode cX9_packs 175 = .ok (.iastore, 1) := by decide +kernel
theorem dX9_packs_176 : decode cX9_packs 176 = .ok (.goto 69, 3) := by decide +kernel
theorem dX9_packs_179 : decode cX9_packs 179 = .ok (.aload_n 0, 1) := by decide +kernel
theorem dX9_packs_180 : decode cX9_packs 180 = .ok (.getfield 7, 3) := by decide +kernel
theorem dX9_packs_183 : decode cX9_packs 183 = .ok (.iload 4, 2) := by decide +kernel
theorem dX9_packs_185 : decode cX9_packs 185 = .ok (.iconst 3, 1) := by decide +kernel
theorem dX9_packs_186 : decode cX9_packs 186 = .ok (.iadd, 1) := by decide +kernel
theorem dX9_packs_187 : decode cX9_packs 187 = .ok (.iaload, 1) := by decide +kernel
theorem dX9_packs_188 : decode cX9_packs 188 = .ok (.iconst 1, 1) := by decide +kernel
theorem dX9_packs_189 : decode cX9_packs 189 = .ok (.if_icmp .ne 56, 3) := by decide +kernel
theorem dX9_packs_192 : decode cX9_packs 192 = .ok (.aload_n 0, 1) := by decide +kernel
theorem dX9_packs_193 : decode cX9_packs 193 = .ok (.getfield 7, 3) := by decide +kernel
theorem dX9_packs_196 : decode cX9_packs 196 = .ok (.iload 4, 2) := by decide +kernel
theorem dX9_packs_198 : decode cX9_packs 198 = .ok (.iconst 2, 1) := by decide +kernel
theorem dX9_packs_199 : decode cX9_packs 199 = .ok (.iadd, 1) := by decide +kernel
theorem dX9_packs_200 : decode cX9_packs 200 = .ok (.aload_n 0, 1) := by decide +kernel
theorem dX9_packs_201 : decode cX9_packs 201 = .ok (.getfield 7, 3) := by decide +kernel
theorem dX9_packs_204 : decode cX9_packs 204 = .ok (.iload 4, 2) := by decide +kernel
theorem dX9_packs_206 : decode cX9_packs 206 = .ok (.iconst 2, 1) := by decide +kernel
theorem dX9_packs_207 : decode cX9_packs 207 = .ok (.iadd, 1) := by decide +kernel
theorem dX9_packs_208 : decode cX9_packs 208 = .ok (.iaload, 1) := by decide +kernel
theorem dX9_packs_209 : decode cX9_packs 209 = .ok (.aload_n 0, 1) := by decide +kernel
theorem dX9_packs_210 : decode cX9_packs 210 = .ok (.getfield 7, 3) := by decide +kernel
theorem dX9_packs_213 : decode cX9_packs 213 = .ok (.iload 4, 2) := by decide +kernel
theorem dX9_packs_215 : decode cX9_packs 215 = .ok (.iaload, 1) := by decide +kernel
theorem dX9_packs_216 : decode cX9_packs 216 = .ok (.iadd, 1) := by decide +kernel
theorem dX9_packs_217 : decode cX9_packs 217 = .ok (.bipush 9, 2) := by decide +kernel
theorem dX9_packs_219 : decode cX9_packs 219 = .ok (.if_icmp .le 8, 3) := by decide +kernel
theorem dX9_packs_222 : decode cX9_packs 222 = .ok (.bipush 9, 2) := by decide +kernel
theorem dX9_packs_224 : decode cX9_packs 224 = .ok (.goto 20, 3) := by decide +kernel
theorem dX9_packs_227 : decode cX9_packs 227 = .ok (.aload_n 0, 1) := by decide +kernel
theorem dX9_packs_228 : decode cX9_packs 228 = .ok (.getfield 7, 3) := by decide +kernel
theorem dX9_packs_231 : decode cX9_packs 231 = .ok (.iload 4, 2) := by decide +kernel
theorem dX9_packs_233 : decode cX9_packs 233 = .ok (.iconst 2, 1) := by decide +kernel
theorem dX9_packs_234 : decode cX9_packs 234 = .ok (.iadd, 1) := by decide +kernel
theorem dX9_packs_235 : decode cX9_packs 235 = .ok (.iaload, 1) := by decide +kernel
theorem dX9_packs_236 : decode cX9_packs 236 = .ok (.aload_n 0, 1) := by decide +kernel
theorem dX9_packs_237 : decode cX9_packs 237 = .ok (.getfield 7, 3) := by decide +kernel
theorem dX9_packs_240 : decode cX9_packs 240 = .ok (.iload 4, 2) := by decide +kernel
theorem dX9_packs_242 : decode cX9_packs 242 = .ok (.iaload, 1) := by decide +kernel
theorem dX9_packs_243 : decode cX9_packs 243 = .ok (.iadd, 1) := by decide +kernel
theorem dX9_packs_244 : decode cX9_packs 244 = .ok (.iastore, 1) := by decide +kernel
theorem dX9_packs_245 : decode cX9_packs 245 = .ok (.aload_n 0, 1) := by decide +kernel
theorem dX9_packs_246 : decode cX9_packs 246 = .ok (.getfield 7, 3) := by decide +kernel
theorem dX9_packs_249 : decode cX9_packs 249 = .ok (.iload 4, 2) := by decide +kernel
theorem dX9_packs_251 : decode cX9_packs 251 = .ok (.iconst 3, 1) := by decide +kernel
theorem dX9_packs_252 : decode cX9_packs 252 = .ok (.iadd, 1) := by decide +kernel
theorem dX9_packs_253 : decode cX9_packs 253 = .ok (.iconst 0, 1) := by decide +kernel
theorem dX9_packs_254 : decode cX9_packs 254 = .ok (.iastore, 1) := by decide +kernel
theorem dX9_packs_255 : decode cX9_packs 255 = .ok (.iinc 3 1, 3) := by decide +kernel
theorem dX9_packs_258 : decode cX9_packs 258 = .ok (.goto (-148), 3) := by decide +kernel
theorem dX9_packs_261 : decode cX9_packs 261 = .ok (.iconst 0, 1) := by decide +kernel
theorem dX9_packs_262 : decode cX9_packs 262 = .ok (.istore_n 3, 1) := by decide +kernel
theorem dX9_packs_263 : decode cX9_packs 263 = .ok (.iload_n 3, 1) := by decide +kernel
theorem dX9_packs_264 : decode cX9_packs 264 = .ok (.aload_n 0, 1) := by decide +kernel
theorem dX9_packs_265 : decode cX9_packs 265 = .ok (.getfield 7, 3) := by decide +kernel
theorem dX9_packs_268 : decode cX9_packs 268 = .ok (.iconst 1, 1) := by decide +kernel
theorem dX9_packs_269 : decode cX9_packs 269 = .ok (.iaload, 1) := by decide +kernel
theorem dX9_packs_270 : decode cX9_packs 270 = .ok (.if_icmp .ge 19, 3) := by decide +kernel
theorem dX9_packs_273 : decode cX9_packs 273 = .ok (.aload_n 0, 1) := by decide +kernel
theorem dX9_packs_274 : decode cX9_packs 274 = .ok (.getfield 7, 3) := by decide +kernel
theorem dX9_packs_277 : decode cX9_packs 277 = .ok (.iload_n 3, 1) := by decide +kernel
theorem dX9_packs_278 : decode cX9_packs 278 = .ok (.invokestatic 61, 3) := by decide +kernel
theorem dX9_packs_281 : decode cX9_packs 281 = .ok (.iconst 0, 1) := by decide +kernel
theorem dX9_packs_282 : decode cX9_packs 282 = .ok (.iastore, 1) := by decide +kernel
theorem dX9_packs_283 : decode cX9_packs 283 = .ok (.iinc 3 1, 3) := by decide +kernel
theorem dX9_packs_286 : decode cX9_packs 286 = .ok (.goto (-23), 3) := by decide +kernel
theorem dX9_packs_289 : decode cX9_packs 289 = .ok (.aload_n 0, 1) := by decide +kernel
theorem dX9_packs_290 : decode cX9_packs 290 = .ok (.getfield 7, 3) := by decide +kernel
theorem dX9_packs_293 : decode cX9_packs 293 = .ok (.iconst 5, 1) := by decide +kernel
theorem dX9_packs_294 : decode cX9_packs 294 = .ok (.iload_n 2, 1) := by decide +kernel
theorem dX9_packs_295 : decode cX9_packs 295 = .ok (.iastore, 1) := by decide +kernel
theorem dX9_packs_296 : decode cX9_packs 296 = .ok (.aload_n 0, 1) := by decide +kernel
theorem dX9_packs_297 : decode cX9_packs 297 = .ok (.getfield 7, 3) := by decide +kernel
theorem dX9_packs_300 : decode cX9_packs 300 = .ok (.iconst 2, 1) := by decide +kernel
theorem dX9_packs_301 : decode cX9_packs 301 = .ok (.dup2, 1) := by decide +kernel
theorem dX9_packs_302 : decode cX9_packs 302 = .ok (.iaload, 1) := by decide +kernel
theorem dX9_packs_303 : decode cX9_packs 303 = .ok (.iconst 1, 1) := by decide +kernel
theorem dX9_packs_304 : decode cX9_packs 304 = .ok (.iadd, 1) := by decide +kernel
theorem dX9_packs_305 : decode cX9_packs 305 = .ok (.iastore, 1) := by decide +kernel
theorem dX9_packs_306 : decode cX9_packs 306 = .ok (.iload_n 2, 1) := by decide +kernel
theorem dX9_packs_307 : decode cX9_packs 307 = .ok (.ireturn, 1) := by decide +kernel
theorem dX9_happiness_0 : decode cX9_happiness 0 = .ok (.iconst 0, 1) := by decide +kernel
theorem dX9_happiness_1 : decode cX9_happiness 1 = .ok (.istore_n 2, 1) := by decide +kernel
theorem dX9_happiness_2 : decode cX9_happiness 2 = .ok (.iconst 0, 1) := by decide +kernel
theorem dX9_happiness_3 : decode cX9_happiness 3 = .ok (.istore_n 3, 1) := by decide +kernel
theorem dX9_happiness_4 : decode cX9_happiness 4 = .ok (.iload_n 3, 1) := by decide +kernel
theorem dX9_happiness_5 : decode cX9_happiness 5 = .ok (.aload_n 0, 1) := by decide +kernel
theorem dX9_happiness_6 : decode cX9_happiness 6 = .ok (.getfield 7, 3) := by decide +kernel
theorem dX9_happiness_9 : decode cX9_happiness 9 = .ok (.iconst 1, 1) := by decide +kernel
theorem dX9_happiness_10 : decode cX9_happiness 10 = .ok (.iaload, 1) := by decide +kernel
theorem dX9_happiness_11 : decode cX9_happiness 11 = .ok (.if_icmp .ge 33, 3) := by decide +kernel
theorem dX9_happiness_14 : decode cX9_happiness 14 = .ok (.iload_n 2, 1) := by decide +kernel
theorem dX9_happiness_15 : decode cX9_happiness 15 = .ok (.aload_n 0, 1) := by decide +kernel
theorem dX9_happiness_16 : decode cX9_happiness 16 = .ok (.getfield 7, 3) := by decide +kernel
theorem dX9_happiness_19 : decode cX9_happiness 19 = .ok (.iload_n 1, 1) := by decide +kernel
theorem dX9_happiness_20 : decode cX9_happiness 20 = .ok (.iload_n 3, 1) := by decide +kernel
theorem dX9_happiness_21 : decode cX9_happiness 21 = .ok (.invokestatic 54, 3) := by decide +kernel
theorem dX9_happiness_24 : decode cX9_happiness 24 = .ok (.iaload, 1) := by decide +kernel
theorem dX9_happiness_25 : decode cX9_happiness 25 = .ok (.aload_n 0, 1) := by decide +kernel
theorem dX9_happiness_26 : decode cX9_happiness 26 = .ok (.getfield 7, 3) := by decide +kernel
theorem dX9_happiness_29 : decode cX9_happiness 29 = .ok (.iload_n 1, 1) := by decide +kernel
theorem dX9_happiness_30 : decode cX9_happiness 30 = .ok (.iload_n 3, 1) := by decide +kernel
theorem dX9_happiness_31 : decode cX9_happiness 31 = .ok (.invokestatic 64, 3) := by decide +kernel
theorem dX9_happiness_34 : decode cX9_happiness 34 = .ok (.iaload, 1) := by decide +kernel
theorem dX9_happiness_35 : decode cX9_happiness 35 = .ok (.imul, 1) := by decide +kernel
theorem dX9_happiness_36 : decode cX9_happiness 36 = .ok (.iadd, 1) := by decide +kernel
theorem dX9_happiness_37 : decode cX9_happiness 37 = .ok (.istore_n 2, 1) := by decide +kernel
theorem dX9_happiness_38 : decode cX9_happiness 38 = .ok (.iinc 3 1, 3) := by decide +kernel
theorem dX9_happiness_41 : decode cX9_happiness 41 = .ok (.goto (-37), 3) := by decide +kernel
theorem dX9_happiness_44 : decode cX9_happiness 44 = .ok (.iload_n 2, 1) := by decide +kernel
theorem dX9_happiness_45 : decode cX9_happiness 45 = .ok (.ireturn, 1) := by decide +kernel
theorem dX9_happinessBut_0 : decode cX9_happinessBut 0 = .ok (.iconst 0, 1) := by decide +kernel
theorem dX9_happinessBut_1 : decode cX9_happinessBut 1 = .ok (.istore_n 2, 1) := by decide +kernel
theorem dX9_happinessBut_2 : decode cX9_happinessBut 2 = .ok (.iconst 0, 1) := by decide +kernel
theorem dX9_happinessBut_3 : decode cX9_happinessBut 3 = .ok (.istore_n 3, 1) := by decide +kernel
theorem dX9_happinessBut_4 : decode cX9_happinessBut 4 = .ok (.iload_n 3, 1) := by decide +kernel
theorem dX9_happinessBut_5 : decode cX9_happinessBut 5 = .ok (.aload_n 0, 1) := by decide +kernel
theorem dX9_happinessBut_6 : decode cX9_happinessBut 6 = .ok (.getfield 7, 3) := by decide +kernel
theorem dX9_happinessBut_9 : decode cX9_happinessBut 9 = .ok (.iconst 0, 1) := by decide +kernel
theorem dX9_happinessBut_10 : decode cX9_happinessBut 10 = .ok (.iaload, 1) := by decide +kernel
theorem dX9_happinessBut_11 : decode cX9_happinessBut 11 = .ok (.if_icmp .ge 26, 3) := by decide +kernel
theorem dX9_happinessBut_14 : decode cX9_happinessBut 14 = .ok (.iload_n 2, 1) := by decide +kernel
theorem dX9_happinessBut_15 : decode cX9_happinessBut 15 = .ok (.iload_n 3, 1) := by decide +kernel
theorem dX9_happinessBut_16 : decode cX9_happinessBut 16 = .ok (.iload_n 1, 1) := by decide +kernel
theorem dX9_happinessBut_17 : decode cX9_happinessBut 17 = .ok (.if_icmp .ne 7, 3) := by decide +kernel
theorem dX9_happinessBut_20 : decode cX9_happinessBut 20 = .ok (.iconst 0, 1) := by decide +kernel
theorem dX9_happinessBut_21 : decode cX9_happinessBut 21 = .ok (.goto 8, 3) := by decide +kernel
theorem dX9_happinessBut_24 : decode cX9_happinessBut 24 = .ok (.aload_n 0, 1) := by decide +kernel
theorem dX9_happinessBut_25 : decode cX9_happinessBut 25 = .ok (.iload_n 3, 1) := by decide +kernel
theorem dX9_happinessBut_26 : decode cX9_happinessBut 26 = .ok (.invokevirtual 88, 3) := by decide +kernel
theorem dX9_happinessBut_29 : decode cX9_happinessBut 29 = .ok (.iadd, 1) := by decide +kernel
theorem dX9_happinessBut_30 : decode cX9_happinessBut 30 = .ok (.istore_n 2, 1) := by decide +kernel
theorem dX9_happinessBut_31 : decode cX9_happinessBut 31 = .ok (.iinc 3 1, 3) := by decide +kernel
theorem dX9_happinessBut_34 : decode cX9_happinessBut 34 = .ok (.goto (-30), 3) := by decide +kernel
theorem dX9_happinessBut_37 : decode cX9_happinessBut 37 = .ok (.iload_n 2, 1) := by decide +kernel
theorem dX9_happinessBut_38 : decode cX9_happinessBut 38 = .ok (.ireturn, 1) := by decide +kernel
theorem dX9_ofHouse_0 : decode cX9_ofHouse 0 = .ok (.iconst 0, 1) := by decide +kernel
theorem dX9_ofHouse_1 : decode cX9_ofHouse 1 = .ok (.istore_n 2, 1) := by decide +kernel
theorem dX9_ofHouse_2 : decode cX9_ofHouse 2 = .ok (.iconst 0, 1) := by decide +kernel
theorem dX9_ofHouse_3 : decode cX9_ofHouse 3 = .ok (.istore_n 3, 1) := by decide +kernel
theorem dX9_ofHouse_4 : decode cX9_ofHouse 4 = .ok (.iload_n 3, 1) := by decide +kernel
theorem dX9_ofHouse_5 : decode cX9_ofHouse 5 = .ok (.aload_n 0, 1) := by decide +kernel
theorem dX9_ofHouse_6 : decode cX9_ofHouse 6 = .ok (.getfield 7, 3) := by decide +kernel
theorem dX9_ofHouse_9 : decode cX9_ofHouse 9 = .ok (.iconst 1, 1) := by decide +kernel
theorem dX9_ofHouse_10 : decode cX9_ofHouse 10 = .ok (.iaload, 1) := by decide +kernel
theorem dX9_ofHouse_11 : decode cX9_ofHouse 11 = .ok (.if_icmp .ge 22, 3) := by decide +kernel
theorem dX9_ofHouse_14 : decode cX9_ofHouse 14 = .ok (.iload_n 2, 1) := by decide +kernel
theorem dX9_ofHouse_15 : decode cX9_ofHouse 15 = .ok (.aload_n 0, 1) := by decide +kernel
theorem dX9_ofHouse_16 : decode cX9_ofHouse 16 = .ok (.getfield 7, 3) := by decide +kernel
theorem dX9_ofHouse_19 : decode cX9_ofHouse 19 = .ok (.iload_n 1, 1) := by decide +kernel
theorem dX9_ofHouse_20 : decode cX9_ofHouse 20 = .ok (.iload_n 3, 1) := by decide +kernel
theorem dX9_ofHouse_21 : decode cX9_ofHouse 21 = .ok (.invokestatic 64, 3) := by decide +kernel
theorem dX9_ofHouse_24 : decode cX9_ofHouse 24 = .ok (.iaload, 1) := by decide +kernel
theorem dX9_ofHouse_25 : decode cX9_ofHouse 25 = .ok (.iadd, 1) := by decide +kernel
theorem dX9_ofHouse_26 : decode cX9_ofHouse 26 = .ok (.istore_n 2, 1) := by decide +kernel
theorem dX9_ofHouse_27 : decode cX9_ofHouse 27 = .ok (.iinc 3 1, 3) := by decide +kernel
theorem dX9_ofHouse_30 : decode cX9_ofHouse 30 = .ok (.goto (-26), 3) := by decide +kernel
theorem dX9_ofHouse_33 : decode cX9_ofHouse 33 = .ok (.iload_n 2, 1) := by decide +kernel
theorem dX9_ofHouse_34 : decode cX9_ofHouse 34 = .ok (.ireturn, 1) := by decide +kernel
theorem dX9_ofVegetable_0 : decode cX9_ofVegetable 0 = .ok (.iconst 0, 1) := by decide +kernel
theorem dX9_ofVegetable_1 : decode cX9_ofVegetable 1 = .ok (.istore_n 2, 1) := by decide +kernel
theorem dX9_ofVegetable_2 : decode cX9_ofVegetable 2 = .ok (.iconst 0, 1) := by decide +kernel
theorem dX9_ofVegetable_3 : decode cX9_ofVegetable 3 = .ok (.istore_n 3, 1) := by decide +kernel
theorem dX9_ofVegetable_4 : decode cX9_ofVegetable 4 = .ok (.iload_n 3, 1) := by decide +kernel
theorem dX9_ofVegetable_5 : decode cX9_ofVegetable 5 = .ok (.aload_n 0, 1) := by decide +kernel
theorem dX9_ofVegetable_6 : decode cX9_ofVegetable 6 = .ok (.getfield 7, 3) := by decide +kernel
theorem dX9_ofVegetable_9 : decode cX9_ofVegetable 9 = .ok (.iconst 0, 1) := by decide +kernel
theorem dX9_ofVegetable_10 : decode cX9_ofVegetable 10 = .ok (.iaload, 1) := by decide +kernel
theorem dX9_ofVegetable_11 : decode cX9_ofVegetable 11 = .ok (.if_icmp .ge 22, 3) := by decide +kernel
theorem dX9_ofVegetable_14 : decode cX9_ofVegetable 14 = .ok (.iload_n 2, 1) := by decide +kernel
theorem dX9_ofVegetable_15 : decode cX9_ofVegetable 15 = .ok (.aload_n 0, 1) := by decide +kernel
theorem dX9_ofVegetable_16 : decode cX9_ofVegetable 16 = .ok (.getfield 7, 3) := by decide +kernel
theorem dX9_ofVegetable_19 : decode cX9_ofVegetable 19 = .ok (.iload_n 3, 1) := by decide +kernel
theorem dX9_ofVegetable_20 : decode cX9_ofVegetable 20 = .ok (.iload_n 1, 1) := by decide +kernel
theorem dX9_ofVegetable_21 : decode cX9_ofVegetable 21 = .ok (.invokestatic 64, 3) := by decide +kernel
theorem dX9_ofVegetable_24 : decode cX9_ofVegetable 24 = .ok (.iaload, 1) := by decide +kernel
theorem dX9_ofVegetable_25 : decode cX9_ofVegetable 25 = .ok (.iadd, 1) := by decide +kernel
theorem dX9_ofVegetable_26 : decode cX9_ofVegetable 26 = .ok (.istore_n 2, 1) := by decide +kernel
theorem dX9_ofVegetable_27 : decode cX9_ofVegetable 27 = .ok (.iinc 3 1, 3) := by decide +kernel
theorem dX9_ofVegetable_30 : decode cX9_ofVegetable 30 = .ok (.goto (-26), 3) := by decide +kernel
theorem dX9_ofVegetable_33 : decode cX9_ofVegetable 33 = .ok (.iload_n 2, 1) := by decide +kernel
theorem dX9_ofVegetable_34 : decode cX9_ofVegetable 34 = .ok (.ireturn, 1) := by decide +kernel
theorem dX9_append_0 : decode cX9_append 0 = .ok (.aload_n 0, 1) := by decide +kernel
theorem dX9_append_1 : decode cX9_append 1 = .ok (.iconst 0, 1) := by decide +kernel
theorem dX9_append_2 : decode cX9_append 2 = .ok (.putfield 35, 3) := by decide +kernel
theorem dX9_append_5 : decode cX9_append 5 = .ok (.iload_n 1, 1) := by decide +kernel
theorem dX9_append_6 : decode cX9_append 6 = .ok (.iconst 0, 1) := by decide +kernel
theorem dX9_append_7 : decode cX9_append 7 = .ok (.sipush 255, 3) := by decide +kernel
theorem dX9_append_10 : decode cX9_append 10 = .ok (.invokestatic 39, 3) := by decide +kernel
theorem dX9_append_13 : decode cX9_append 13 = .ok (.ifCond .ne 9, 3) := by decide +kernel
theorem dX9_append_16 : decode cX9_append 16 = .ok (.aload_n 0, 1) := by decide +kernel
theorem dX9_append_17 : decode cX9_append 17 = .ok (.iconst 1, 1) := by decide +kernel
theorem dX9_append_18 : decode cX9_append 18 = .ok (.invokevirtual 91, 3) := by decide +kernel
theorem dX9_append_21 : decode cX9_append 21 = .ok (.ireturn, 1) := by decide +kernel
theorem dX9_append_22 : decode cX9_append 22 = .ok (.aload_n 0, 1) := by decide +kernel
theorem dX9_append_23 : decode cX9_append 23 = .ok (.getfield 94, 3) := by decide +kernel
theorem dX9_append_26 : decode cX9_append 26 = .ok (.bipush 120, 2) := by decide +kernel
theorem dX9_append_28 : decode cX9_append 28 = .ok (.if_icmp .ne 9, 3) := by decide +kernel
theorem dX9_append_31 : decode cX9_append 31 = .ok (.aload_n 0, 1) := by decide +kernel
theorem dX9_append_32 : decode cX9_append 32 = .ok (.iconst 2, 1) := by decide +kernel
theorem dX9_append_33 : decode cX9_append 33 = .ok (.invokevirtual 91, 3) := by decide +kernel
theorem dX9_append_36 : decode cX9_append 36 = .ok (.ireturn, 1) := by decide +kernel
theorem dX9_append_37 : decode cX9_append 37 = .ok (.aload_n 0, 1) := by decide +kernel
theorem dX9_append_38 : decode cX9_append 38 = .ok (.getfield 26, 3) := by decide +kernel
theorem dX9_append_41 : decode cX9_append 41 = .ok (.aload_n 0, 1) := by decide +kernel
theorem dX9_append_42 : decode cX9_append 42 = .ok (.getfield 94, 3) := by decide +kernel
theorem dX9_append_45 : decode cX9_append 45 = .ok (.iload_n 1, 1) := by decide +kernel
theorem dX9_append_46 : decode cX9_append 46 = .ok (.iastore, 1) := by decide +kernel
theorem dX9_append_47 : decode cX9_append 47 = .ok (.aload_n 0, 1) := by decide +kernel
theorem dX9_append_48 : decode cX9_append 48 = .ok (.dup, 1) := by decide +kernel
theorem dX9_append_49 : decode cX9_append 49 = .ok (.getfield 94, 3) := by decide +kernel
theorem dX9_append_52 : decode cX9_append 52 = .ok (.iconst 1, 1) := by decide +kernel
theorem dX9_append_53 : decode cX9_append 53 = .ok (.iadd, 1) := by decide +kernel
theorem dX9_append_54 : decode cX9_append 54 = .ok (.putfield 94, 3) := by decide +kernel
theorem dX9_append_57 : decode cX9_append 57 = .ok (.aload_n 0, 1) := by decide +kernel
theorem dX9_append_58 : decode cX9_append 58 = .ok (.getfield 94, 3) := by decide +kernel
theorem dX9_append_61 : decode cX9_append 61 = .ok (.ireturn, 1) := by decide +kernel
theorem dX9_clearText_0 : decode cX9_clearText 0 = .ok (.aload_n 0, 1) := by decide +kernel
theorem dX9_clearText_1 : decode cX9_clearText 1 = .ok (.iconst 0, 1) := by decide +kernel
theorem dX9_clearText_2 : decode cX9_clearText 2 = .ok (.putfield 35, 3) := by decide +kernel
theorem dX9_clearText_5 : decode cX9_clearText 5 = .ok (.aload_n 0, 1) := by decide +kernel
theorem dX9_clearText_6 : decode cX9_clearText 6 = .ok (.getfield 94, 3) := by decide +kernel
theorem dX9_clearText_9 : decode cX9_clearText 9 = .ok (.istore_n 1, 1) := by decide +kernel
theorem dX9_clearText_10 : decode cX9_clearText 10 = .ok (.aload_n 0, 1) := by decide +kernel
theorem dX9_clearText_11 : decode cX9_clearText 11 = .ok (.iconst 0, 1) := by decide +kernel
theorem dX9_clearText_12 : decode cX9_clearText 12 = .ok (.putfield 94, 3) := by decide +kernel
theorem dX9_clearText_15 : decode cX9_clearText 15 = .ok (.iload_n 1, 1) := by decide +kernel
theorem dX9_clearText_16 : decode cX9_clearText 16 = .ok (.ireturn, 1) := by decide +kernel
theorem dX9_letter_0 : decode cX9_letter 0 = .ok (.aload_n 0, 1) := by decide +kernel
theorem dX9_letter_1 : decode cX9_letter 1 = .ok (.getfield 97, 3) := by decide +kernel
theorem dX9_letter_4 : decode cX9_letter 4 = .ok (.aload_n 0, 1) := by decide +kernel
theorem dX9_letter_5 : decode cX9_letter 5 = .ok (.getfield 94, 3) := by decide +kernel
theorem dX9_letter_8 : decode cX9_letter 8 = .ok (.if_icmp .ge 20, 3) := by decide +kernel
theorem dX9_letter_11 : decode cX9_letter 11 = .ok (.aload_n 0, 1) := by decide +kernel
theorem dX9_letter_12 : decode cX9_letter 12 = .ok (.getfield 26, 3) := by decide +kernel
theorem dX9_letter_15 : decode cX9_letter 15 = .ok (.aload_n 0, 1) := by decide +kernel
theorem dX9_letter_16 : decode cX9_letter 16 = .ok (.getfield 97, 3) := by decide +kernel
theorem dX9_letter_19 : decode cX9_letter 19 = .ok (.iaload, 1) := by decide +kernel
theorem dX9_letter_20 : decode cX9_letter 20 = .ok (.iload_n 1, 1) := by decide +kernel
theorem dX9_letter_21 : decode cX9_letter 21 = .ok (.if_icmp .ne 7, 3) := by decide +kernel
theorem dX9_letter_24 : decode cX9_letter 24 = .ok (.iconst 1, 1) := by decide +kernel
theorem dX9_letter_25 : decode cX9_letter 25 = .ok (.goto 4, 3) := by decide +kernel
theorem dX9_letter_28 : decode cX9_letter 28 = .ok (.iconst 0, 1) := by decide +kernel
theorem dX9_letter_29 : decode cX9_letter 29 = .ok (.istore_n 2, 1) := by decide +kernel
theorem dX9_letter_30 : decode cX9_letter 30 = .ok (.aload_n 0, 1) := by decide +kernel
theorem dX9_letter_31 : decode cX9_letter 31 = .ok (.dup, 1) := by decide +kernel
theorem dX9_letter_32 : decode cX9_letter 32 = .ok (.getfield 97, 3) := by decide +kernel
theorem dX9_letter_35 : decode cX9_letter 35 = .ok (.iload_n 2, 1) := by decide +kernel
theorem dX9_letter_36 : decode cX9_letter 36 = .ok (.ifCond .eq 7, 3) := by decide +kernel
theorem dX9_letter_39 : decode cX9_letter 39 = .ok (.iconst 1, 1) := by decide +kernel
theorem dX9_letter_40 : decode cX9_letter 40 = .ok (.goto 4, 3) := by decide +kernel
theorem dX9_letter_43 : decode cX9_letter 43 = .ok (.iconst 0, 1) := by decide +kernel
theorem dX9_letter_44 : decode cX9_letter 44 = .ok (.iadd, 1) := by decide +kernel
theorem dX9_letter_45 : decode cX9_letter 45 = .ok (.putfield 97, 3) := by decide +kernel
theorem dX9_letter_48 : decode cX9_letter 48 = .ok (.iload_n 2, 1) := by decide +kernel
theorem dX9_letter_49 : decode cX9_letter 49 = .ok (.ireturn, 1) := by decide +kernel
theorem dX9_digitTo_0 : decode cX9_digitTo 0 = .ok (.aload_n 0, 1) := by decide +kernel
theorem dX9_digitTo_1 : decode cX9_digitTo 1 = .ok (.aload_n 0, 1) := by decide +kernel
theorem dX9_digitTo_2 : decode cX9_digitTo 2 = .ok (.getfield 97, 3) := by decide +kernel
theorem dX9_digitTo_5 : decode cX9_digitTo 5 = .ok (.aload_n 0, 1) := by decide +kernel
theorem dX9_digitTo_6 : decode cX9_digitTo 6 = .ok (.getfield 94, 3) := by decide +kernel
theorem dX9_digitTo_9 : decode cX9_digitTo 9 = .ok (.if_icmp .ge 18, 3) := by decide +kernel
theorem dX9_digitTo_12 : decode cX9_digitTo 12 = .ok (.aload_n 0, 1) := by decide +kernel
theorem dX9_digitTo_13 : decode cX9_digitTo 13 = .ok (.getfield 26, 3) := by decide +kernel
theorem dX9_digitTo_16 : decode cX9_digitTo 16 = .ok (.aload_n 0, 1) := by decide +kernel
theorem dX9_digitTo_17 : decode cX9_digitTo 17 = .ok (.getfield 97, 3) := by decide +kernel
theorem dX9_digitTo_20 : decode cX9_digitTo 20 = .ok (.iaload, 1) := by decide +kernel
theorem dX9_digitTo_21 : decode cX9_digitTo 21 = .ok (.bipush 48, 2) := by decide +kernel
theorem dX9_digitTo_23 : decode cX9_digitTo 23 = .ok (.isub, 1) := by decide +kernel
theorem dX9_digitTo_24 : decode cX9_digitTo 24 = .ok (.goto 4, 3) := by decide +kernel
theorem dX9_digitTo_27 : decode cX9_digitTo 27 = .ok (.iconst (-1), 1) := by decide +kernel
theorem dX9_digitTo_28 : decode cX9_digitTo 28 = .ok (.putfield 100, 3) := by decide +kernel
theorem dX9_digitTo_31 : decode cX9_digitTo 31 = .ok (.aload_n 0, 1) := by decide +kernel
theorem dX9_digitTo_32 : decode cX9_digitTo 32 = .ok (.getfield 100, 3) := by decide +kernel
theorem dX9_digitTo_35 : decode cX9_digitTo 35 = .ok (.iload_n 1, 1) := by decide +kernel
theorem dX9_digitTo_36 : decode cX9_digitTo 36 = .ok (.iload_n 2, 1) := by decide +kernel
theorem dX9_digitTo_37 : decode cX9_digitTo 37 = .ok (.invokestatic 39, 3) := by decide +kernel
theorem dX9_digitTo_40 : decode cX9_digitTo 40 = .ok (.istore_n 3, 1) := by decide +kernel
theorem dX9_digitTo_41 : decode cX9_digitTo 41 = .ok (.aload_n 0, 1) := by decide +kernel
theorem dX9_digitTo_42 : decode cX9_digitTo 42 = .ok (.dup, 1) := by decide +kernel
theorem dX9_digitTo_43 : decode cX9_digitTo 43 = .ok (.getfield 97, 3) := by decide +kernel
theorem dX9_digitTo_46 : decode cX9_digitTo 46 = .ok (.iload_n 3, 1) := by decide +kernel
theorem dX9_digitTo_47 : decode cX9_digitTo 47 = .ok (.ifCond .eq 7, 3) := by decide +kernel
theorem dX9_digitTo_50 : decode cX9_digitTo 50 = .ok (.iconst 1, 1) := by decide +kernel
theorem dX9_digitTo_51 : decode cX9_digitTo 51 = .ok (.goto 4, 3) := by decide +kernel
theorem dX9_digitTo_54 : decode cX9_digitTo 54 = .ok (.iconst 0, 1) := by decide +kernel
theorem dX9_digitTo_55 : decode cX9_digitTo 55 = .ok (.iadd, 1) := by decide +kernel
theorem dX9_digitTo_56 : decode cX9_digitTo 56 = .ok (.putfield 97, 3) := by decide +kernel
theorem dX9_digitTo_59 : decode cX9_digitTo 59 = .ok (.iload_n 3, 1) := by decide +kernel
theorem dX9_digitTo_60 : decode cX9_digitTo 60 = .ok (.ireturn, 1) := by decide +kernel
theorem dX9_part_0 : decode cX9_part 0 = .ok (.aload_n 0, 1) := by decide +kernel
theorem dX9_part_1 : decode cX9_part 1 = .ok (.getfield 103, 3) := by decide +kernel
theorem dX9_part_4 : decode cX9_part 4 = .ok (.bipush 6, 2) := by decide +kernel
theorem dX9_part_6 : decode cX9_part 6 = .ok (.if_icmp .ge 95, 3) := by decide +kernel
theorem dX9_part_9 : decode cX9_part 9 = .ok (.aload_n 0, 1) := by decide +kernel
theorem dX9_part_10 : decode cX9_part 10 = .ok (.bipush 104, 2) := by decide +kernel
theorem dX9_part_12 : decode cX9_part 12 = .ok (.invokevirtual 106, 3) := by decide +kernel
theorem dX9_part_15 : decode cX9_part 15 = .ok (.ifCond .eq 86, 3) := by decide +kernel
theorem dX9_part_18 : decode cX9_part 18 = .ok (.aload_n 0, 1) := by decide +kernel
theorem dX9_part_19 : decode cX9_part 19 = .ok (.iconst 1, 1) := by decide +kernel
theorem dX9_part_20 : decode cX9_part 20 = .ok (.iconst 4, 1) := by decide +kernel
theorem dX9_part_21 : decode cX9_part 21 = .ok (.invokevirtual 109, 3) := by decide +kernel
theorem dX9_part_24 : decode cX9_part 24 = .ok (.istore_n 2, 1) := by decide +kernel
theorem dX9_part_25 : decode cX9_part 25 = .ok (.aload_n 0, 1) := by decide +kernel
theorem dX9_part_26 : decode cX9_part 26 = .ok (.getfield 100, 3) := by decide +kernel
theorem dX9_part_29 : decode cX9_part 29 = .ok (.istore_n 3, 1) := by decide +kernel
theorem dX9_part_30 : decode cX9_part 30 = .ok (.iload_n 2, 1) := by decide +kernel
theorem dX9_part_31 : decode cX9_part 31 = .ok (.ifCond .eq 17, 3) := by decide +kernel
theorem dX9_part_34 : decode cX9_part 34 = .ok (.aload_n 0, 1) := by decide +kernel
theorem dX9_part_35 : decode cX9_part 35 = .ok (.iconst 0, 1) := by decide +kernel
theorem dX9_part_36 : decode cX9_part 36 = .ok (.bipush 9, 2) := by decide +kernel
theorem dX9_part_38 : decode cX9_part 38 = .ok (.invokevirtual 109, 3) := by decide +kernel
theorem dX9_part_41 : decode cX9_part 41 = .ok (.ifCond .eq 7, 3) := by decide +kernel
theorem dX9_part_44 : decode cX9_part 44 = .ok (.iconst 1, 1) := by decide +kernel
theorem dX9_part_45 : decode cX9_part 45 = .ok (.goto 4, 3) := by decide +kernel
theorem dX9_part_48 : decode cX9_part 48 = .ok (.iconst 0, 1) := by decide +kernel
theorem dX9_part_49 : decode cX9_part 49 = .ok (.istore_n 2, 1) := by decide +kernel
theorem dX9_part_50 : decode cX9_part 50 = .ok (.iload_n 2, 1) := by decide +kernel
theorem dX9_part_51 : decode cX9_part 51 = .ok (.ifCond .eq 38, 3) := by decide +kernel
theorem dX9_part_54 : decode cX9_part 54 = .ok (.iload_n 1, 1) := by decide +kernel
theorem dX9_part_55 : decode cX9_part 55 = .ok (.ifCond .eq 34, 3) := by decide +kernel
theorem dX9_part_58 : decode cX9_part 58 = .ok (.aload_n 0, 1) := by decide +kernel
theorem dX9_part_59 : decode cX9_part 59 = .ok (.getfield 7, 3) := by decide +kernel
theorem dX9_part_62 : decode cX9_part 62 = .ok (.aload_n 0, 1) := by decide +kernel
theorem dX9_part_63 : decode cX9_part 63 = .ok (.getfield 103, 3) := by decide +kernel
theorem dX9_part_66 : decode cX9_part 66 = .ok (.invokestatic 46, 3) := by decide +kernel
theorem dX9_part_69 : decode cX9_part 69 = .ok (.iload_n 3, 1) := by decide +kernel
theorem dX9_part_70 : decode cX9_part 70 = .ok (.iastore, 1) := by decide +kernel
theorem dX9_part_71 : decode cX9_part 71 = .ok (.aload_n 0, 1) := by decide +kernel
theorem dX9_part_72 : decode cX9_part 72 = .ok (.getfield 7, 3) := by decide +kernel
theorem dX9_part_75 : decode cX9_part 75 = .ok (.aload_n 0, 1) := by decide +kernel
theorem dX9_part_76 : decode cX9_part 76 = .ok (.getfield 103, 3) := by decide +kernel
theorem dX9_part_79 : decode cX9_part 79 = .ok (.invokestatic 46, 3) := by decide +kernel
theorem dX9_part_82 : decode cX9_part 82 = .ok (.iconst 1, 1) := by decide +kernel
theorem dX9_part_83 : decode cX9_part 83 = .ok (.iadd, 1) := by decide +kernel
theorem dX9_part_84 : decode cX9_part 84 = .ok (.aload_n 0, 1) := by decide +kernel
theorem dX9_part_85 : decode cX9_part 85 = .ok (.getfield 100, 3) := by decide +kernel
theorem dX9_part_88 : decode cX9_part 88 = .ok (.iastore, 1) := by decide +kernel
theorem dX9_part_89 : decode cX9_part 89 = .ok (.aload_n 0, 1) := by decide +kernel
theorem dX9_part_90 : decode cX9_part 90 = .ok (.dup, 1) := by decide +kernel
theorem dX9_part_91 : decode cX9_part 91 = .ok (.getfield 103, 3) := by decide +kernel
theorem dX9_part_94 : decode cX9_part 94 = .ok (.iconst 1, 1) := by decide +kernel
theorem dX9_part_95 : decode cX9_part 95 = .ok (.iadd, 1) := by decide +kernel
theorem dX9_part_96 : decode cX9_part 96 = .ok (.putfield 103, 3) := by decide +kernel
theorem dX9_part_99 : decode cX9_part 99 = .ok (.iload_n 2, 1) := by decide +kernel
theorem dX9_part_100 : decode cX9_part 100 = .ok (.ireturn, 1) := by decide +kernel
theorem dX9_part_101 : decode cX9_part 101 = .ok (.aload_n 0, 1) := by decide +kernel
theorem dX9_part_102 : decode cX9_part 102 = .ok (.getfield 113, 3) := by decide +kernel
theorem dX9_part_105 : decode cX9_part 105 = .ok (.iconst 5, 1) := by decide +kernel
theorem dX9_part_106 : decode cX9_part 106 = .ok (.if_icmp .ge 94, 3) := by decide +kernel
theorem dX9_part_109 : decode cX9_part 109 = .ok (.aload_n 0, 1) := by decide +kernel
theorem dX9_part_110 : decode cX9_part 110 = .ok (.bipush 118, 2) := by decide +kernel
theorem dX9_part_112 : decode cX9_part 112 = .ok (.invokevirtual 106, 3) := by decide +kernel
theorem dX9_part_115 : decode cX9_part 115 = .ok (.ifCond .eq 85, 3) := by decide +kernel
theorem dX9_part_118 : decode cX9_part 118 = .ok (.aload_n 0, 1) := by decide +kernel
theorem dX9_part_119 : decode cX9_part 119 = .ok (.iconst 0, 1) := by decide +kernel
theorem dX9_part_120 : decode cX9_part 120 = .ok (.iconst 4, 1) := by decide +kernel
theorem dX9_part_121 : decode cX9_part 121 = .ok (.invokevirtual 109, 3) := by decide +kernel
theorem dX9_part_124 : decode cX9_part 124 = .ok (.istore_n 2, 1) := by decide +kernel
theorem dX9_part_125 : decode cX9_part 125 = .ok (.aload_n 0, 1) := by decide +kernel
theorem dX9_part_126 : decode cX9_part 126 = .ok (.getfield 100, 3) := by decide +kernel
theorem dX9_part_129 : decode cX9_part 129 = .ok (.istore_n 3, 1) := by decide +kernel
theorem dX9_part_130 : decode cX9_part 130 = .ok (.iload_n 2, 1) := by decide +kernel
theorem dX9_part_131 : decode cX9_part 131 = .ok (.ifCond .eq 26, 3) := by decide +kernel
theorem dX9_part_134 : decode cX9_part 134 = .ok (.aload_n 0, 1) := by decide +kernel
theorem dX9_part_135 : decode cX9_part 135 = .ok (.iconst 0, 1) := by decide +kernel
theorem dX9_part_136 : decode cX9_part 136 = .ok (.iload_n 3, 1) := by decide +kernel
theorem dX9_part_137 : decode cX9_part 137 = .ok (.iconst 4, 1) := by decide +kernel
theorem dX9_part_138 : decode cX9_part 138 = .ok (.if_icmp .ne 7, 3) := by decide +kernel
theorem dX9_part_141 : decode cX9_part 141 = .ok (.iconst 0, 1) := by decide +kernel
theorem dX9_part_142 : decode cX9_part 142 = .ok (.goto 5, 3) := by decide +kernel
theorem dX9_part_145 : decode cX9_part 145 = .ok (.bipush 9, 2) := by decide +kernel
theorem dX9_part_147 : decode cX9_part 147 = .ok (.invokevirtual 109, 3) := by decide +kernel
theorem dX9_part_150 : decode cX9_part 150 = .ok (.ifCond .eq 7, 3) := by decide +kernel
theorem dX9_part_153 : decode cX9_part 153 = .ok (.iconst 1, 1) := by decide +kernel
theorem dX9_part_154 : decode cX9_part 154 = .ok (.goto 4, 3) := by decide +kernel
theorem dX9_part_157 : decode cX9_part 157 = .ok (.iconst 0, 1) := by decide +kernel
theorem dX9_part_158 : decode cX9_part 158 = .ok (.istore_n 2, 1) := by decide +kernel
theorem dX9_part_159 : decode cX9_part 159 = .ok (.iload_n 2, 1) := by decide +kernel
theorem dX9_part_160 : decode cX9_part 160 = .ok (.ifCond .eq 28, 3) := by decide +kernel
theorem dX9_part_163 : decode cX9_part 163 = .ok (.iload_n 1, 1) := by decide +kernel
theorem dX9_part_164 : decode cX9_part 164 = .ok (.ifCond .eq 24, 3) := by decide +kernel
theorem dX9_part_167 : decode cX9_part 167 = .ok (.aload_n 0, 1) := by decide +kernel
theorem dX9_part_168 : decode cX9_part 168 = .ok (.getfield 7, 3) := by decide +kernel
theorem dX9_part_171 : decode cX9_part 171 = .ok (.aload_n 0, 1) := by decide +kernel
theorem dX9_part_172 : decode cX9_part 172 = .ok (.getfield 113, 3) := by decide +kernel
theorem dX9_part_175 : decode cX9_part 175 = .ok (.invokestatic 61, 3) := by decide +kernel
theorem dX9_part_178 : decode cX9_part 178 = .ok (.bipush 10, 2) := by decide +kernel
theorem dX9_part_180 : decode cX9_part 180 = .ok (.iload_n 3, 1) := by decide +kernel
theorem dX9_part_181 : decode cX9_part 181 = .ok (.imul, 1) := by decide +kernel
theorem dX9_part_182 : decode cX9_part 182 = .ok (.aload_n 0, 1) := by decide +kernel
theorem dX9_part_183 : decode cX9_part 183 = .ok (.getfield 100, 3) := by decide +kernel
theorem dX9_part_186 : decode cX9_part 186 = .ok (.iadd, 1) := by decide +kernel
theorem dX9_part_187 : decode cX9_part 187 = .ok (.iastore, 1) := by decide +kernel
theorem dX9_part_188 : decode cX9_part 188 = .ok (.aload_n 0, 1) := by decide +kernel
theorem dX9_part_189 : decode cX9_part 189 = .ok (.dup, 1) := by decide +kernel
theorem dX9_part_190 : decode cX9_part 190 = .ok (.getfield 113, 3) := by decide +kernel
theorem dX9_part_193 : decode cX9_part 193 = .ok (.iconst 1, 1) := by decide +kernel
theorem dX9_part_194 : decode cX9_part 194 = .ok (.iadd, 1) := by decide +kernel
theorem dX9_part_195 : decode cX9_part 195 = .ok (.putfield 113, 3) := by decide +kernel
theorem dX9_part_198 : decode cX9_part 198 = .ok (.iload_n 2, 1) := by decide +kernel
theorem dX9_part_199 : decode cX9_part 199 = .ok (.ireturn, 1) := by decide +kernel
theorem dX9_part_200 : decode cX9_part 200 = .ok (.aload_n 0, 1) := by decide +kernel
theorem dX9_part_201 : decode cX9_part 201 = .ok (.getfield 103, 3) := by decide +kernel
theorem dX9_part_204 : decode cX9_part 204 = .ok (.ifCond .le 111, 3) := by decide +kernel
theorem dX9_part_207 : decode cX9_part 207 = .ok (.aload_n 0, 1) := by decide +kernel
theorem dX9_part_208 : decode cX9_part 208 = .ok (.getfield 113, 3) := by decide +kernel
theorem dX9_part_211 : decode cX9_part 211 = .ok (.ifCond .le 104, 3) := by decide +kernel
theorem dX9_part_214 : decode cX9_part 214 = .ok (.aload_n 0, 1) := by decide +kernel
theorem dX9_part_215 : decode cX9_part 215 = .ok (.bipush 108, 2) := by decide +kernel
theorem dX9_part_217 : decode cX9_part 217 = .ok (.invokevirtual 106, 3) := by decide +kernel
theorem dX9_part_220 : decode cX9_part 220 = .ok (.ifCond .eq 95, 3) := by decide +kernel
theorem dX9_part_223 : decode cX9_part 223 = .ok (.aload_n 0, 1) := by decide +kernel
theorem dX9_part_224 : decode cX9_part 224 = .ok (.iconst 0, 1) := by decide +kernel
theorem dX9_part_225 : decode cX9_part 225 = .ok (.aload_n 0, 1) := by decide +kernel
theorem dX9_part_226 : decode cX9_part 226 = .ok (.getfield 103, 3) := by decide +kernel
theorem dX9_part_229 : decode cX9_part 229 = .ok (.iconst 1, 1) := by decide +kernel
theorem dX9_part_230 : decode cX9_part 230 = .ok (.isub, 1) := by decide +kernel
theorem dX9_part_231 : decode cX9_part 231 = .ok (.invokevirtual 109, 3) := by decide +kernel
theorem dX9_part_234 : decode cX9_part 234 = .ok (.istore_n 2, 1) := by decide +kernel
theorem dX9_part_235 : decode cX9_part 235 = .ok (.aload_n 0, 1) := by decide +kernel
theorem dX9_part_236 : decode cX9_part 236 = .ok (.getfield 100, 3) := by decide +kernel
theorem dX9_part_239 : decode cX9_part 239 = .ok (.istore_n 3, 1) := by decide +kernel
theorem dX9_part_240 : decode cX9_part 240 = .ok (.iload_n 2, 1) := by decide +kernel
theorem dX9_part_241 : decode cX9_part 241 = .ok (.ifCond .eq 21, 3) := by decide +kernel
theorem dX9_part_244 : decode cX9_part 244 = .ok (.aload_n 0, 1) := by decide +kernel
theorem dX9_part_245 : decode cX9_part 245 = .ok (.iconst 0, 1) := by decide +kernel
theorem dX9_part_246 : decode cX9_part 246 = .ok (.aload_n 0, 1) := by decide +kernel
theorem dX9_part_247 : decode cX9_part 247 = .ok (.getfield 113, 3) := by decide +kernel
theorem dX9_part_250 : decode cX9_part 250 = .ok (.iconst 1, 1) := by decide +kernel
theorem dX9_part_251 : decode cX9_part 251 = .ok (.isub, 1) := by decide +kernel
theorem dX9_part_252 : decode cX9_part 252 = .ok (.invokevirtual 109, 3) := by decide +kernel
theorem dX9_part_255 : decode cX9_part 255 = .ok (.ifCond .eq 7, 3) := by decide +kernel
theorem dX9_part_258 : decode cX9_part 258 = .ok (.iconst 1, 1) := by decide +kernel
theorem dX9_part_259 : decode cX9_part 259 = .ok (.goto 4, 3) := by decide +kernel
theorem dX9_part_262 : decode cX9_part 262 = .ok (.iconst 0, 1) := by decide +kernel
theorem dX9_part_263 : decode cX9_part 263 = .ok (.istore_n 2, 1) := by decide +kernel
theorem dX9_part_264 : decode cX9_part 264 = .ok (.aload_n 0, 1) := by decide +kernel
theorem dX9_part_265 : decode cX9_part 265 = .ok (.getfield 100, 3) := by decide +kernel
theorem dX9_part_268 : decode cX9_part 268 = .ok (.istore 4, 2) := by decide +kernel
theorem dX9_part_270 : decode cX9_part 270 = .ok (.iload_n 2, 1) := by decide +kernel
theorem dX9_part_271 : decode cX9_part 271 = .ok (.ifCond .eq 17, 3) := by decide +kernel
theorem dX9_part_274 : decode cX9_part 274 = .ok (.aload_n 0, 1) := by decide +kernel
theorem dX9_part_275 : decode cX9_part 275 = .ok (.iconst 0, 1) := by decide +kernel
theorem dX9_part_276 : decode cX9_part 276 = .ok (.bipush 9, 2) := by decide +kernel
theorem dX9_part_278 : decode cX9_part 278 = .ok (.invokevirtual 109, 3) := by decide +kernel
theorem dX9_part_281 : decode cX9_part 281 = .ok (.ifCond .eq 7, 3) := by decide +kernel
theorem dX9_part_284 : decode cX9_part 284 = .ok (.iconst 1, 1) := by decide +kernel
theorem dX9_part_285 : decode cX9_part 285 = .ok (.goto 4, 3) := by decide +kernel
theorem dX9_part_288 : decode cX9_part 288 = .ok (.iconst 0, 1) := by decide +kernel
theorem dX9_part_289 : decode cX9_part 289 = .ok (.istore_n 2, 1) := by decide +kernel
theorem dX9_part_290 : decode cX9_part 290 = .ok (.iload_n 2, 1) := by decide +kernel
theorem dX9_part_291 : decode cX9_part 291 = .ok (.ifCond .eq 22, 3) := by decide +kernel
theorem dX9_part_294 : decode cX9_part 294 = .ok (.iload_n 1, 1) := by decide +kernel
theorem dX9_part_295 : decode cX9_part 295 = .ok (.ifCond .eq 18, 3) := by decide +kernel
theorem dX9_part_298 : decode cX9_part 298 = .ok (.aload_n 0, 1) := by decide +kernel
theorem dX9_part_299 : decode cX9_part 299 = .ok (.getfield 7, 3) := by decide +kernel
theorem dX9_part_302 : decode cX9_part 302 = .ok (.iload_n 3, 1) := by decide +kernel
theorem dX9_part_303 : decode cX9_part 303 = .ok (.iload 4, 2) := by decide +kernel
theorem dX9_part_305 : decode cX9_part 305 = .ok (.invokestatic 54, 3) := by decide +kernel
theorem dX9_part_308 : decode cX9_part 308 = .ok (.aload_n 0, 1) := by decide +kernel
theorem dX9_part_309 : decode cX9_part 309 = .ok (.getfield 100, 3) := by decide +kernel
theorem dX9_part_312 : decode cX9_part 312 = .ok (.iastore, 1) := by decide +kernel
theorem dX9_part_313 : decode cX9_part 313 = .ok (.iload_n 2, 1) := by decide +kernel
theorem dX9_part_314 : decode cX9_part 314 = .ok (.ireturn, 1) := by decide +kernel
theorem dX9_part_315 : decode cX9_part 315 = .ok (.aload_n 0, 1) := by decide +kernel
theorem dX9_part_316 : decode cX9_part 316 = .ok (.getfield 103, 3) := by decide +kernel
theorem dX9_part_319 : decode cX9_part 319 = .ok (.ifCond .le 30, 3) := by decide +kernel
theorem dX9_part_322 : decode cX9_part 322 = .ok (.aload_n 0, 1) := by decide +kernel
theorem dX9_part_323 : decode cX9_part 323 = .ok (.bipush 115, 2) := by decide +kernel
theorem dX9_part_325 : decode cX9_part 325 = .ok (.invokevirtual 106, 3) := by decide +kernel
theorem dX9_part_328 : decode cX9_part 328 = .ok (.ifCond .eq 21, 3) := by decide +kernel
theorem dX9_part_331 : decode cX9_part 331 = .ok (.aload_n 0, 1) := by decide +kernel
theorem dX9_part_332 : decode cX9_part 332 = .ok (.iconst 0, 1) := by decide +kernel
theorem dX9_part_333 : decode cX9_part 333 = .ok (.aload_n 0, 1) := by decide +kernel
theorem dX9_part_334 : decode cX9_part 334 = .ok (.getfield 103, 3) := by decide +kernel
theorem dX9_part_337 : decode cX9_part 337 = .ok (.iconst 1, 1) := by decide +kernel
theorem dX9_part_338 : decode cX9_part 338 = .ok (.isub, 1) := by decide +kernel
theorem dX9_part_339 : decode cX9_part 339 = .ok (.invokevirtual 109, 3) := by decide +kernel
theorem dX9_part_342 : decode cX9_part 342 = .ok (.ifCond .eq 7, 3) := by decide +kernel
theorem dX9_part_345 : decode cX9_part 345 = .ok (.iconst 1, 1) := by decide +kernel
theorem dX9_part_346 : decode cX9_part 346 = .ok (.goto 4, 3) := by decide +kernel
theorem dX9_part_349 : decode cX9_part 349 = .ok (.iconst 0, 1) := by decide +kernel
theorem dX9_part_350 : decode cX9_part 350 = .ok (.istore_n 2, 1) := by decide +kernel
theorem dX9_part_351 : decode cX9_part 351 = .ok (.iload_n 2, 1) := by decide +kernel
theorem dX9_part_352 : decode cX9_part 352 = .ok (.ifCond .eq 22, 3) := by decide +kernel
theorem dX9_part_355 : decode cX9_part 355 = .ok (.iload_n 1, 1) := by decide +kernel
theorem dX9_part_356 : decode cX9_part 356 = .ok (.ifCond .eq 18, 3) := by decide +kernel
theorem dX9_part_359 : decode cX9_part 359 = .ok (.aload_n 0, 1) := by decide +kernel
theorem dX9_part_360 : decode cX9_part 360 = .ok (.getfield 7, 3) := by decide +kernel
theorem dX9_part_363 : decode cX9_part 363 = .ok (.aload_n 0, 1) := by decide +kernel
theorem dX9_part_364 : decode cX9_part 364 = .ok (.getfield 100, 3) := by decide +kernel
theorem dX9_part_367 : decode cX9_part 367 = .ok (.invokestatic 46, 3) := by decide +kernel
theorem dX9_part_370 : decode cX9_part 370 = .ok (.iconst 3, 1) := by decide +kernel
theorem dX9_part_371 : decode cX9_part 371 = .ok (.iadd, 1) := by decide +kernel
theorem dX9_part_372 : decode cX9_part 372 = .ok (.iconst 1, 1) := by decide +kernel
theorem dX9_part_373 : decode cX9_part 373 = .ok (.iastore, 1) := by decide +kernel
theorem dX9_part_374 : decode cX9_part 374 = .ok (.iload_n 2, 1) := by decide +kernel
theorem dX9_part_375 : decode cX9_part 375 = .ok (.ireturn, 1) := by decide +kernel
theorem dX9_reads_0 : decode cX9_reads 0 = .ok (.aload_n 0, 1) := by decide +kernel
theorem dX9_reads_1 : decode cX9_reads 1 = .ok (.iconst 0, 1) := by decide +kernel
theorem dX9_reads_2 : decode cX9_reads 2 = .ok (.putfield 97, 3) := by decide +kernel
theorem dX9_reads_5 : decode cX9_reads 5 = .ok (.aload_n 0, 1) := by decide +kernel
theorem dX9_reads_6 : decode cX9_reads 6 = .ok (.iconst 0, 1) := by decide +kernel
theorem dX9_reads_7 : decode cX9_reads 7 = .ok (.putfield 103, 3) := by decide +kernel
theorem dX9_reads_10 : decode cX9_reads 10 = .ok (.aload_n 0, 1) := by decide +kernel
theorem dX9_reads_11 : decode cX9_reads 11 = .ok (.iconst 0, 1) := by decide +kernel
theorem dX9_reads_12 : decode cX9_reads 12 = .ok (.putfield 113, 3) := by decide +kernel
theorem dX9_reads_15 : decode cX9_reads 15 = .ok (.aload_n 0, 1) := by decide +kernel
theorem dX9_reads_16 : decode cX9_reads 16 = .ok (.bipush 70, 2) := by decide +kernel
theorem dX9_reads_18 : decode cX9_reads 18 = .ok (.invokevirtual 106, 3) := by decide +kernel
theorem dX9_reads_21 : decode cX9_reads 21 = .ok (.istore_n 2, 1) := by decide +kernel
theorem dX9_reads_22 : decode cX9_reads 22 = .ok (.iload_n 2, 1) := by decide +kernel
theorem dX9_reads_23 : decode cX9_reads 23 = .ok (.ifCond .eq 23, 3) := by decide +kernel
theorem dX9_reads_26 : decode cX9_reads 26 = .ok (.aload_n 0, 1) := by decide +kernel
theorem dX9_reads_27 : decode cX9_reads 27 = .ok (.getfield 97, 3) := by decide +kernel
theorem dX9_reads_30 : decode cX9_reads 30 = .ok (.aload_n 0, 1) := by decide +kernel
theorem dX9_reads_31 : decode cX9_reads 31 = .ok (.getfield 94, 3) := by decide +kernel
theorem dX9_reads_34 : decode cX9_reads 34 = .ok (.if_icmp .ge 12, 3) := by decide +kernel
theorem dX9_reads_37 : decode cX9_reads 37 = .ok (.aload_n 0, 1) := by decide +kernel
theorem dX9_reads_38 : decode cX9_reads 38 = .ok (.iload_n 1, 1) := by decide +kernel
theorem dX9_reads_39 : decode cX9_reads 39 = .ok (.invokevirtual 116, 3) := by decide +kernel
theorem dX9_reads_42 : decode cX9_reads 42 = .ok (.istore_n 2, 1) := by decide +kernel
theorem dX9_reads_43 : decode cX9_reads 43 = .ok (.goto (-21), 3) := by decide +kernel
theorem dX9_reads_46 : decode cX9_reads 46 = .ok (.iload_n 2, 1) := by decide +kernel
theorem dX9_reads_47 : decode cX9_reads 47 = .ok (.ireturn, 1) := by decide +kernel
theorem dX9_errorPosition_0 : decode cX9_errorPosition 0 = .ok (.aload_n 0, 1) := by decide +kernel
theorem dX9_errorPosition_1 : decode cX9_errorPosition 1 = .ok (.iconst 0, 1) := by decide +kernel
theorem dX9_errorPosition_2 : decode cX9_errorPosition 2 = .ok (.putfield 35, 3) := by decide +kernel
theorem dX9_errorPosition_5 : decode cX9_errorPosition 5 = .ok (.aload_n 0, 1) := by decide +kernel
theorem dX9_errorPosition_6 : decode cX9_errorPosition 6 = .ok (.iconst 0, 1) := by decide +kernel
theorem dX9_errorPosition_7 : decode cX9_errorPosition 7 = .ok (.invokevirtual 120, 3) := by decide +kernel
theorem dX9_errorPosition_10 : decode cX9_errorPosition 10 = .ok (.ifCond .eq 8, 3) := by decide +kernel
theorem dX9_errorPosition_13 : decode cX9_errorPosition 13 = .ok (.bipush (-9), 2) := by decide +kernel
theorem dX9_errorPosition_15 : decode cX9_errorPosition 15 = .ok (.goto 7, 3) := by decide +kernel
theorem dX9_errorPosition_18 : decode cX9_errorPosition 18 = .ok (.aload_n 0, 1) := by decide +kernel
theorem dX9_errorPosition_19 : decode cX9_errorPosition 19 = .ok (.getfield 97, 3) := by decide +kernel
theorem dX9_errorPosition_22 : decode cX9_errorPosition 22 = .ok (.ireturn, 1) := by decide +kernel
theorem dX9_load_0 : decode cX9_load 0 = .ok (.aload_n 0, 1) := by decide +kernel
theorem dX9_load_1 : decode cX9_load 1 = .ok (.iconst 0, 1) := by decide +kernel
theorem dX9_load_2 : decode cX9_load 2 = .ok (.putfield 35, 3) := by decide +kernel
theorem dX9_load_5 : decode cX9_load 5 = .ok (.aload_n 0, 1) := by decide +kernel
theorem dX9_load_6 : decode cX9_load 6 = .ok (.iconst 0, 1) := by decide +kernel
theorem dX9_load_7 : decode cX9_load 7 = .ok (.invokevirtual 120, 3) := by decide +kernel
theorem dX9_load_10 : decode cX9_load 10 = .ok (.ifCond .ne 9, 3) := by decide +kernel
theorem dX9_load_13 : decode cX9_load 13 = .ok (.aload_n 0, 1) := by decide +kernel
theorem dX9_load_14 : decode cX9_load 14 = .ok (.iconst 1, 1) := by decide +kernel
theorem dX9_load_15 : decode cX9_load 15 = .ok (.invokevirtual 91, 3) := by decide +kernel
theorem dX9_load_18 : decode cX9_load 18 = .ok (.ireturn, 1) := by decide +kernel
theorem dX9_load_19 : decode cX9_load 19 = .ok (.aload_n 0, 1) := by decide +kernel
theorem dX9_load_20 : decode cX9_load 20 = .ok (.invokevirtual 32, 3) := by decide +kernel
theorem dX9_load_23 : decode cX9_load 23 = .ok (.aload_n 0, 1) := by decide +kernel
theorem dX9_load_24 : decode cX9_load 24 = .ok (.iconst 1, 1) := by decide +kernel
theorem dX9_load_25 : decode cX9_load 25 = .ok (.invokevirtual 120, 3) := by decide +kernel
theorem dX9_load_28 : decode cX9_load 28 = .ok (.pop, 1) := by decide +kernel
theorem dX9_load_29 : decode cX9_load 29 = .ok (.aload_n 0, 1) := by decide +kernel
theorem dX9_load_30 : decode cX9_load 30 = .ok (.getfield 7, 3) := by decide +kernel
theorem dX9_load_33 : decode cX9_load 33 = .ok (.iconst 0, 1) := by decide +kernel
theorem dX9_load_34 : decode cX9_load 34 = .ok (.aload_n 0, 1) := by decide +kernel
theorem dX9_load_35 : decode cX9_load 35 = .ok (.getfield 103, 3) := by decide +kernel
theorem dX9_load_38 : decode cX9_load 38 = .ok (.iastore, 1) := by decide +kernel
theorem dX9_load_39 : decode cX9_load 39 = .ok (.aload_n 0, 1) := by decide +kernel
theorem dX9_load_40 : decode cX9_load 40 = .ok (.getfield 7, 3) := by decide +kernel
theorem dX9_load_43 : decode cX9_load 43 = .ok (.iconst 1, 1) := by decide +kernel
theorem dX9_load_44 : decode cX9_load 44 = .ok (.aload_n 0, 1) := by decide +kernel
theorem dX9_load_45 : decode cX9_load 45 = .ok (.getfield 113, 3) := by decide +kernel
theorem dX9_load_48 : decode cX9_load 48 = .ok (.iastore, 1) := by decide +kernel
theorem dX9_load_49 : decode cX9_load 49 = .ok (.aload_n 0, 1) := by decide +kernel
theorem dX9_load_50 : decode cX9_load 50 = .ok (.iconst 0, 1) := by decide +kernel
theorem dX9_load_51 : decode cX9_load 51 = .ok (.putfield 43, 3) := by decide +kernel
theorem dX9_load_54 : decode cX9_load 54 = .ok (.aload_n 0, 1) := by decide +kernel
theorem dX9_load_55 : decode cX9_load 55 = .ok (.getfield 22, 3) := by decide +kernel
theorem dX9_load_58 : decode cX9_load 58 = .ok (.iconst 0, 1) := by decide +kernel
theorem dX9_load_59 : decode cX9_load 59 = .ok (.iconst 0, 1) := by decide +kernel
theorem dX9_load_60 : decode cX9_load 60 = .ok (.bastore, 1) := by decide +kernel
theorem dX9_load_61 : decode cX9_load 61 = .ok (.aload_n 0, 1) := by decide +kernel
theorem dX9_load_62 : decode cX9_load 62 = .ok (.getfield 22, 3) := by decide +kernel
theorem dX9_load_65 : decode cX9_load 65 = .ok (.iconst 1, 1) := by decide +kernel
theorem dX9_load_66 : decode cX9_load 66 = .ok (.iconst 0, 1) := by decide +kernel
theorem dX9_load_67 : decode cX9_load 67 = .ok (.bastore, 1) := by decide +kernel
theorem dX9_load_68 : decode cX9_load 68 = .ok (.aload_n 0, 1) := by decide +kernel
theorem dX9_load_69 : decode cX9_load 69 = .ok (.getfield 103, 3) := by decide +kernel
theorem dX9_load_72 : decode cX9_load 72 = .ok (.ireturn, 1) := by decide +kernel
theorem dX9_about_0 : decode cX9_about 0 = .ok (.aload_n 0, 1) := by decide +kernel
theorem dX9_about_1 : decode cX9_about 1 = .ok (.iconst 0, 1) := by decide +kernel
theorem dX9_about_2 : decode cX9_about 2 = .ok (.putfield 35, 3) := by decide +kernel
theorem dX9_about_5 : decode cX9_about 5 = .ok (.iconst 0, 1) := by decide +kernel
theorem dX9_about_6 : decode cX9_about 6 = .ok (.istore_n 2, 1) := by decide +kernel
theorem dX9_about_7 : decode cX9_about 7 = .ok (.iconst 0, 1) := by decide +kernel
theorem dX9_about_8 : decode cX9_about 8 = .ok (.istore_n 3, 1) := by decide +kernel
theorem dX9_about_9 : decode cX9_about 9 = .ok (.iconst 0, 1) := by decide +kernel
theorem dX9_about_10 : decode cX9_about 10 = .ok (.istore 4, 2) := by decide +kernel
theorem dX9_about_12 : decode cX9_about 12 = .ok (.iload 4, 2) := by decide +kernel
theorem dX9_about_14 : decode cX9_about 14 = .ok (.aload_n 0, 1) := by decide +kernel
theorem dX9_about_15 : decode cX9_about 15 = .ok (.getfield 7, 3) := by decide +kernel
theorem dX9_about_18 : decode cX9_about 18 = .ok (.iconst 0, 1) := by decide +kernel
theorem dX9_about_19 : decode cX9_about 19 = .ok (.iaload, 1) := by decide +kernel
theorem dX9_about_20 : decode cX9_about 20 = .ok (.if_icmp .ge 33, 3) := by decide +kernel
theorem dX9_about_23 : decode cX9_about 23 = .ok (.iload_n 2, 1) := by decide +kernel
theorem dX9_about_24 : decode cX9_about 24 = .ok (.aload_n 0, 1) := by decide +kernel
theorem dX9_about_25 : decode cX9_about 25 = .ok (.iload 4, 2) := by decide +kernel
theorem dX9_about_27 : decode cX9_about 27 = .ok (.invokevirtual 123, 3) := by decide +kernel
theorem dX9_about_30 : decode cX9_about 30 = .ok (.iadd, 1) := by decide +kernel
theorem dX9_about_31 : decode cX9_about 31 = .ok (.istore_n 2, 1) := by decide +kernel
theorem dX9_about_32 : decode cX9_about 32 = .ok (.iload_n 3, 1) := by decide +kernel
theorem dX9_about_33 : decode cX9_about 33 = .ok (.aload_n 0, 1) := by decide +kernel
theorem dX9_about_34 : decode cX9_about 34 = .ok (.getfield 7, 3) := by decide +kernel
theorem dX9_about_37 : decode cX9_about 37 = .ok (.iload 4, 2) := by decide +kernel
theorem dX9_about_39 : decode cX9_about 39 = .ok (.invokestatic 46, 3) := by decide +kernel
theorem dX9_about_42 : decode cX9_about 42 = .ok (.iconst 1, 1) := by decide +kernel
theorem dX9_about_43 : decode cX9_about 43 = .ok (.iadd, 1) := by decide +kernel
theorem dX9_about_44 : decode cX9_about 44 = .ok (.iaload, 1) := by decide +kernel
theorem dX9_about_45 : decode cX9_about 45 = .ok (.iadd, 1) := by decide +kernel
theorem dX9_about_46 : decode cX9_about 46 = .ok (.istore_n 3, 1) := by decide +kernel
theorem dX9_about_47 : decode cX9_about 47 = .ok (.iinc 4 1, 3) := by decide +kernel
theorem dX9_about_50 : decode cX9_about 50 = .ok (.goto (-38), 3) := by decide +kernel
theorem dX9_about_53 : decode cX9_about 53 = .ok (.iconst 0, 1) := by decide +kernel
theorem dX9_about_54 : decode cX9_about 54 = .ok (.istore 4, 2) := by decide +kernel
theorem dX9_about_56 : decode cX9_about 56 = .ok (.iconst 0, 1) := by decide +kernel
theorem dX9_about_57 : decode cX9_about 57 = .ok (.istore 5, 2) := by decide +kernel
theorem dX9_about_59 : decode cX9_about 59 = .ok (.iload 5, 2) := by decide +kernel
theorem dX9_about_61 : decode cX9_about 61 = .ok (.aload_n 0, 1) := by decide +kernel
theorem dX9_about_62 : decode cX9_about 62 = .ok (.getfield 7, 3) := by decide +kernel
theorem dX9_about_65 : decode cX9_about 65 = .ok (.iconst 1, 1) := by decide +kernel
theorem dX9_about_66 : decode cX9_about 66 = .ok (.iaload, 1) := by decide +kernel
theorem dX9_about_67 : decode cX9_about 67 = .ok (.if_icmp .ge 26, 3) := by decide +kernel
theorem dX9_about_70 : decode cX9_about 70 = .ok (.iload 4, 2) := by decide +kernel
theorem dX9_about_72 : decode cX9_about 72 = .ok (.aload_n 0, 1) := by decide +kernel
theorem dX9_about_73 : decode cX9_about 73 = .ok (.getfield 7, 3) := by decide +kernel
theorem dX9_about_76 : decode cX9_about 76 = .ok (.iload 5, 2) := by decide +kernel
theorem dX9_about_78 : decode cX9_about 78 = .ok (.invokestatic 61, 3) := by decide +kernel
theorem dX9_about_81 : decode cX9_about 81 = .ok (.iconst 1, 1) := by decide +kernel
theorem dX9_about_82 : decode cX9_about 82 = .ok (.iadd, 1) := by decide +kernel
theorem dX9_about_83 : decode cX9_about 83 = .ok (.iaload, 1) := by decide +kernel
theorem dX9_about_84 : decode cX9_about 84 = .ok (.iadd, 1) := by decide +kernel
theorem dX9_about_85 : decode cX9_about 85 = .ok (.istore 4, 2) := by decide +kernel
theorem dX9_about_87 : decode cX9_about 87 = .ok (.iinc 5 1, 3) := by decide +kernel
theorem dX9_about_90 : decode cX9_about 90 = .ok (.goto (-31), 3) := by decide +kernel
theorem dX9_about_93 : decode cX9_about 93 = .ok (.iload_n 1, 1) := by decide +kernel
theorem dX9_about_94 : decode cX9_about 94 = .ok (.tableswitch 94 0 9 #[54, 54, 54, 61, 63, 70, 77, 80, 82, 89], 54) := by decide +kernel
theorem dX9_about_148 : decode cX9_about 148 = .ok (.aload_n 0, 1) := by decide +kernel
theorem dX9_about_149 : decode cX9_about 149 = .ok (.getfield 7, 3) := by decide +kernel
theorem dX9_about_152 : decode cX9_about 152 = .ok (.iload_n 1, 1) := by decide +kernel
theorem dX9_about_153 : decode cX9_about 153 = .ok (.iaload, 1) := by decide +kernel
theorem dX9_about_154 : decode cX9_about 154 = .ok (.ireturn, 1) := by decide +kernel
theorem dX9_about_155 : decode cX9_about 155 = .ok (.iload_n 2, 1) := by decide +kernel
theorem dX9_about_156 : decode cX9_about 156 = .ok (.ireturn, 1) := by decide +kernel
theorem dX9_about_157 : decode cX9_about 157 = .ok (.aload_n 0, 1) := by decide +kernel
theorem dX9_about_158 : decode cX9_about 158 = .ok (.getfield 7, 3) := by decide +kernel
theorem dX9_about_161 : decode cX9_about 161 = .ok (.iconst 3, 1) := by decide +kernel
theorem dX9_about_162 : decode cX9_about 162 = .ok (.iaload, 1) := by decide +kernel
theorem dX9_about_163 : decode cX9_about 163 = .ok (.ireturn, 1) := by decide +kernel
theorem dX9_about_164 : decode cX9_about 164 = .ok (.aload_n 0, 1) := by decide +kernel
theorem dX9_about_165 : decode cX9_about 165 = .ok (.getfield 7, 3) := by decide +kernel
theorem dX9_about_168 : decode cX9_about 168 = .ok (.iconst 4, 1) := by decide +kernel
theorem dX9_about_169 : decode cX9_about 169 = .ok (.iaload, 1) := by decide +kernel
theorem dX9_about_170 : decode cX9_about 170 = .ok (.ireturn, 1) := by decide +kernel
theorem dX9_about_171 : decode cX9_about 171 = .ok (.iload 4, 2) := by decide +kernel
theorem dX9_about_173 : decode cX9_about 173 = .ok (.ireturn, 1) := by decide +kernel
theorem dX9_about_174 : decode cX9_about 174 = .ok (.iload_n 3, 1) := by decide +kernel
theorem dX9_about_175 : decode cX9_about 175 = .ok (.ireturn, 1) := by decide +kernel
theorem dX9_about_176 : decode cX9_about 176 = .ok (.aload_n 0, 1) := by decide +kernel
theorem dX9_about_177 : decode cX9_about 177 = .ok (.getfield 7, 3) := by decide +kernel
theorem dX9_about_180 : decode cX9_about 180 = .ok (.iconst 5, 1) := by decide +kernel
theorem dX9_about_181 : decode cX9_about 181 = .ok (.iaload, 1) := by decide +kernel
theorem dX9_about_182 : decode cX9_about 182 = .ok (.ireturn, 1) := by decide +kernel
theorem dX9_about_183 : decode cX9_about 183 = .ok (.aload_n 0, 1) := by decide +kernel
theorem dX9_about_184 : decode cX9_about 184 = .ok (.invokevirtual 78, 3) := by decide +kernel
theorem dX9_about_187 : decode cX9_about 187 = .ok (.ireturn, 1) := by decide +kernel
theorem dX9_about_188 : decode cX9_about 188 = .ok (.aload_n 0, 1) := by decide +kernel
theorem dX9_about_189 : decode cX9_about 189 = .ok (.iconst 1, 1) := by decide +kernel
theorem dX9_about_190 : decode cX9_about 190 = .ok (.invokevirtual 91, 3) := by decide +kernel
theorem dX9_about_193 : decode cX9_about 193 = .ok (.ireturn, 1) := by decide +kernel
theorem dX9_house_0 : decode cX9_house 0 = .ok (.aload_n 0, 1) := by decide +kernel
theorem dX9_house_1 : decode cX9_house 1 = .ok (.iconst 0, 1) := by decide +kernel
theorem dX9_house_2 : decode cX9_house 2 = .ok (.putfield 35, 3) := by decide +kernel
theorem dX9_house_5 : decode cX9_house 5 = .ok (.aload_n 0, 1) := by decide +kernel
theorem dX9_house_6 : decode cX9_house 6 = .ok (.iload_n 1, 1) := by decide +kernel
theorem dX9_house_7 : decode cX9_house 7 = .ok (.invokevirtual 126, 3) := by decide +kernel
theorem dX9_house_10 : decode cX9_house 10 = .ok (.ifCond .ne 9, 3) := by decide +kernel
theorem dX9_house_13 : decode cX9_house 13 = .ok (.aload_n 0, 1) := by decide +kernel
theorem dX9_house_14 : decode cX9_house 14 = .ok (.iconst 1, 1) := by decide +kernel
theorem dX9_house_15 : decode cX9_house 15 = .ok (.invokevirtual 91, 3) := by decide +kernel
theorem dX9_house_18 : decode cX9_house 18 = .ok (.ireturn, 1) := by decide +kernel
theorem dX9_house_19 : decode cX9_house 19 = .ok (.iload_n 2, 1) := by decide +kernel
theorem dX9_house_20 : decode cX9_house 20 = .ok (.iconst 0, 1) := by decide +kernel
theorem dX9_house_21 : decode cX9_house 21 = .ok (.bipush 6, 2) := by decide +kernel
theorem dX9_house_23 : decode cX9_house 23 = .ok (.invokestatic 39, 3) := by decide +kernel
theorem dX9_house_26 : decode cX9_house 26 = .ok (.ifCond .ne 9, 3) := by decide +kernel
theorem dX9_house_29 : decode cX9_house 29 = .ok (.aload_n 0, 1) := by decide +kernel
theorem dX9_house_30 : decode cX9_house 30 = .ok (.iconst 2, 1) := by decide +kernel
theorem dX9_house_31 : decode cX9_house 31 = .ok (.invokevirtual 91, 3) := by decide +kernel
theorem dX9_house_34 : decode cX9_house 34 = .ok (.ireturn, 1) := by decide +kernel
theorem dX9_house_35 : decode cX9_house 35 = .ok (.iload_n 2, 1) := by decide +kernel
theorem dX9_house_36 : decode cX9_house 36 = .ok (.iconst 4, 1) := by decide +kernel
theorem dX9_house_37 : decode cX9_house 37 = .ok (.if_icmp .ge 17, 3) := by decide +kernel
theorem dX9_house_40 : decode cX9_house 40 = .ok (.aload_n 0, 1) := by decide +kernel
theorem dX9_house_41 : decode cX9_house 41 = .ok (.getfield 7, 3) := by decide +kernel
theorem dX9_house_44 : decode cX9_house 44 = .ok (.iload_n 1, 1) := by decide +kernel
theorem dX9_house_45 : decode cX9_house 45 = .ok (.invokestatic 46, 3) := by decide +kernel
theorem dX9_house_48 : decode cX9_house 48 = .ok (.iload_n 2, 1) := by decide +kernel
theorem dX9_house_49 : decode cX9_house 49 = .ok (.iadd, 1) := by decide +kernel
theorem dX9_house_50 : decode cX9_house 50 = .ok (.iaload, 1) := by decide +kernel
theorem dX9_house_51 : decode cX9_house 51 = .ok (.goto 42, 3) := by decide +kernel
theorem dX9_house_54 : decode cX9_house 54 = .ok (.iload_n 2, 1) := by decide +kernel
theorem dX9_house_55 : decode cX9_house 55 = .ok (.iconst 4, 1) := by decide +kernel
theorem dX9_house_56 : decode cX9_house 56 = .ok (.if_icmp .ne 11, 3) := by decide +kernel
theorem dX9_house_59 : decode cX9_house 59 = .ok (.aload_n 0, 1) := by decide +kernel
theorem dX9_house_60 : decode cX9_house 60 = .ok (.iload_n 1, 1) := by decide +kernel
theorem dX9_house_61 : decode cX9_house 61 = .ok (.invokevirtual 123, 3) := by decide +kernel
theorem dX9_house_64 : decode cX9_house 64 = .ok (.goto 29, 3) := by decide +kernel
theorem dX9_house_67 : decode cX9_house 67 = .ok (.iload_n 2, 1) := by decide +kernel
theorem dX9_house_68 : decode cX9_house 68 = .ok (.iconst 5, 1) := by decide +kernel
theorem dX9_house_69 : decode cX9_house 69 = .ok (.if_icmp .ne 11, 3) := by decide +kernel
theorem dX9_house_72 : decode cX9_house 72 = .ok (.aload_n 0, 1) := by decide +kernel
theorem dX9_house_73 : decode cX9_house 73 = .ok (.iload_n 1, 1) := by decide +kernel
theorem dX9_house_74 : decode cX9_house 74 = .ok (.invokevirtual 88, 3) := by decide +kernel
theorem dX9_house_77 : decode cX9_house 77 = .ok (.goto 16, 3) := by decide +kernel
theorem dX9_house_80 : decode cX9_house 80 = .ok (.aload_n 0, 1) := by decide +kernel
theorem dX9_house_81 : decode cX9_house 81 = .ok (.iload_n 1, 1) := by decide +kernel
theorem dX9_house_82 : decode cX9_house 82 = .ok (.invokevirtual 50, 3) := by decide +kernel
theorem dX9_house_85 : decode cX9_house 85 = .ok (.ifCond .eq 7, 3) := by decide +kernel
theorem dX9_house_88 : decode cX9_house 88 = .ok (.iconst 1, 1) := by decide +kernel
theorem dX9_house_89 : decode cX9_house 89 = .ok (.goto 4, 3) := by decide +kernel
theorem dX9_house_92 : decode cX9_house 92 = .ok (.iconst 0, 1) := by decide +kernel
theorem dX9_house_93 : decode cX9_house 93 = .ok (.ireturn, 1) := by decide +kernel
theorem dX9_vegetable_0 : decode cX9_vegetable 0 = .ok (.aload_n 0, 1) := by decide +kernel
theorem dX9_vegetable_1 : decode cX9_vegetable 1 = .ok (.iconst 0, 1) := by decide +kernel
theorem dX9_vegetable_2 : decode cX9_vegetable 2 = .ok (.putfield 35, 3) := by decide +kernel
theorem dX9_vegetable_5 : decode cX9_vegetable 5 = .ok (.aload_n 0, 1) := by decide +kernel
theorem dX9_vegetable_6 : decode cX9_vegetable 6 = .ok (.iload_n 1, 1) := by decide +kernel
theorem dX9_vegetable_7 : decode cX9_vegetable 7 = .ok (.invokevirtual 129, 3) := by decide +kernel
theorem dX9_vegetable_10 : decode cX9_vegetable 10 = .ok (.ifCond .ne 9, 3) := by decide +kernel
theorem dX9_vegetable_13 : decode cX9_vegetable 13 = .ok (.aload_n 0, 1) := by decide +kernel
theorem dX9_vegetable_14 : decode cX9_vegetable 14 = .ok (.iconst 1, 1) := by decide +kernel
theorem dX9_vegetable_15 : decode cX9_vegetable 15 = .ok (.invokevirtual 91, 3) := by decide +kernel
theorem dX9_vegetable_18 : decode cX9_vegetable 18 = .ok (.ireturn, 1) := by decide +kernel
theorem dX9_vegetable_19 : decode cX9_vegetable 19 = .ok (.iload_n 2, 1) := by decide +kernel
theorem dX9_vegetable_20 : decode cX9_vegetable 20 = .ok (.iconst 0, 1) := by decide +kernel
theorem dX9_vegetable_21 : decode cX9_vegetable 21 = .ok (.iconst 3, 1) := by decide +kernel
theorem dX9_vegetable_22 : decode cX9_vegetable 22 = .ok (.invokestatic 39, 3) := by decide +kernel
theorem dX9_vegetable_25 : decode cX9_vegetable 25 = .ok (.ifCond .ne 9, 3) := by decide +kernel
theorem dX9_vegetable_28 : decode cX9_vegetable 28 = .ok (.aload_n 0, 1) := by decide +kernel
theorem dX9_vegetable_29 : decode cX9_vegetable 29 = .ok (.iconst 2, 1) := by decide +kernel
theorem dX9_vegetable_30 : decode cX9_vegetable 30 = .ok (.invokevirtual 91, 3) := by decide +kernel
theorem dX9_vegetable_33 : decode cX9_vegetable 33 = .ok (.ireturn, 1) := by decide +kernel
theorem dX9_vegetable_34 : decode cX9_vegetable 34 = .ok (.bipush (-9), 2) := by decide +kernel
theorem dX9_vegetable_36 : decode cX9_vegetable 36 = .ok (.istore_n 3, 1) := by decide +kernel
theorem dX9_vegetable_37 : decode cX9_vegetable 37 = .ok (.iconst 0, 1) := by decide +kernel
theorem dX9_vegetable_38 : decode cX9_vegetable 38 = .ok (.istore 4, 2) := by decide +kernel
theorem dX9_vegetable_40 : decode cX9_vegetable 40 = .ok (.iload 4, 2) := by decide +kernel
theorem dX9_vegetable_42 : decode cX9_vegetable 42 = .ok (.aload_n 0, 1) := by decide +kernel
theorem dX9_vegetable_43 : decode cX9_vegetable 43 = .ok (.getfield 7, 3) := by decide +kernel
theorem dX9_vegetable_46 : decode cX9_vegetable 46 = .ok (.iconst 0, 1) := by decide +kernel
theorem dX9_vegetable_47 : decode cX9_vegetable 47 = .ok (.iaload, 1) := by decide +kernel
theorem dX9_vegetable_48 : decode cX9_vegetable 48 = .ok (.if_icmp .ge 44, 3) := by decide +kernel
theorem dX9_vegetable_51 : decode cX9_vegetable 51 = .ok (.iload_n 3, 1) := by decide +kernel
theorem dX9_vegetable_52 : decode cX9_vegetable 52 = .ok (.ifCond .lt 27, 3) := by decide +kernel
theorem dX9_vegetable_55 : decode cX9_vegetable 55 = .ok (.aload_n 0, 1) := by decide +kernel
theorem dX9_vegetable_56 : decode cX9_vegetable 56 = .ok (.getfield 7, 3) := by decide +kernel
theorem dX9_vegetable_59 : decode cX9_vegetable 59 = .ok (.iload 4, 2) := by decide +kernel
theorem dX9_vegetable_61 : decode cX9_vegetable 61 = .ok (.iload_n 1, 1) := by decide +kernel
theorem dX9_vegetable_62 : decode cX9_vegetable 62 = .ok (.invokestatic 54, 3) := by decide +kernel
theorem dX9_vegetable_65 : decode cX9_vegetable 65 = .ok (.iaload, 1) := by decide +kernel
theorem dX9_vegetable_66 : decode cX9_vegetable 66 = .ok (.aload_n 0, 1) := by decide +kernel
theorem dX9_vegetable_67 : decode cX9_vegetable 67 = .ok (.getfield 7, 3) := by decide +kernel
theorem dX9_vegetable_70 : decode cX9_vegetable 70 = .ok (.iload_n 3, 1) := by decide +kernel
theorem dX9_vegetable_71 : decode cX9_vegetable 71 = .ok (.iload_n 1, 1) := by decide +kernel
theorem dX9_vegetable_72 : decode cX9_vegetable 72 = .ok (.invokestatic 54, 3) := by decide +kernel
theorem dX9_vegetable_75 : decode cX9_vegetable 75 = .ok (.iaload, 1) := by decide +kernel
theorem dX9_vegetable_76 : decode cX9_vegetable 76 = .ok (.if_icmp .le 8, 3) := by decide +kernel
theorem dX9_vegetable_79 : decode cX9_vegetable 79 = .ok (.iload 4, 2) := by decide +kernel
theorem dX9_vegetable_81 : decode cX9_vegetable 81 = .ok (.goto 4, 3) := by decide +kernel
theorem dX9_vegetable_84 : decode cX9_vegetable 84 = .ok (.iload_n 3, 1) := by decide +kernel
theorem dX9_vegetable_85 : decode cX9_vegetable 85 = .ok (.istore_n 3, 1) := by decide +kernel
theorem dX9_vegetable_86 : decode cX9_vegetable 86 = .ok (.iinc 4 1, 3) := by decide +kernel
theorem dX9_vegetable_89 : decode cX9_vegetable 89 = .ok (.goto (-49), 3) := by decide +kernel
theorem dX9_vegetable_92 : decode cX9_vegetable 92 = .ok (.iload_n 2, 1) := by decide +kernel
theorem dX9_vegetable_93 : decode cX9_vegetable 93 = .ok (.ifCond .ne 15, 3) := by decide +kernel
theorem dX9_vegetable_96 : decode cX9_vegetable 96 = .ok (.aload_n 0, 1) := by decide +kernel
theorem dX9_vegetable_97 : decode cX9_vegetable 97 = .ok (.getfield 7, 3) := by decide +kernel
theorem dX9_vegetable_100 : decode cX9_vegetable 100 = .ok (.iload_n 1, 1) := by decide +kernel
theorem dX9_vegetable_101 : decode cX9_vegetable 101 = .ok (.invokestatic 61, 3) := by decide +kernel
theorem dX9_vegetable_104 : decode cX9_vegetable 104 = .ok (.iaload, 1) := by decide +kernel
theorem dX9_vegetable_105 : decode cX9_vegetable 105 = .ok (.goto 36, 3) := by decide +kernel
theorem dX9_vegetable_108 : decode cX9_vegetable 108 = .ok (.iload_n 2, 1) := by decide +kernel
theorem dX9_vegetable_109 : decode cX9_vegetable 109 = .ok (.iconst 1, 1) := by decide +kernel
theorem dX9_vegetable_110 : decode cX9_vegetable 110 = .ok (.if_icmp .ne 11, 3) := by decide +kernel
theorem dX9_vegetable_113 : decode cX9_vegetable 113 = .ok (.aload_n 0, 1) := by decide +kernel
theorem dX9_vegetable_114 : decode cX9_vegetable 114 = .ok (.iload_n 1, 1) := by decide +kernel
theorem dX9_vegetable_115 : decode cX9_vegetable 115 = .ok (.invokevirtual 132, 3) := by decide +kernel
theorem dX9_vegetable_118 : decode cX9_vegetable 118 = .ok (.goto 23, 3) := by decide +kernel
theorem dX9_vegetable_121 : decode cX9_vegetable 121 = .ok (.iload_n 2, 1) := by decide +kernel
theorem dX9_vegetable_122 : decode cX9_vegetable 122 = .ok (.iconst 2, 1) := by decide +kernel
theorem dX9_vegetable_123 : decode cX9_vegetable 123 = .ok (.if_icmp .ne 17, 3) := by decide +kernel
theorem dX9_vegetable_126 : decode cX9_vegetable 126 = .ok (.aload_n 0, 1) := by decide +kernel
theorem dX9_vegetable_127 : decode cX9_vegetable 127 = .ok (.getfield 7, 3) := by decide +kernel
theorem dX9_vegetable_130 : decode cX9_vegetable 130 = .ok (.iload_n 1, 1) := by decide +kernel
theorem dX9_vegetable_131 : decode cX9_vegetable 131 = .ok (.invokestatic 61, 3) := by decide +kernel
theorem dX9_vegetable_134 : decode cX9_vegetable 134 = .ok (.iconst 1, 1) := by decide +kernel
theorem dX9_vegetable_135 : decode cX9_vegetable 135 = .ok (.iadd, 1) := by decide +kernel
theorem dX9_vegetable_136 : decode cX9_vegetable 136 = .ok (.iaload, 1) := by decide +kernel
theorem dX9_vegetable_137 : decode cX9_vegetable 137 = .ok (.goto 4, 3) := by decide +kernel
theorem dX9_vegetable_140 : decode cX9_vegetable 140 = .ok (.iload_n 3, 1) := by decide +kernel
theorem dX9_vegetable_141 : decode cX9_vegetable 141 = .ok (.ireturn, 1) := by decide +kernel
theorem dX9_box_0 : decode cX9_box 0 = .ok (.aload_n 0, 1) := by decide +kernel
theorem dX9_box_1 : decode cX9_box 1 = .ok (.iconst 0, 1) := by decide +kernel
theorem dX9_box_2 : decode cX9_box 2 = .ok (.putfield 35, 3) := by decide +kernel
theorem dX9_box_5 : decode cX9_box 5 = .ok (.aload_n 0, 1) := by decide +kernel
theorem dX9_box_6 : decode cX9_box 6 = .ok (.iload_n 1, 1) := by decide +kernel
theorem dX9_box_7 : decode cX9_box 7 = .ok (.invokevirtual 126, 3) := by decide +kernel
theorem dX9_box_10 : decode cX9_box 10 = .ok (.ifCond .eq 24, 3) := by decide +kernel
theorem dX9_box_13 : decode cX9_box 13 = .ok (.aload_n 0, 1) := by decide +kernel
theorem dX9_box_14 : decode cX9_box 14 = .ok (.iload_n 2, 1) := by decide +kernel
theorem dX9_box_15 : decode cX9_box 15 = .ok (.invokevirtual 129, 3) := by decide +kernel
theorem dX9_box_18 : decode cX9_box 18 = .ok (.ifCond .eq 16, 3) := by decide +kernel
theorem dX9_box_21 : decode cX9_box 21 = .ok (.aload_n 0, 1) := by decide +kernel
theorem dX9_box_22 : decode cX9_box 22 = .ok (.getfield 7, 3) := by decide +kernel
theorem dX9_box_25 : decode cX9_box 25 = .ok (.iload_n 1, 1) := by decide +kernel
theorem dX9_box_26 : decode cX9_box 26 = .ok (.iload_n 2, 1) := by decide +kernel
theorem dX9_box_27 : decode cX9_box 27 = .ok (.invokestatic 64, 3) := by decide +kernel
theorem dX9_box_30 : decode cX9_box 30 = .ok (.iaload, 1) := by decide +kernel
theorem dX9_box_31 : decode cX9_box 31 = .ok (.goto 8, 3) := by decide +kernel
theorem dX9_box_34 : decode cX9_box 34 = .ok (.aload_n 0, 1) := by decide +kernel
theorem dX9_box_35 : decode cX9_box 35 = .ok (.iconst 1, 1) := by decide +kernel
theorem dX9_box_36 : decode cX9_box 36 = .ok (.invokevirtual 91, 3) := by decide +kernel
theorem dX9_box_39 : decode cX9_box 39 = .ok (.ireturn, 1) := by decide +kernel
theorem dX9_liking_0 : decode cX9_liking 0 = .ok (.aload_n 0, 1) := by decide +kernel
theorem dX9_liking_1 : decode cX9_liking 1 = .ok (.iconst 0, 1) := by decide +kernel
theorem dX9_liking_2 : decode cX9_liking 2 = .ok (.putfield 35, 3) := by decide +kernel
theorem dX9_liking_5 : decode cX9_liking 5 = .ok (.aload_n 0, 1) := by decide +kernel
theorem dX9_liking_6 : decode cX9_liking 6 = .ok (.iload_n 1, 1) := by decide +kernel
theorem dX9_liking_7 : decode cX9_liking 7 = .ok (.invokevirtual 126, 3) := by decide +kernel
theorem dX9_liking_10 : decode cX9_liking 10 = .ok (.ifCond .eq 24, 3) := by decide +kernel
theorem dX9_liking_13 : decode cX9_liking 13 = .ok (.aload_n 0, 1) := by decide +kernel
theorem dX9_liking_14 : decode cX9_liking 14 = .ok (.iload_n 2, 1) := by decide +kernel
theorem dX9_liking_15 : decode cX9_liking 15 = .ok (.invokevirtual 129, 3) := by decide +kernel
theorem dX9_liking_18 : decode cX9_liking 18 = .ok (.ifCond .eq 16, 3) := by decide +kernel
theorem dX9_liking_21 : decode cX9_liking 21 = .ok (.aload_n 0, 1) := by decide +kernel
theorem dX9_liking_22 : decode cX9_liking 22 = .ok (.getfield 7, 3) := by decide +kernel
theorem dX9_liking_25 : decode cX9_liking 25 = .ok (.iload_n 1, 1) := by decide +kernel
theorem dX9_liking_26 : decode cX9_liking 26 = .ok (.iload_n 2, 1) := by decide +kernel
theorem dX9_liking_27 : decode cX9_liking 27 = .ok (.invokestatic 54, 3) := by decide +kernel
theorem dX9_liking_30 : decode cX9_liking 30 = .ok (.iaload, 1) := by decide +kernel
theorem dX9_liking_31 : decode cX9_liking 31 = .ok (.goto 8, 3) := by decide +kernel
theorem dX9_liking_34 : decode cX9_liking 34 = .ok (.aload_n 0, 1) := by decide +kernel
theorem dX9_liking_35 : decode cX9_liking 35 = .ok (.iconst 1, 1) := by decide +kernel
theorem dX9_liking_36 : decode cX9_liking 36 = .ok (.invokevirtual 91, 3) := by decide +kernel
theorem dX9_liking_39 : decode cX9_liking 39 = .ok (.ireturn, 1) := by decide +kernel
theorem dX9_order_0 : decode cX9_order 0 = .ok (.aload_n 0, 1) := by decide +kernel
theorem dX9_order_1 : decode cX9_order 1 = .ok (.iconst 0, 1) := by decide +kernel
theorem dX9_order_2 : decode cX9_order 2 = .ok (.putfield 35, 3) := by decide +kernel
theorem dX9_order_5 : decode cX9_order 5 = .ok (.iload_n 1, 1) := by decide +kernel
theorem dX9_order_6 : decode cX9_order 6 = .ok (.ifCond .ge 9, 3) := by decide +kernel
theorem dX9_order_9 : decode cX9_order 9 = .ok (.aload_n 0, 1) := by decide +kernel
theorem dX9_order_10 : decode cX9_order 10 = .ok (.iconst 1, 1) := by decide +kernel
theorem dX9_order_11 : decode cX9_order 11 = .ok (.invokevirtual 91, 3) := by decide +kernel
theorem dX9_order_14 : decode cX9_order 14 = .ok (.ireturn, 1) := by decide +kernel
theorem dX9_order_15 : decode cX9_order 15 = .ok (.iconst 0, 1) := by decide +kernel
theorem dX9_order_16 : decode cX9_order 16 = .ok (.istore_n 2, 1) := by decide +kernel
theorem dX9_order_17 : decode cX9_order 17 = .ok (.iload_n 2, 1) := by decide +kernel
theorem dX9_order_18 : decode cX9_order 18 = .ok (.aload_n 0, 1) := by decide +kernel
theorem dX9_order_19 : decode cX9_order 19 = .ok (.getfield 7, 3) := by decide +kernel
theorem dX9_order_22 : decode cX9_order 22 = .ok (.iconst 0, 1) := by decide +kernel
theorem dX9_order_23 : decode cX9_order 23 = .ok (.iaload, 1) := by decide +kernel
theorem dX9_order_24 : decode cX9_order 24 = .ok (.if_icmp .ge 80, 3) := by decide +kernel
theorem dX9_order_27 : decode cX9_order 27 = .ok (.iconst 0, 1) := by decide +kernel
theorem dX9_order_28 : decode cX9_order 28 = .ok (.istore_n 3, 1) := by decide +kernel
theorem dX9_order_29 : decode cX9_order 29 = .ok (.iconst 0, 1) := by decide +kernel
theorem dX9_order_30 : decode cX9_order 30 = .ok (.istore 4, 2) := by decide +kernel
theorem dX9_order_32 : decode cX9_order 32 = .ok (.iload 4, 2) := by decide +kernel
theorem dX9_order_34 : decode cX9_order 34 = .ok (.aload_n 0, 1) := by decide +kernel
theorem dX9_order_35 : decode cX9_order 35 = .ok (.getfield 7, 3) := by decide +kernel
theorem dX9_order_38 : decode cX9_order 38 = .ok (.iconst 0, 1) := by decide +kernel
theorem dX9_order_39 : decode cX9_order 39 = .ok (.iaload, 1) := by decide +kernel
theorem dX9_order_40 : decode cX9_order 40 = .ok (.if_icmp .ge 51, 3) := by decide +kernel
theorem dX9_order_43 : decode cX9_order 43 = .ok (.iload_n 3, 1) := by decide +kernel
theorem dX9_order_44 : decode cX9_order 44 = .ok (.aload_n 0, 1) := by decide +kernel
theorem dX9_order_45 : decode cX9_order 45 = .ok (.iload 4, 2) := by decide +kernel
theorem dX9_order_47 : decode cX9_order 47 = .ok (.invokevirtual 88, 3) := by decide +kernel
theorem dX9_order_50 : decode cX9_order 50 = .ok (.aload_n 0, 1) := by decide +kernel
theorem dX9_order_51 : decode cX9_order 51 = .ok (.iload_n 2, 1) := by decide +kernel
theorem dX9_order_52 : decode cX9_order 52 = .ok (.invokevirtual 88, 3) := by decide +kernel
theorem dX9_order_55 : decode cX9_order 55 = .ok (.if_icmp .gt 23, 3) := by decide +kernel
theorem dX9_order_58 : decode cX9_order 58 = .ok (.iload 4, 2) := by decide +kernel
theorem dX9_order_60 : decode cX9_order 60 = .ok (.iload_n 2, 1) := by decide +kernel
theorem dX9_order_61 : decode cX9_order 61 = .ok (.if_icmp .ge 21, 3) := by decide +kernel
theorem dX9_order_64 : decode cX9_order 64 = .ok (.aload_n 0, 1) := by decide +kernel
theorem dX9_order_65 : decode cX9_order 65 = .ok (.iload 4, 2) := by decide +kernel
theorem dX9_order_67 : decode cX9_order 67 = .ok (.invokevirtual 88, 3) := by decide +kernel
theorem dX9_order_70 : decode cX9_order 70 = .ok (.aload_n 0, 1) := by decide +kernel
theorem dX9_order_71 : decode cX9_order 71 = .ok (.iload_n 2, 1) := by decide +kernel
theorem dX9_order_72 : decode cX9_order 72 = .ok (.invokevirtual 88, 3) := by decide +kernel
theorem dX9_order_75 : decode cX9_order 75 = .ok (.if_icmp .ne 7, 3) := by decide +kernel
theorem dX9_order_78 : decode cX9_order 78 = .ok (.iconst 1, 1) := by decide +kernel
theorem dX9_order_79 : decode cX9_order 79 = .ok (.goto 4, 3) := by decide +kernel
theorem dX9_order_82 : decode cX9_order 82 = .ok (.iconst 0, 1) := by decide +kernel
theorem dX9_order_83 : decode cX9_order 83 = .ok (.iadd, 1) := by decide +kernel
theorem dX9_order_84 : decode cX9_order 84 = .ok (.istore_n 3, 1) := by decide +kernel
theorem dX9_order_85 : decode cX9_order 85 = .ok (.iinc 4 1, 3) := by decide +kernel
theorem dX9_order_88 : decode cX9_order 88 = .ok (.goto (-56), 3) := by decide +kernel
theorem dX9_order_91 : decode cX9_order 91 = .ok (.iload_n 3, 1) := by decide +kernel
theorem dX9_order_92 : decode cX9_order 92 = .ok (.iload_n 1, 1) := by decide +kernel
theorem dX9_order_93 : decode cX9_order 93 = .ok (.if_icmp .ne 5, 3) := by decide +kernel
theorem dX9_order_96 : decode cX9_order 96 = .ok (.iload_n 2, 1) := by decide +kernel
theorem dX9_order_97 : decode cX9_order 97 = .ok (.ireturn, 1) := by decide +kernel
theorem dX9_order_98 : decode cX9_order 98 = .ok (.iinc 2 1, 3) := by decide +kernel
theorem dX9_order_101 : decode cX9_order 101 = .ok (.goto (-84), 3) := by decide +kernel
theorem dX9_order_104 : decode cX9_order 104 = .ok (.bipush (-9), 2) := by decide +kernel
theorem dX9_order_106 : decode cX9_order 106 = .ok (.ireturn, 1) := by decide +kernel
theorem dX9_addHouse_0 : decode cX9_addHouse 0 = .ok (.aload_n 0, 1) := by decide +kernel
theorem dX9_addHouse_1 : decode cX9_addHouse 1 = .ok (.iconst 0, 1) := by decide +kernel
theorem dX9_addHouse_2 : decode cX9_addHouse 2 = .ok (.putfield 35, 3) := by decide +kernel
theorem dX9_addHouse_5 : decode cX9_addHouse 5 = .ok (.iload_n 1, 1) := by decide +kernel
theorem dX9_addHouse_6 : decode cX9_addHouse 6 = .ok (.iconst 1, 1) := by decide +kernel
theorem dX9_addHouse_7 : decode cX9_addHouse 7 = .ok (.iconst 4, 1) := by decide +kernel
theorem dX9_addHouse_8 : decode cX9_addHouse 8 = .ok (.invokestatic 39, 3) := by decide +kernel
theorem dX9_addHouse_11 : decode cX9_addHouse 11 = .ok (.ifCond .ne 9, 3) := by decide +kernel
theorem dX9_addHouse_14 : decode cX9_addHouse 14 = .ok (.aload_n 0, 1) := by decide +kernel
theorem dX9_addHouse_15 : decode cX9_addHouse 15 = .ok (.iconst 1, 1) := by decide +kernel
theorem dX9_addHouse_16 : decode cX9_addHouse 16 = .ok (.invokevirtual 91, 3) := by decide +kernel
theorem dX9_addHouse_19 : decode cX9_addHouse 19 = .ok (.ireturn, 1) := by decide +kernel
theorem dX9_addHouse_20 : decode cX9_addHouse 20 = .ok (.aload_n 0, 1) := by decide +kernel
theorem dX9_addHouse_21 : decode cX9_addHouse 21 = .ok (.getfield 7, 3) := by decide +kernel
theorem dX9_addHouse_24 : decode cX9_addHouse 24 = .ok (.iconst 0, 1) := by decide +kernel
theorem dX9_addHouse_25 : decode cX9_addHouse 25 = .ok (.iaload, 1) := by decide +kernel
theorem dX9_addHouse_26 : decode cX9_addHouse 26 = .ok (.bipush 6, 2) := by decide +kernel
theorem dX9_addHouse_28 : decode cX9_addHouse 28 = .ok (.if_icmp .ne 9, 3) := by decide +kernel
theorem dX9_addHouse_31 : decode cX9_addHouse 31 = .ok (.aload_n 0, 1) := by decide +kernel
theorem dX9_addHouse_32 : decode cX9_addHouse 32 = .ok (.iconst 2, 1) := by decide +kernel
theorem dX9_addHouse_33 : decode cX9_addHouse 33 = .ok (.invokevirtual 91, 3) := by decide +kernel
theorem dX9_addHouse_36 : decode cX9_addHouse 36 = .ok (.ireturn, 1) := by decide +kernel
theorem dX9_addHouse_37 : decode cX9_addHouse 37 = .ok (.aload_n 0, 1) := by decide +kernel
theorem dX9_addHouse_38 : decode cX9_addHouse 38 = .ok (.invokevirtual 135, 3) := by decide +kernel
theorem dX9_addHouse_41 : decode cX9_addHouse 41 = .ok (.aload_n 0, 1) := by decide +kernel
theorem dX9_addHouse_42 : decode cX9_addHouse 42 = .ok (.getfield 7, 3) := by decide +kernel
theorem dX9_addHouse_45 : decode cX9_addHouse 45 = .ok (.aload_n 0, 1) := by decide +kernel
theorem dX9_addHouse_46 : decode cX9_addHouse 46 = .ok (.getfield 7, 3) := by decide +kernel
theorem dX9_addHouse_49 : decode cX9_addHouse 49 = .ok (.iconst 0, 1) := by decide +kernel
theorem dX9_addHouse_50 : decode cX9_addHouse 50 = .ok (.iaload, 1) := by decide +kernel
theorem dX9_addHouse_51 : decode cX9_addHouse 51 = .ok (.invokestatic 46, 3) := by decide +kernel
theorem dX9_addHouse_54 : decode cX9_addHouse 54 = .ok (.iload_n 1, 1) := by decide +kernel
theorem dX9_addHouse_55 : decode cX9_addHouse 55 = .ok (.iastore, 1) := by decide +kernel
theorem dX9_addHouse_56 : decode cX9_addHouse 56 = .ok (.aload_n 0, 1) := by decide +kernel
theorem dX9_addHouse_57 : decode cX9_addHouse 57 = .ok (.getfield 7, 3) := by decide +kernel
theorem dX9_addHouse_60 : decode cX9_addHouse 60 = .ok (.iconst 0, 1) := by decide +kernel
theorem dX9_addHouse_61 : decode cX9_addHouse 61 = .ok (.dup2, 1) := by decide +kernel
theorem dX9_addHouse_62 : decode cX9_addHouse 62 = .ok (.iaload, 1) := by decide +kernel
theorem dX9_addHouse_63 : decode cX9_addHouse 63 = .ok (.iconst 1, 1) := by decide +kernel
theorem dX9_addHouse_64 : decode cX9_addHouse 64 = .ok (.iadd, 1) := by decide +kernel
theorem dX9_addHouse_65 : decode cX9_addHouse 65 = .ok (.iastore, 1) := by decide +kernel
theorem dX9_addHouse_66 : decode cX9_addHouse 66 = .ok (.aload_n 0, 1) := by decide +kernel
theorem dX9_addHouse_67 : decode cX9_addHouse 67 = .ok (.getfield 7, 3) := by decide +kernel
theorem dX9_addHouse_70 : decode cX9_addHouse 70 = .ok (.iconst 0, 1) := by decide +kernel
theorem dX9_addHouse_71 : decode cX9_addHouse 71 = .ok (.iaload, 1) := by decide +kernel
theorem dX9_addHouse_72 : decode cX9_addHouse 72 = .ok (.iconst 1, 1) := by decide +kernel
theorem dX9_addHouse_73 : decode cX9_addHouse 73 = .ok (.isub, 1) := by decide +kernel
theorem dX9_addHouse_74 : decode cX9_addHouse 74 = .ok (.ireturn, 1) := by decide +kernel
theorem dX9_addVegetable_0 : decode cX9_addVegetable 0 = .ok (.aload_n 0, 1) := by decide +kernel
theorem dX9_addVegetable_1 : decode cX9_addVegetable 1 = .ok (.iconst 0, 1) := by decide +kernel
theorem dX9_addVegetable_2 : decode cX9_addVegetable 2 = .ok (.putfield 35, 3) := by decide +kernel
theorem dX9_addVegetable_5 : decode cX9_addVegetable 5 = .ok (.iload_n 1, 1) := by decide +kernel
theorem dX9_addVegetable_6 : decode cX9_addVegetable 6 = .ok (.iconst 0, 1) := by decide +kernel
theorem dX9_addVegetable_7 : decode cX9_addVegetable 7 = .ok (.bipush 40, 2) := by decide +kernel
theorem dX9_addVegetable_9 : decode cX9_addVegetable 9 = .ok (.invokestatic 39, 3) := by decide +kernel
theorem dX9_addVegetable_12 : decode cX9_addVegetable 12 = .ok (.ifCond .ne 9, 3) := by decide +kernel
theorem dX9_addVegetable_15 : decode cX9_addVegetable 15 = .ok (.aload_n 0, 1) := by decide +kernel
theorem dX9_addVegetable_16 : decode cX9_addVegetable 16 = .ok (.iconst 1, 1) := by decide +kernel
theorem dX9_addVegetable_17 : decode cX9_addVegetable 17 = .ok (.invokevirtual 91, 3) := by decide +kernel
theorem dX9_addVegetable_20 : decode cX9_addVegetable 20 = .ok (.ireturn, 1) := by decide +kernel
theorem dX9_addVegetable_21 : decode cX9_addVegetable 21 = .ok (.aload_n 0, 1) := by decide +kernel
theorem dX9_addVegetable_22 : decode cX9_addVegetable 22 = .ok (.getfield 7, 3) := by decide +kernel
theorem dX9_addVegetable_25 : decode cX9_addVegetable 25 = .ok (.iconst 1, 1) := by decide +kernel
theorem dX9_addVegetable_26 : decode cX9_addVegetable 26 = .ok (.iaload, 1) := by decide +kernel
theorem dX9_addVegetable_27 : decode cX9_addVegetable 27 = .ok (.iconst 5, 1) := by decide +kernel
theorem dX9_addVegetable_28 : decode cX9_addVegetable 28 = .ok (.if_icmp .ne 9, 3) := by decide +kernel
theorem dX9_addVegetable_31 : decode cX9_addVegetable 31 = .ok (.aload_n 0, 1) := by decide +kernel
theorem dX9_addVegetable_32 : decode cX9_addVegetable 32 = .ok (.iconst 2, 1) := by decide +kernel
theorem dX9_addVegetable_33 : decode cX9_addVegetable 33 = .ok (.invokevirtual 91, 3) := by decide +kernel
theorem dX9_addVegetable_36 : decode cX9_addVegetable 36 = .ok (.ireturn, 1) := by decide +kernel
theorem dX9_addVegetable_37 : decode cX9_addVegetable 37 = .ok (.aload_n 0, 1) := by decide +kernel
theorem dX9_addVegetable_38 : decode cX9_addVegetable 38 = .ok (.invokevirtual 135, 3) := by decide +kernel
theorem dX9_addVegetable_41 : decode cX9_addVegetable 41 = .ok (.aload_n 0, 1) := by decide +kernel
theorem dX9_addVegetable_42 : decode cX9_addVegetable 42 = .ok (.getfield 7, 3) := by decide +kernel
theorem dX9_addVegetable_45 : decode cX9_addVegetable 45 = .ok (.aload_n 0, 1) := by decide +kernel
theorem dX9_addVegetable_46 : decode cX9_addVegetable 46 = .ok (.getfield 7, 3) := by decide +kernel
theorem dX9_addVegetable_49 : decode cX9_addVegetable 49 = .ok (.iconst 1, 1) := by decide +kernel
theorem dX9_addVegetable_50 : decode cX9_addVegetable 50 = .ok (.iaload, 1) := by decide +kernel
theorem dX9_addVegetable_51 : decode cX9_addVegetable 51 = .ok (.invokestatic 61, 3) := by decide +kernel
theorem dX9_addVegetable_54 : decode cX9_addVegetable 54 = .ok (.iload_n 1, 1) := by decide +kernel
theorem dX9_addVegetable_55 : decode cX9_addVegetable 55 = .ok (.iastore, 1) := by decide +kernel
theorem dX9_addVegetable_56 : decode cX9_addVegetable 56 = .ok (.aload_n 0, 1) := by decide +kernel
theorem dX9_addVegetable_57 : decode cX9_addVegetable 57 = .ok (.getfield 7, 3) := by decide +kernel
theorem dX9_addVegetable_60 : decode cX9_addVegetable 60 = .ok (.iconst 1, 1) := by decide +kernel
theorem dX9_addVegetable_61 : decode cX9_addVegetable 61 = .ok (.dup2, 1) := by decide +kernel
theorem dX9_addVegetable_62 : decode cX9_addVegetable 62 = .ok (.iaload, 1) := by decide +kernel
theorem dX9_addVegetable_63 : decode cX9_addVegetable 63 = .ok (.iconst 1, 1) := by decide +kernel
theorem dX9_addVegetable_64 : decode cX9_addVegetable 64 = .ok (.iadd, 1) := by decide +kernel
theorem dX9_addVegetable_65 : decode cX9_addVegetable 65 = .ok (.iastore, 1) := by decide +kernel
theorem dX9_addVegetable_66 : decode cX9_addVegetable 66 = .ok (.aload_n 0, 1) := by decide +kernel
theorem dX9_addVegetable_67 : decode cX9_addVegetable 67 = .ok (.getfield 7, 3) := by decide +kernel
theorem dX9_addVegetable_70 : decode cX9_addVegetable 70 = .ok (.iconst 1, 1) := by decide +kernel
theorem dX9_addVegetable_71 : decode cX9_addVegetable 71 = .ok (.iaload, 1) := by decide +kernel
theorem dX9_addVegetable_72 : decode cX9_addVegetable 72 = .ok (.iconst 1, 1) := by decide +kernel
theorem dX9_addVegetable_73 : decode cX9_addVegetable 73 = .ok (.isub, 1) := by decide +kernel
theorem dX9_addVegetable_74 : decode cX9_addVegetable 74 = .ok (.ireturn, 1) := by decide +kernel
theorem dX9_puts_0 : decode cX9_puts 0 = .ok (.aload_n 0, 1) := by decide +kernel
theorem dX9_puts_1 : decode cX9_puts 1 = .ok (.getfield 7, 3) := by decide +kernel
theorem dX9_puts_4 : decode cX9_puts 4 = .ok (.iload_n 1, 1) := by decide +kernel
theorem dX9_puts_5 : decode cX9_puts 5 = .ok (.iaload, 1) := by decide +kernel
theorem dX9_puts_6 : decode cX9_puts 6 = .ok (.istore_n 3, 1) := by decide +kernel
theorem dX9_puts_7 : decode cX9_puts 7 = .ok (.aload_n 0, 1) := by decide +kernel
theorem dX9_puts_8 : decode cX9_puts 8 = .ok (.getfield 7, 3) := by decide +kernel
theorem dX9_puts_11 : decode cX9_puts 11 = .ok (.iload_n 1, 1) := by decide +kernel
theorem dX9_puts_12 : decode cX9_puts 12 = .ok (.iload_n 2, 1) := by decide +kernel
theorem dX9_puts_13 : decode cX9_puts 13 = .ok (.iastore, 1) := by decide +kernel
theorem dX9_puts_14 : decode cX9_puts 14 = .ok (.iload_n 3, 1) := by decide +kernel
theorem dX9_puts_15 : decode cX9_puts 15 = .ok (.ireturn, 1) := by decide +kernel
theorem dX9_setHarvest_0 : decode cX9_setHarvest 0 = .ok (.aload_n 0, 1) := by decide +kernel
theorem dX9_setHarvest_1 : decode cX9_setHarvest 1 = .ok (.iconst 0, 1) := by decide +kernel
theorem dX9_setHarvest_2 : decode cX9_setHarvest 2 = .ok (.putfield 35, 3) := by decide +kernel
theorem dX9_setHarvest_5 : decode cX9_setHarvest 5 = .ok (.aload_n 0, 1) := by decide +kernel
theorem dX9_setHarvest_6 : decode cX9_setHarvest 6 = .ok (.iload_n 1, 1) := by decide +kernel
theorem dX9_setHarvest_7 : decode cX9_setHarvest 7 = .ok (.invokevirtual 129, 3) := by decide +kernel
theorem dX9_setHarvest_10 : decode cX9_setHarvest 10 = .ok (.ifCond .ne 9, 3) := by decide +kernel
theorem dX9_setHarvest_13 : decode cX9_setHarvest 13 = .ok (.aload_n 0, 1) := by decide +kernel
theorem dX9_setHarvest_14 : decode cX9_setHarvest 14 = .ok (.iconst 1, 1) := by decide +kernel
theorem dX9_setHarvest_15 : decode cX9_setHarvest 15 = .ok (.invokevirtual 91, 3) := by decide +kernel
theorem dX9_setHarvest_18 : decode cX9_setHarvest 18 = .ok (.ireturn, 1) := by decide +kernel
theorem dX9_setHarvest_19 : decode cX9_setHarvest 19 = .ok (.iload_n 2, 1) := by decide +kernel
theorem dX9_setHarvest_20 : decode cX9_setHarvest 20 = .ok (.iconst 0, 1) := by decide +kernel
theorem dX9_setHarvest_21 : decode cX9_setHarvest 21 = .ok (.bipush 40, 2) := by decide +kernel
theorem dX9_setHarvest_23 : decode cX9_setHarvest 23 = .ok (.invokestatic 39, 3) := by decide +kernel
theorem dX9_setHarvest_26 : decode cX9_setHarvest 26 = .ok (.ifCond .ne 9, 3) := by decide +kernel
theorem dX9_setHarvest_29 : decode cX9_setHarvest 29 = .ok (.aload_n 0, 1) := by decide +kernel
theorem dX9_setHarvest_30 : decode cX9_setHarvest 30 = .ok (.iconst 2, 1) := by decide +kernel
theorem dX9_setHarvest_31 : decode cX9_setHarvest 31 = .ok (.invokevirtual 91, 3) := by decide +kernel
theorem dX9_setHarvest_34 : decode cX9_setHarvest 34 = .ok (.ireturn, 1) := by decide +kernel
theorem dX9_setHarvest_35 : decode cX9_setHarvest 35 = .ok (.aload_n 0, 1) := by decide +kernel
theorem dX9_setHarvest_36 : decode cX9_setHarvest 36 = .ok (.invokevirtual 135, 3) := by decide +kernel
theorem dX9_setHarvest_39 : decode cX9_setHarvest 39 = .ok (.aload_n 0, 1) := by decide +kernel
theorem dX9_setHarvest_40 : decode cX9_setHarvest 40 = .ok (.iload_n 1, 1) := by decide +kernel
theorem dX9_setHarvest_41 : decode cX9_setHarvest 41 = .ok (.invokestatic 61, 3) := by decide +kernel
theorem dX9_setHarvest_44 : decode cX9_setHarvest 44 = .ok (.iload_n 2, 1) := by decide +kernel
theorem dX9_setHarvest_45 : decode cX9_setHarvest 45 = .ok (.invokevirtual 138, 3) := by decide +kernel
theorem dX9_setHarvest_48 : decode cX9_setHarvest 48 = .ok (.ireturn, 1) := by decide +kernel
theorem dX9_setLiking_0 : decode cX9_setLiking 0 = .ok (.aload_n 0, 1) := by decide +kernel
theorem dX9_setLiking_1 : decode cX9_setLiking 1 = .ok (.iconst 0, 1) := by decide +kernel
theorem dX9_setLiking_2 : decode cX9_setLiking 2 = .ok (.putfield 35, 3) := by decide +kernel
theorem dX9_setLiking_5 : decode cX9_setLiking 5 = .ok (.aload_n 0, 1) := by decide +kernel
theorem dX9_setLiking_6 : decode cX9_setLiking 6 = .ok (.iload_n 1, 1) := by decide +kernel
theorem dX9_setLiking_7 : decode cX9_setLiking 7 = .ok (.invokevirtual 126, 3) := by decide +kernel
theorem dX9_setLiking_10 : decode cX9_setLiking 10 = .ok (.ifCond .eq 11, 3) := by decide +kernel
theorem dX9_setLiking_13 : decode cX9_setLiking 13 = .ok (.aload_n 0, 1) := by decide +kernel
theorem dX9_setLiking_14 : decode cX9_setLiking 14 = .ok (.iload_n 2, 1) := by decide +kernel
theorem dX9_setLiking_15 : decode cX9_setLiking 15 = .ok (.invokevirtual 129, 3) := by decide +kernel
theorem dX9_setLiking_18 : decode cX9_setLiking 18 = .ok (.ifCond .ne 9, 3) := by decide +kernel
theorem dX9_setLiking_21 : decode cX9_setLiking 21 = .ok (.aload_n 0, 1) := by decide +kernel
theorem dX9_setLiking_22 : decode cX9_setLiking 22 = .ok (.iconst 1, 1) := by decide +kernel
theorem dX9_setLiking_23 : decode cX9_setLiking 23 = .ok (.invokevirtual 91, 3) := by decide +kernel
theorem dX9_setLiking_26 : decode cX9_setLiking 26 = .ok (.ireturn, 1) := by decide +kernel
theorem dX9_setLiking_27 : decode cX9_setLiking 27 = .ok (.iload_n 3, 1) := by decide +kernel
theorem dX9_setLiking_28 : decode cX9_setLiking 28 = .ok (.iconst 0, 1) := by decide +kernel
theorem dX9_setLiking_29 : decode cX9_setLiking 29 = .ok (.bipush 9, 2) := by decide +kernel
theorem dX9_setLiking_31 : decode cX9_setLiking 31 = .ok (.invokestatic 39, 3) := by decide +kernel
theorem dX9_setLiking_34 : decode cX9_setLiking 34 = .ok (.ifCond .ne 9, 3) := by decide +kernel
theorem dX9_setLiking_37 : decode cX9_setLiking 37 = .ok (.aload_n 0, 1) := by decide +kernel
theorem dX9_setLiking_38 : decode cX9_setLiking 38 = .ok (.iconst 2, 1) := by decide +kernel
theorem dX9_setLiking_39 : decode cX9_setLiking 39 = .ok (.invokevirtual 91, 3) := by decide +kernel
theorem dX9_setLiking_42 : decode cX9_setLiking 42 = .ok (.ireturn, 1) := by decide +kernel
theorem dX9_setLiking_43 : decode cX9_setLiking 43 = .ok (.aload_n 0, 1) := by decide +kernel
theorem dX9_setLiking_44 : decode cX9_setLiking 44 = .ok (.invokevirtual 135, 3) := by decide +kernel
theorem dX9_setLiking_47 : decode cX9_setLiking 47 = .ok (.aload_n 0, 1) := by decide +kernel
theorem dX9_setLiking_48 : decode cX9_setLiking 48 = .ok (.iload_n 1, 1) := by decide +kernel
theorem dX9_setLiking_49 : decode cX9_setLiking 49 = .ok (.iload_n 2, 1) := by decide +kernel
theorem dX9_setLiking_50 : decode cX9_setLiking 50 = .ok (.invokestatic 54, 3) := by decide +kernel
theorem dX9_setLiking_53 : decode cX9_setLiking 53 = .ok (.iload_n 3, 1) := by decide +kernel
theorem dX9_setLiking_54 : decode cX9_setLiking 54 = .ok (.invokevirtual 138, 3) := by decide +kernel
theorem dX9_setLiking_57 : decode cX9_setLiking 57 = .ok (.ireturn, 1) := by decide +kernel
theorem dX9_skip_0 : decode cX9_skip 0 = .ok (.aload_n 0, 1) := by decide +kernel
theorem dX9_skip_1 : decode cX9_skip 1 = .ok (.iconst 0, 1) := by decide +kernel
theorem dX9_skip_2 : decode cX9_skip 2 = .ok (.putfield 35, 3) := by decide +kernel
theorem dX9_skip_5 : decode cX9_skip 5 = .ok (.aload_n 0, 1) := by decide +kernel
theorem dX9_skip_6 : decode cX9_skip 6 = .ok (.iload_n 1, 1) := by decide +kernel
theorem dX9_skip_7 : decode cX9_skip 7 = .ok (.invokevirtual 126, 3) := by decide +kernel
theorem dX9_skip_10 : decode cX9_skip 10 = .ok (.ifCond .ne 9, 3) := by decide +kernel
theorem dX9_skip_13 : decode cX9_skip 13 = .ok (.aload_n 0, 1) := by decide +kernel
theorem dX9_skip_14 : decode cX9_skip 14 = .ok (.iconst 1, 1) := by decide +kernel
theorem dX9_skip_15 : decode cX9_skip 15 = .ok (.invokevirtual 91, 3) := by decide +kernel
theorem dX9_skip_18 : decode cX9_skip 18 = .ok (.ireturn, 1) := by decide +kernel
theorem dX9_skip_19 : decode cX9_skip 19 = .ok (.aload_n 0, 1) := by decide +kernel
theorem dX9_skip_20 : decode cX9_skip 20 = .ok (.invokevirtual 135, 3) := by decide +kernel
theorem dX9_skip_23 : decode cX9_skip 23 = .ok (.aload_n 0, 1) := by decide +kernel
theorem dX9_skip_24 : decode cX9_skip 24 = .ok (.getfield 7, 3) := by decide +kernel
theorem dX9_skip_27 : decode cX9_skip 27 = .ok (.iload_n 1, 1) := by decide +kernel
theorem dX9_skip_28 : decode cX9_skip 28 = .ok (.invokestatic 46, 3) := by decide +kernel
theorem dX9_skip_31 : decode cX9_skip 31 = .ok (.iconst 3, 1) := by decide +kernel
theorem dX9_skip_32 : decode cX9_skip 32 = .ok (.iadd, 1) := by decide +kernel
theorem dX9_skip_33 : decode cX9_skip 33 = .ok (.iload_n 2, 1) := by decide +kernel
theorem dX9_skip_34 : decode cX9_skip 34 = .ok (.ifCond .eq 7, 3) := by decide +kernel
theorem dX9_skip_37 : decode cX9_skip 37 = .ok (.iconst 1, 1) := by decide +kernel
theorem dX9_skip_38 : decode cX9_skip 38 = .ok (.goto 4, 3) := by decide +kernel
theorem dX9_skip_41 : decode cX9_skip 41 = .ok (.iconst 0, 1) := by decide +kernel
theorem dX9_skip_42 : decode cX9_skip 42 = .ok (.iastore, 1) := by decide +kernel
theorem dX9_skip_43 : decode cX9_skip 43 = .ok (.aload_n 0, 1) := by decide +kernel
theorem dX9_skip_44 : decode cX9_skip 44 = .ok (.invokevirtual 78, 3) := by decide +kernel
theorem dX9_skip_47 : decode cX9_skip 47 = .ok (.ireturn, 1) := by decide +kernel
theorem dX9_pack_0 : decode cX9_pack 0 = .ok (.aload_n 0, 1) := by decide +kernel
theorem dX9_pack_1 : decode cX9_pack 1 = .ok (.iconst 0, 1) := by decide +kernel
theorem dX9_pack_2 : decode cX9_pack 2 = .ok (.putfield 35, 3) := by decide +kernel
theorem dX9_pack_5 : decode cX9_pack 5 = .ok (.aload_n 0, 1) := by decide +kernel
theorem dX9_pack_6 : decode cX9_pack 6 = .ok (.invokevirtual 135, 3) := by decide +kernel
theorem dX9_pack_9 : decode cX9_pack 9 = .ok (.aload_n 0, 1) := by decide +kernel
theorem dX9_pack_10 : decode cX9_pack 10 = .ok (.invokevirtual 141, 3) := by decide +kernel
theorem dX9_pack_13 : decode cX9_pack 13 = .ok (.ireturn, 1) := by decide +kernel
theorem dX9_returnCrates_0 : decode cX9_returnCrates 0 = .ok (.aload_n 0, 1) := by decide +kernel
theorem dX9_returnCrates_1 : decode cX9_returnCrates 1 = .ok (.iconst 0, 1) := by decide +kernel
theorem dX9_returnCrates_2 : decode cX9_returnCrates 2 = .ok (.putfield 35, 3) := by decide +kernel
theorem dX9_returnCrates_5 : decode cX9_returnCrates 5 = .ok (.aload_n 0, 1) := by decide +kernel
theorem dX9_returnCrates_6 : decode cX9_returnCrates 6 = .ok (.iload_n 1, 1) := by decide +kernel
theorem dX9_returnCrates_7 : decode cX9_returnCrates 7 = .ok (.invokevirtual 126, 3) := by decide +kernel
theorem dX9_returnCrates_10 : decode cX9_returnCrates 10 = .ok (.ifCond .ne 9, 3) := by decide +kernel
theorem dX9_returnCrates_13 : decode cX9_returnCrates 13 = .ok (.aload_n 0, 1) := by decide +kernel
theorem dX9_returnCrates_14 : decode cX9_returnCrates 14 = .ok (.iconst 1, 1) := by decide +kernel
theorem dX9_returnCrates_15 : decode cX9_returnCrates 15 = .ok (.invokevirtual 91, 3) := by decide +kernel
theorem dX9_returnCrates_18 : decode cX9_returnCrates 18 = .ok (.ireturn, 1) := by decide +kernel
theorem dX9_returnCrates_19 : decode cX9_returnCrates 19 = .ok (.iload_n 2, 1) := by decide +kernel
theorem dX9_returnCrates_20 : decode cX9_returnCrates 20 = .ok (.iconst 1, 1) := by decide +kernel
theorem dX9_returnCrates_21 : decode cX9_returnCrates 21 = .ok (.bipush 9, 2) := by decide +kernel
theorem dX9_returnCrates_23 : decode cX9_returnCrates 23 = .ok (.invokestatic 39, 3) := by decide +kernel
theorem dX9_returnCrates_26 : decode cX9_returnCrates 26 = .ok (.ifCond .ne 9, 3) := by decide +kernel
theorem dX9_returnCrates_29 : decode cX9_returnCrates 29 = .ok (.aload_n 0, 1) := by decide +kernel
theorem dX9_returnCrates_30 : decode cX9_returnCrates 30 = .ok (.iconst 2, 1) := by decide +kernel
theorem dX9_returnCrates_31 : decode cX9_returnCrates 31 = .ok (.invokevirtual 91, 3) := by decide +kernel
theorem dX9_returnCrates_34 : decode cX9_returnCrates 34 = .ok (.ireturn, 1) := by decide +kernel
theorem dX9_returnCrates_35 : decode cX9_returnCrates 35 = .ok (.aload_n 0, 1) := by decide +kernel
theorem dX9_returnCrates_36 : decode cX9_returnCrates 36 = .ok (.getfield 7, 3) := by decide +kernel
theorem dX9_returnCrates_39 : decode cX9_returnCrates 39 = .ok (.iload_n 1, 1) := by decide +kernel
theorem dX9_returnCrates_40 : decode cX9_returnCrates 40 = .ok (.invokestatic 46, 3) := by decide +kernel
theorem dX9_returnCrates_43 : decode cX9_returnCrates 43 = .ok (.iconst 1, 1) := by decide +kernel
theorem dX9_returnCrates_44 : decode cX9_returnCrates 44 = .ok (.iadd, 1) := by decide +kernel
theorem dX9_returnCrates_45 : decode cX9_returnCrates 45 = .ok (.iaload, 1) := by decide +kernel
theorem dX9_returnCrates_46 : decode cX9_returnCrates 46 = .ok (.iload_n 2, 1) := by decide +kernel
theorem dX9_returnCrates_47 : decode cX9_returnCrates 47 = .ok (.if_icmp .ge 9, 3) := by decide +kernel
theorem dX9_returnCrates_50 : decode cX9_returnCrates 50 = .ok (.aload_n 0, 1) := by decide +kernel
theorem dX9_returnCrates_51 : decode cX9_returnCrates 51 = .ok (.iconst 3, 1) := by decide +kernel
theorem dX9_returnCrates_52 : decode cX9_returnCrates 52 = .ok (.invokevirtual 91, 3) := by decide +kernel
theorem dX9_returnCrates_55 : decode cX9_returnCrates 55 = .ok (.ireturn, 1) := by decide +kernel
theorem dX9_returnCrates_56 : decode cX9_returnCrates 56 = .ok (.aload_n 0, 1) := by decide +kernel
theorem dX9_returnCrates_57 : decode cX9_returnCrates 57 = .ok (.invokevirtual 135, 3) := by decide +kernel
theorem dX9_returnCrates_60 : decode cX9_returnCrates 60 = .ok (.aload_n 0, 1) := by decide +kernel
theorem dX9_returnCrates_61 : decode cX9_returnCrates 61 = .ok (.getfield 7, 3) := by decide +kernel
theorem dX9_returnCrates_64 : decode cX9_returnCrates 64 = .ok (.iload_n 1, 1) := by decide +kernel
theorem dX9_returnCrates_65 : decode cX9_returnCrates 65 = .ok (.invokestatic 46, 3) := by decide +kernel
theorem dX9_returnCrates_68 : decode cX9_returnCrates 68 = .ok (.iconst 1, 1) := by decide +kernel
theorem dX9_returnCrates_69 : decode cX9_returnCrates 69 = .ok (.iadd, 1) := by decide +kernel
theorem dX9_returnCrates_70 : decode cX9_returnCrates 70 = .ok (.dup2, 1) := by decide +kernel
theorem dX9_returnCrates_71 : decode cX9_returnCrates 71 = .ok (.iaload, 1) := by decide +kernel
theorem dX9_returnCrates_72 : decode cX9_returnCrates 72 = .ok (.iload_n 2, 1) := by decide +kernel
theorem dX9_returnCrates_73 : decode cX9_returnCrates 73 = .ok (.isub, 1) := by decide +kernel
theorem dX9_returnCrates_74 : decode cX9_returnCrates 74 = .ok (.iastore, 1) := by decide +kernel
theorem dX9_returnCrates_75 : decode cX9_returnCrates 75 = .ok (.aload_n 0, 1) := by decide +kernel
theorem dX9_returnCrates_76 : decode cX9_returnCrates 76 = .ok (.getfield 7, 3) := by decide +kernel
theorem dX9_returnCrates_79 : decode cX9_returnCrates 79 = .ok (.iload_n 1, 1) := by decide +kernel
theorem dX9_returnCrates_80 : decode cX9_returnCrates 80 = .ok (.invokestatic 46, 3) := by decide +kernel
theorem dX9_returnCrates_83 : decode cX9_returnCrates 83 = .ok (.iconst 1, 1) := by decide +kernel
theorem dX9_returnCrates_84 : decode cX9_returnCrates 84 = .ok (.iadd, 1) := by decide +kernel
theorem dX9_returnCrates_85 : decode cX9_returnCrates 85 = .ok (.iaload, 1) := by decide +kernel
theorem dX9_returnCrates_86 : decode cX9_returnCrates 86 = .ok (.ireturn, 1) := by decide +kernel
theorem dX9_gives_0 : decode cX9_gives 0 = .ok (.aload_n 0, 1) := by decide +kernel
theorem dX9_gives_1 : decode cX9_gives 1 = .ok (.getfield 7, 3) := by decide +kernel
theorem dX9_gives_4 : decode cX9_gives 4 = .ok (.iload_n 1, 1) := by decide +kernel
theorem dX9_gives_5 : decode cX9_gives 5 = .ok (.iload_n 2, 1) := by decide +kernel
theorem dX9_gives_6 : decode cX9_gives 6 = .ok (.invokestatic 64, 3) := by decide +kernel
theorem dX9_gives_9 : decode cX9_gives 9 = .ok (.dup2, 1) := by decide +kernel
theorem dX9_gives_10 : decode cX9_gives 10 = .ok (.iaload, 1) := by decide +kernel
theorem dX9_gives_11 : decode cX9_gives 11 = .ok (.iload_n 3, 1) := by decide +kernel
theorem dX9_gives_12 : decode cX9_gives 12 = .ok (.isub, 1) := by decide +kernel
theorem dX9_gives_13 : decode cX9_gives 13 = .ok (.iastore, 1) := by decide +kernel
theorem dX9_gives_14 : decode cX9_gives 14 = .ok (.aload_n 0, 1) := by decide +kernel
theorem dX9_gives_15 : decode cX9_gives 15 = .ok (.getfield 7, 3) := by decide +kernel
theorem dX9_gives_18 : decode cX9_gives 18 = .ok (.iconst 4, 1) := by decide +kernel
theorem dX9_gives_19 : decode cX9_gives 19 = .ok (.dup2, 1) := by decide +kernel
theorem dX9_gives_20 : decode cX9_gives 20 = .ok (.iaload, 1) := by decide +kernel
theorem dX9_gives_21 : decode cX9_gives 21 = .ok (.iload_n 3, 1) := by decide +kernel
theorem dX9_gives_22 : decode cX9_gives 22 = .ok (.iadd, 1) := by decide +kernel
theorem dX9_gives_23 : decode cX9_gives 23 = .ok (.iastore, 1) := by decide +kernel
theorem dX9_gives_24 : decode cX9_gives 24 = .ok (.aload_n 0, 1) := by decide +kernel
theorem dX9_gives_25 : decode cX9_gives 25 = .ok (.getfield 7, 3) := by decide +kernel
theorem dX9_gives_28 : decode cX9_gives 28 = .ok (.iload_n 1, 1) := by decide +kernel
theorem dX9_gives_29 : decode cX9_gives 29 = .ok (.iload_n 2, 1) := by decide +kernel
theorem dX9_gives_30 : decode cX9_gives 30 = .ok (.invokestatic 64, 3) := by decide +kernel
theorem dX9_gives_33 : decode cX9_gives 33 = .ok (.iaload, 1) := by decide +kernel
theorem dX9_gives_34 : decode cX9_gives 34 = .ok (.ireturn, 1) := by decide +kernel
theorem dX9_give_0 : decode cX9_give 0 = .ok (.aload_n 0, 1) := by decide +kernel
theorem dX9_give_1 : decode cX9_give 1 = .ok (.iconst 0, 1) := by decide +kernel
theorem dX9_give_2 : decode cX9_give 2 = .ok (.putfield 35, 3) := by decide +kernel
theorem dX9_give_5 : decode cX9_give 5 = .ok (.aload_n 0, 1) := by decide +kernel
theorem dX9_give_6 : decode cX9_give 6 = .ok (.iload_n 1, 1) := by decide +kernel
theorem dX9_give_7 : decode cX9_give 7 = .ok (.invokevirtual 126, 3) := by decide +kernel
theorem dX9_give_10 : decode cX9_give 10 = .ok (.ifCond .eq 11, 3) := by decide +kernel
theorem dX9_give_13 : decode cX9_give 13 = .ok (.aload_n 0, 1) := by decide +kernel
theorem dX9_give_14 : decode cX9_give 14 = .ok (.iload_n 2, 1) := by decide +kernel
theorem dX9_give_15 : decode cX9_give 15 = .ok (.invokevirtual 129, 3) := by decide +kernel
theorem dX9_give_18 : decode cX9_give 18 = .ok (.ifCond .ne 9, 3) := by decide +kernel
theorem dX9_give_21 : decode cX9_give 21 = .ok (.aload_n 0, 1) := by decide +kernel
theorem dX9_give_22 : decode cX9_give 22 = .ok (.iconst 1, 1) := by decide +kernel
theorem dX9_give_23 : decode cX9_give 23 = .ok (.invokevirtual 91, 3) := by decide +kernel
theorem dX9_give_26 : decode cX9_give 26 = .ok (.ireturn, 1) := by decide +kernel
theorem dX9_give_27 : decode cX9_give 27 = .ok (.iload_n 3, 1) := by decide +kernel
theorem dX9_give_28 : decode cX9_give 28 = .ok (.iconst 1, 1) := by decide +kernel
theorem dX9_give_29 : decode cX9_give 29 = .ok (.bipush 40, 2) := by decide +kernel
theorem dX9_give_31 : decode cX9_give 31 = .ok (.invokestatic 39, 3) := by decide +kernel
theorem dX9_give_34 : decode cX9_give 34 = .ok (.ifCond .ne 9, 3) := by decide +kernel
theorem dX9_give_37 : decode cX9_give 37 = .ok (.aload_n 0, 1) := by decide +kernel
theorem dX9_give_38 : decode cX9_give 38 = .ok (.iconst 2, 1) := by decide +kernel
theorem dX9_give_39 : decode cX9_give 39 = .ok (.invokevirtual 91, 3) := by decide +kernel
theorem dX9_give_42 : decode cX9_give 42 = .ok (.ireturn, 1) := by decide +kernel
theorem dX9_give_43 : decode cX9_give 43 = .ok (.aload_n 0, 1) := by decide +kernel
theorem dX9_give_44 : decode cX9_give 44 = .ok (.getfield 7, 3) := by decide +kernel
theorem dX9_give_47 : decode cX9_give 47 = .ok (.iload_n 1, 1) := by decide +kernel
theorem dX9_give_48 : decode cX9_give 48 = .ok (.iload_n 2, 1) := by decide +kernel
theorem dX9_give_49 : decode cX9_give 49 = .ok (.invokestatic 64, 3) := by decide +kernel
theorem dX9_give_52 : decode cX9_give 52 = .ok (.iaload, 1) := by decide +kernel
theorem dX9_give_53 : decode cX9_give 53 = .ok (.iload_n 3, 1) := by decide +kernel
theorem dX9_give_54 : decode cX9_give 54 = .ok (.if_icmp .ge 9, 3) := by decide +kernel
theorem dX9_give_57 : decode cX9_give 57 = .ok (.aload_n 0, 1) := by decide +kernel
theorem dX9_give_58 : decode cX9_give 58 = .ok (.iconst 3, 1) := by decide +kernel
theorem dX9_give_59 : decode cX9_give 59 = .ok (.invokevirtual 91, 3) := by decide +kernel
theorem dX9_give_62 : decode cX9_give 62 = .ok (.ireturn, 1) := by decide +kernel
theorem dX9_give_63 : decode cX9_give 63 = .ok (.aload_n 0, 1) := by decide +kernel
theorem dX9_give_64 : decode cX9_give 64 = .ok (.invokevirtual 135, 3) := by decide +kernel
theorem dX9_give_67 : decode cX9_give 67 = .ok (.aload_n 0, 1) := by decide +kernel
theorem dX9_give_68 : decode cX9_give 68 = .ok (.iload_n 1, 1) := by decide +kernel
theorem dX9_give_69 : decode cX9_give 69 = .ok (.iload_n 2, 1) := by decide +kernel
theorem dX9_give_70 : decode cX9_give 70 = .ok (.iload_n 3, 1) := by decide +kernel
theorem dX9_give_71 : decode cX9_give 71 = .ok (.invokevirtual 144, 3) := by decide +kernel
theorem dX9_give_74 : decode cX9_give 74 = .ok (.ireturn, 1) := by decide +kernel
theorem dX9_undo_0 : decode cX9_undo 0 = .ok (.aload_n 0, 1) := by decide +kernel
theorem dX9_undo_1 : decode cX9_undo 1 = .ok (.iconst 0, 1) := by decide +kernel
theorem dX9_undo_2 : decode cX9_undo 2 = .ok (.putfield 35, 3) := by decide +kernel
theorem dX9_undo_5 : decode cX9_undo 5 = .ok (.aload_n 0, 1) := by decide +kernel
theorem dX9_undo_6 : decode cX9_undo 6 = .ok (.getfield 43, 3) := by decide +kernel
theorem dX9_undo_9 : decode cX9_undo 9 = .ok (.ifCond .ne 9, 3) := by decide +kernel
theorem dX9_undo_12 : decode cX9_undo 12 = .ok (.aload_n 0, 1) := by decide +kernel
theorem dX9_undo_13 : decode cX9_undo 13 = .ok (.iconst 1, 1) := by decide +kernel
theorem dX9_undo_14 : decode cX9_undo 14 = .ok (.invokevirtual 91, 3) := by decide +kernel
theorem dX9_undo_17 : decode cX9_undo 17 = .ok (.ireturn, 1) := by decide +kernel
theorem dX9_undo_18 : decode cX9_undo 18 = .ok (.aload_n 0, 1) := by decide +kernel
theorem dX9_undo_19 : decode cX9_undo 19 = .ok (.dup, 1) := by decide +kernel
theorem dX9_undo_20 : decode cX9_undo 20 = .ok (.getfield 43, 3) := by decide +kernel
theorem dX9_undo_23 : decode cX9_undo 23 = .ok (.iconst 1, 1) := by decide +kernel
theorem dX9_undo_24 : decode cX9_undo 24 = .ok (.isub, 1) := by decide +kernel
theorem dX9_undo_25 : decode cX9_undo 25 = .ok (.putfield 43, 3) := by decide +kernel
theorem dX9_undo_28 : decode cX9_undo 28 = .ok (.iconst 0, 1) := by decide +kernel
theorem dX9_undo_29 : decode cX9_undo 29 = .ok (.istore_n 1, 1) := by decide +kernel
theorem dX9_undo_30 : decode cX9_undo 30 = .ok (.iload_n 1, 1) := by decide +kernel
theorem dX9_undo_31 : decode cX9_undo 31 = .ok (.bipush 100, 2) := by decide +kernel
theorem dX9_undo_33 : decode cX9_undo 33 = .ok (.if_icmp .ge 29, 3) := by decide +kernel
theorem dX9_undo_36 : decode cX9_undo 36 = .ok (.aload_n 0, 1) := by decide +kernel
theorem dX9_undo_37 : decode cX9_undo 37 = .ok (.getfield 7, 3) := by decide +kernel
theorem dX9_undo_40 : decode cX9_undo 40 = .ok (.iload_n 1, 1) := by decide +kernel
theorem dX9_undo_41 : decode cX9_undo 41 = .ok (.aload_n 0, 1) := by decide +kernel
theorem dX9_undo_42 : decode cX9_undo 42 = .ok (.getfield 16, 3) := by decide +kernel
theorem dX9_undo_45 : decode cX9_undo 45 = .ok (.bipush 100, 2) := by decide +kernel
theorem dX9_undo_47 : decode cX9_undo 47 = .ok (.aload_n 0, 1) := by decide +kernel
theorem dX9_undo_48 : decode cX9_undo 48 = .ok (.getfield 43, 3) := by decide +kernel
theorem dX9_undo_51 : decode cX9_undo 51 = .ok (.imul, 1) := by decide +kernel
theorem dX9_undo_52 : decode cX9_undo 52 = .ok (.iload_n 1, 1) := by decide +kernel
theorem dX9_undo_53 : decode cX9_undo 53 = .ok (.iadd, 1) := by decide +kernel
theorem dX9_undo_54 : decode cX9_undo 54 = .ok (.iaload, 1) := by decide +kernel
theorem dX9_undo_55 : decode cX9_undo 55 = .ok (.iastore, 1) := by decide +kernel
theorem dX9_undo_56 : decode cX9_undo 56 = .ok (.iinc 1 1, 3) := by decide +kernel
theorem dX9_undo_59 : decode cX9_undo 59 = .ok (.goto (-29), 3) := by decide +kernel
theorem dX9_undo_62 : decode cX9_undo 62 = .ok (.aload_n 0, 1) := by decide +kernel
theorem dX9_undo_63 : decode cX9_undo 63 = .ok (.getfield 43, 3) := by decide +kernel
theorem dX9_undo_66 : decode cX9_undo 66 = .ok (.ireturn, 1) := by decide +kernel
theorem dX9_wouldGet_0 : decode cX9_wouldGet 0 = .ok (.aload_n 0, 1) := by decide +kernel
theorem dX9_wouldGet_1 : decode cX9_wouldGet 1 = .ok (.iconst 0, 1) := by decide +kernel
theorem dX9_wouldGet_2 : decode cX9_wouldGet 2 = .ok (.putfield 35, 3) := by decide +kernel
theorem dX9_wouldGet_5 : decode cX9_wouldGet 5 = .ok (.aload_n 0, 1) := by decide +kernel
theorem dX9_wouldGet_6 : decode cX9_wouldGet 6 = .ok (.iload_n 1, 1) := by decide +kernel
theorem dX9_wouldGet_7 : decode cX9_wouldGet 7 = .ok (.invokevirtual 126, 3) := by decide +kernel
theorem dX9_wouldGet_10 : decode cX9_wouldGet 10 = .ok (.ifCond .eq 11, 3) := by decide +kernel
theorem dX9_wouldGet_13 : decode cX9_wouldGet 13 = .ok (.aload_n 0, 1) := by decide +kernel
theorem dX9_wouldGet_14 : decode cX9_wouldGet 14 = .ok (.iload_n 2, 1) := by decide +kernel
theorem dX9_wouldGet_15 : decode cX9_wouldGet 15 = .ok (.invokevirtual 129, 3) := by decide +kernel
theorem dX9_wouldGet_18 : decode cX9_wouldGet 18 = .ok (.ifCond .ne 9, 3) := by decide +kernel
theorem dX9_wouldGet_21 : decode cX9_wouldGet 21 = .ok (.aload_n 0, 1) := by decide +kernel
theorem dX9_wouldGet_22 : decode cX9_wouldGet 22 = .ok (.iconst 1, 1) := by decide +kernel
theorem dX9_wouldGet_23 : decode cX9_wouldGet 23 = .ok (.invokevirtual 91, 3) := by decide +kernel
theorem dX9_wouldGet_26 : decode cX9_wouldGet 26 = .ok (.ireturn, 1) := by decide +kernel
theorem dX9_wouldGet_27 : decode cX9_wouldGet 27 = .ok (.aload_n 0, 1) := by decide +kernel
theorem dX9_wouldGet_28 : decode cX9_wouldGet 28 = .ok (.invokevirtual 148, 3) := by decide +kernel
theorem dX9_wouldGet_31 : decode cX9_wouldGet 31 = .ok (.aload_n 0, 1) := by decide +kernel
theorem dX9_wouldGet_32 : decode cX9_wouldGet 32 = .ok (.invokevirtual 141, 3) := by decide +kernel
theorem dX9_wouldGet_35 : decode cX9_wouldGet 35 = .ok (.pop, 1) := by decide +kernel
theorem dX9_wouldGet_36 : decode cX9_wouldGet 36 = .ok (.aload_n 0, 1) := by decide +kernel
theorem dX9_wouldGet_37 : decode cX9_wouldGet 37 = .ok (.getfield 7, 3) := by decide +kernel
theorem dX9_wouldGet_40 : decode cX9_wouldGet 40 = .ok (.iload_n 1, 1) := by decide +kernel
theorem dX9_wouldGet_41 : decode cX9_wouldGet 41 = .ok (.iload_n 2, 1) := by decide +kernel
theorem dX9_wouldGet_42 : decode cX9_wouldGet 42 = .ok (.invokestatic 64, 3) := by decide +kernel
theorem dX9_wouldGet_45 : decode cX9_wouldGet 45 = .ok (.iaload, 1) := by decide +kernel
theorem dX9_wouldGet_46 : decode cX9_wouldGet 46 = .ok (.istore_n 3, 1) := by decide +kernel
theorem dX9_wouldGet_47 : decode cX9_wouldGet 47 = .ok (.aload_n 0, 1) := by decide +kernel
theorem dX9_wouldGet_48 : decode cX9_wouldGet 48 = .ok (.invokevirtual 151, 3) := by decide +kernel
theorem dX9_wouldGet_51 : decode cX9_wouldGet 51 = .ok (.iload_n 3, 1) := by decide +kernel
theorem dX9_wouldGet_52 : decode cX9_wouldGet 52 = .ok (.ireturn, 1) := by decide +kernel
theorem dX9_wouldBe_0 : decode cX9_wouldBe 0 = .ok (.aload_n 0, 1) := by decide +kernel
theorem dX9_wouldBe_1 : decode cX9_wouldBe 1 = .ok (.iconst 0, 1) := by decide +kernel
theorem dX9_wouldBe_2 : decode cX9_wouldBe 2 = .ok (.putfield 35, 3) := by decide +kernel
theorem dX9_wouldBe_5 : decode cX9_wouldBe 5 = .ok (.aload_n 0, 1) := by decide +kernel
theorem dX9_wouldBe_6 : decode cX9_wouldBe 6 = .ok (.iload_n 1, 1) := by decide +kernel
theorem dX9_wouldBe_7 : decode cX9_wouldBe 7 = .ok (.invokevirtual 126, 3) := by decide +kernel
theorem dX9_wouldBe_10 : decode cX9_wouldBe 10 = .ok (.ifCond .ne 9, 3) := by decide +kernel
theorem dX9_wouldBe_13 : decode cX9_wouldBe 13 = .ok (.aload_n 0, 1) := by decide +kernel
theorem dX9_wouldBe_14 : decode cX9_wouldBe 14 = .ok (.iconst 1, 1) := by decide +kernel
theorem dX9_wouldBe_15 : decode cX9_wouldBe 15 = .ok (.invokevirtual 91, 3) := by decide +kernel
theorem dX9_wouldBe_18 : decode cX9_wouldBe 18 = .ok (.ireturn, 1) := by decide +kernel
theorem dX9_wouldBe_19 : decode cX9_wouldBe 19 = .ok (.aload_n 0, 1) := by decide +kernel
theorem dX9_wouldBe_20 : decode cX9_wouldBe 20 = .ok (.invokevirtual 148, 3) := by decide +kernel
theorem dX9_wouldBe_23 : decode cX9_wouldBe 23 = .ok (.aload_n 0, 1) := by decide +kernel
theorem dX9_wouldBe_24 : decode cX9_wouldBe 24 = .ok (.invokevirtual 141, 3) := by decide +kernel
theorem dX9_wouldBe_27 : decode cX9_wouldBe 27 = .ok (.pop, 1) := by decide +kernel
theorem dX9_wouldBe_28 : decode cX9_wouldBe 28 = .ok (.aload_n 0, 1) := by decide +kernel
theorem dX9_wouldBe_29 : decode cX9_wouldBe 29 = .ok (.iload_n 1, 1) := by decide +kernel
theorem dX9_wouldBe_30 : decode cX9_wouldBe 30 = .ok (.invokevirtual 88, 3) := by decide +kernel
theorem dX9_wouldBe_33 : decode cX9_wouldBe 33 = .ok (.istore_n 2, 1) := by decide +kernel
theorem dX9_wouldBe_34 : decode cX9_wouldBe 34 = .ok (.aload_n 0, 1) := by decide +kernel
theorem dX9_wouldBe_35 : decode cX9_wouldBe 35 = .ok (.invokevirtual 151, 3) := by decide +kernel
theorem dX9_wouldBe_38 : decode cX9_wouldBe 38 = .ok (.iload_n 2, 1) := by decide +kernel
theorem dX9_wouldBe_39 : decode cX9_wouldBe 39 = .ok (.ireturn, 1) := by decide +kernel
theorem dX9_bestSkip_0 : decode cX9_bestSkip 0 = .ok (.aload_n 0, 1) := by decide +kernel
theorem dX9_bestSkip_1 : decode cX9_bestSkip 1 = .ok (.iconst 0, 1) := by decide +kernel
theorem dX9_bestSkip_2 : decode cX9_bestSkip 2 = .ok (.putfield 35, 3) := by decide +kernel
theorem dX9_bestSkip_5 : decode cX9_bestSkip 5 = .ok (.aload_n 0, 1) := by decide +kernel
theorem dX9_bestSkip_6 : decode cX9_bestSkip 6 = .ok (.invokevirtual 148, 3) := by decide +kernel
theorem dX9_bestSkip_9 : decode cX9_bestSkip 9 = .ok (.bipush (-9), 2) := by decide +kernel
theorem dX9_bestSkip_11 : decode cX9_bestSkip 11 = .ok (.istore_n 1, 1) := by decide +kernel
theorem dX9_bestSkip_12 : decode cX9_bestSkip 12 = .ok (.iconst (-1), 1) := by decide +kernel
theorem dX9_bestSkip_13 : decode cX9_bestSkip 13 = .ok (.istore_n 2, 1) := by decide +kernel
theorem dX9_bestSkip_14 : decode cX9_bestSkip 14 = .ok (.iconst 0, 1) := by decide +kernel
theorem dX9_bestSkip_15 : decode cX9_bestSkip 15 = .ok (.istore_n 3, 1) := by decide +kernel
theorem dX9_bestSkip_16 : decode cX9_bestSkip 16 = .ok (.iload_n 3, 1) := by decide +kernel
theorem dX9_bestSkip_17 : decode cX9_bestSkip 17 = .ok (.aload_n 0, 1) := by decide +kernel
theorem dX9_bestSkip_18 : decode cX9_bestSkip 18 = .ok (.getfield 7, 3) := by decide +kernel
theorem dX9_bestSkip_21 : decode cX9_bestSkip 21 = .ok (.iconst 0, 1) := by decide +kernel
theorem dX9_bestSkip_22 : decode cX9_bestSkip 22 = .ok (.iaload, 1) := by decide +kernel
theorem dX9_bestSkip_23 : decode cX9_bestSkip 23 = .ok (.if_icmp .ge 70, 3) := by decide +kernel
theorem dX9_bestSkip_26 : decode cX9_bestSkip 26 = .ok (.aload_n 0, 1) := by decide +kernel
theorem dX9_bestSkip_27 : decode cX9_bestSkip 27 = .ok (.iload_n 3, 1) := by decide +kernel
theorem dX9_bestSkip_28 : decode cX9_bestSkip 28 = .ok (.invokevirtual 50, 3) := by decide +kernel
theorem dX9_bestSkip_31 : decode cX9_bestSkip 31 = .ok (.ifCond .eq 56, 3) := by decide +kernel
theorem dX9_bestSkip_34 : decode cX9_bestSkip 34 = .ok (.aload_n 0, 1) := by decide +kernel
theorem dX9_bestSkip_35 : decode cX9_bestSkip 35 = .ok (.getfield 7, 3) := by decide +kernel
theorem dX9_bestSkip_38 : decode cX9_bestSkip 38 = .ok (.iload_n 3, 1) := by decide +kernel
theorem dX9_bestSkip_39 : decode cX9_bestSkip 39 = .ok (.invokestatic 46, 3) := by decide +kernel
theorem dX9_bestSkip_42 : decode cX9_bestSkip 42 = .ok (.iconst 3, 1) := by decide +kernel
theorem dX9_bestSkip_43 : decode cX9_bestSkip 43 = .ok (.iadd, 1) := by decide +kernel
theorem dX9_bestSkip_44 : decode cX9_bestSkip 44 = .ok (.iconst 1, 1) := by decide +kernel
theorem dX9_bestSkip_45 : decode cX9_bestSkip 45 = .ok (.iastore, 1) := by decide +kernel
theorem dX9_bestSkip_46 : decode cX9_bestSkip 46 = .ok (.aload_n 0, 1) := by decide +kernel
theorem dX9_bestSkip_47 : decode cX9_bestSkip 47 = .ok (.invokevirtual 141, 3) := by decide +kernel
theorem dX9_bestSkip_50 : decode cX9_bestSkip 50 = .ok (.pop, 1) := by decide +kernel
theorem dX9_bestSkip_51 : decode cX9_bestSkip 51 = .ok (.aload_n 0, 1) := by decide +kernel
theorem dX9_bestSkip_52 : decode cX9_bestSkip 52 = .ok (.iload_n 3, 1) := by decide +kernel
theorem dX9_bestSkip_53 : decode cX9_bestSkip 53 = .ok (.invokevirtual 154, 3) := by decide +kernel
theorem dX9_bestSkip_56 : decode cX9_bestSkip 56 = .ok (.istore 4, 2) := by decide +kernel
theorem dX9_bestSkip_58 : decode cX9_bestSkip 58 = .ok (.iload 4, 2) := by decide +kernel
theorem dX9_bestSkip_60 : decode cX9_bestSkip 60 = .ok (.iload_n 2, 1) := by decide +kernel
theorem dX9_bestSkip_61 : decode cX9_bestSkip 61 = .ok (.if_icmp .le 7, 3) := by decide +kernel
theorem dX9_bestSkip_64 : decode cX9_bestSkip 64 = .ok (.iload_n 3, 1) := by decide +kernel
theorem dX9_bestSkip_65 : decode cX9_bestSkip 65 = .ok (.goto 4, 3) := by decide +kernel
theorem dX9_bestSkip_68 : decode cX9_bestSkip 68 = .ok (.iload_n 1, 1) := by decide +kernel
theorem dX9_bestSkip_69 : decode cX9_bestSkip 69 = .ok (.istore_n 1, 1) := by decide +kernel
theorem dX9_bestSkip_70 : decode cX9_bestSkip 70 = .ok (.iload 4, 2) := by decide +kernel
theorem dX9_bestSkip_72 : decode cX9_bestSkip 72 = .ok (.iload_n 2, 1) := by decide +kernel
theorem dX9_bestSkip_73 : decode cX9_bestSkip 73 = .ok (.if_icmp .le 8, 3) := by decide +kernel
theorem dX9_bestSkip_76 : decode cX9_bestSkip 76 = .ok (.iload 4, 2) := by decide +kernel
theorem dX9_bestSkip_78 : decode cX9_bestSkip 78 = .ok (.goto 4, 3) := by decide +kernel
theorem dX9_bestSkip_81 : decode cX9_bestSkip 81 = .ok (.iload_n 2, 1) := by decide +kernel
theorem dX9_bestSkip_82 : decode cX9_bestSkip 82 = .ok (.istore_n 2, 1) := by decide +kernel
theorem dX9_bestSkip_83 : decode cX9_bestSkip 83 = .ok (.aload_n 0, 1) := by decide +kernel
theorem dX9_bestSkip_84 : decode cX9_bestSkip 84 = .ok (.invokevirtual 151, 3) := by decide +kernel
theorem dX9_bestSkip_87 : decode cX9_bestSkip 87 = .ok (.iinc 3 1, 3) := by decide +kernel
theorem dX9_bestSkip_90 : decode cX9_bestSkip 90 = .ok (.goto (-74), 3) := by decide +kernel
theorem dX9_bestSkip_93 : decode cX9_bestSkip 93 = .ok (.iload_n 1, 1) := by decide +kernel
theorem dX9_bestSkip_94 : decode cX9_bestSkip 94 = .ok (.ireturn, 1) := by decide +kernel
theorem dX9_bestMore_0 : decode cX9_bestMore 0 = .ok (.aload_n 0, 1) := by decide +kernel
theorem dX9_bestMore_1 : decode cX9_bestMore 1 = .ok (.iconst 0, 1) := by decide +kernel
theorem dX9_bestMore_2 : decode cX9_bestMore 2 = .ok (.putfield 35, 3) := by decide +kernel
theorem dX9_bestMore_5 : decode cX9_bestMore 5 = .ok (.aload_n 0, 1) := by decide +kernel
theorem dX9_bestMore_6 : decode cX9_bestMore 6 = .ok (.invokevirtual 148, 3) := by decide +kernel
theorem dX9_bestMore_9 : decode cX9_bestMore 9 = .ok (.bipush (-9), 2) := by decide +kernel
theorem dX9_bestMore_11 : decode cX9_bestMore 11 = .ok (.istore_n 1, 1) := by decide +kernel
theorem dX9_bestMore_12 : decode cX9_bestMore 12 = .ok (.iconst (-1), 1) := by decide +kernel
theorem dX9_bestMore_13 : decode cX9_bestMore 13 = .ok (.istore_n 2, 1) := by decide +kernel
theorem dX9_bestMore_14 : decode cX9_bestMore 14 = .ok (.iconst 0, 1) := by decide +kernel
theorem dX9_bestMore_15 : decode cX9_bestMore 15 = .ok (.istore_n 3, 1) := by decide +kernel
theorem dX9_bestMore_16 : decode cX9_bestMore 16 = .ok (.iload_n 3, 1) := by decide +kernel
theorem dX9_bestMore_17 : decode cX9_bestMore 17 = .ok (.aload_n 0, 1) := by decide +kernel
theorem dX9_bestMore_18 : decode cX9_bestMore 18 = .ok (.getfield 7, 3) := by decide +kernel
theorem dX9_bestMore_21 : decode cX9_bestMore 21 = .ok (.iconst 1, 1) := by decide +kernel
theorem dX9_bestMore_22 : decode cX9_bestMore 22 = .ok (.iaload, 1) := by decide +kernel
theorem dX9_bestMore_23 : decode cX9_bestMore 23 = .ok (.if_icmp .ge 77, 3) := by decide +kernel
theorem dX9_bestMore_26 : decode cX9_bestMore 26 = .ok (.aload_n 0, 1) := by decide +kernel
theorem dX9_bestMore_27 : decode cX9_bestMore 27 = .ok (.getfield 7, 3) := by decide +kernel
theorem dX9_bestMore_30 : decode cX9_bestMore 30 = .ok (.iload_n 3, 1) := by decide +kernel
theorem dX9_bestMore_31 : decode cX9_bestMore 31 = .ok (.invokestatic 61, 3) := by decide +kernel
theorem dX9_bestMore_34 : decode cX9_bestMore 34 = .ok (.iaload, 1) := by decide +kernel
theorem dX9_bestMore_35 : decode cX9_bestMore 35 = .ok (.bipush 40, 2) := by decide +kernel
theorem dX9_bestMore_37 : decode cX9_bestMore 37 = .ok (.if_icmp .ge 57, 3) := by decide +kernel
theorem dX9_bestMore_40 : decode cX9_bestMore 40 = .ok (.aload_n 0, 1) := by decide +kernel
theorem dX9_bestMore_41 : decode cX9_bestMore 41 = .ok (.getfield 7, 3) := by decide +kernel
theorem dX9_bestMore_44 : decode cX9_bestMore 44 = .ok (.iload_n 3, 1) := by decide +kernel
theorem dX9_bestMore_45 : decode cX9_bestMore 45 = .ok (.invokestatic 61, 3) := by decide +kernel
theorem dX9_bestMore_48 : decode cX9_bestMore 48 = .ok (.dup2, 1) := by decide +kernel
theorem dX9_bestMore_49 : decode cX9_bestMore 49 = .ok (.iaload, 1) := by decide +kernel
theorem dX9_bestMore_50 : decode cX9_bestMore 50 = .ok (.iconst 1, 1) := by decide +kernel
theorem dX9_bestMore_51 : decode cX9_bestMore 51 = .ok (.iadd, 1) := by decide +kernel
theorem dX9_bestMore_52 : decode cX9_bestMore 52 = .ok (.iastore, 1) := by decide +kernel
theorem dX9_bestMore_53 : decode cX9_bestMore 53 = .ok (.aload_n 0, 1) := by decide +kernel
theorem dX9_bestMore_54 : decode cX9_bestMore 54 = .ok (.invokevirtual 141, 3) := by decide +kernel
theorem dX9_bestMore_57 : decode cX9_bestMore 57 = .ok (.pop, 1) := by decide +kernel
theorem dX9_bestMore_58 : decode cX9_bestMore 58 = .ok (.aload_n 0, 1) := by decide +kernel
theorem dX9_bestMore_59 : decode cX9_bestMore 59 = .ok (.iconst (-1), 1) := by decide +kernel
theorem dX9_bestMore_60 : decode cX9_bestMore 60 = .ok (.invokevirtual 154, 3) := by decide +kernel
theorem dX9_bestMore_63 : decode cX9_bestMore 63 = .ok (.istore 4, 2) := by decide +kernel
theorem dX9_bestMore_65 : decode cX9_bestMore 65 = .ok (.iload 4, 2) := by decide +kernel
theorem dX9_bestMore_67 : decode cX9_bestMore 67 = .ok (.iload_n 2, 1) := by decide +kernel
theorem dX9_bestMore_68 : decode cX9_bestMore 68 = .ok (.if_icmp .le 7, 3) := by decide +kernel
theorem dX9_bestMore_71 : decode cX9_bestMore 71 = .ok (.iload_n 3, 1) := by decide +kernel
theorem dX9_bestMore_72 : decode cX9_bestMore 72 = .ok (.goto 4, 3) := by decide +kernel
theorem dX9_bestMore_75 : decode cX9_bestMore 75 = .ok (.iload_n 1, 1) := by decide +kernel
theorem dX9_bestMore_76 : decode cX9_bestMore 76 = .ok (.istore_n 1, 1) := by decide +kernel
theorem dX9_bestMore_77 : decode cX9_bestMore 77 = .ok (.iload 4, 2) := by decide +kernel
theorem dX9_bestMore_79 : decode cX9_bestMore 79 = .ok (.iload_n 2, 1) := by decide +kernel
theorem dX9_bestMore_80 : decode cX9_bestMore 80 = .ok (.if_icmp .le 8, 3) := by decide +kernel
theorem dX9_bestMore_83 : decode cX9_bestMore 83 = .ok (.iload 4, 2) := by decide +kernel
theorem dX9_bestMore_85 : decode cX9_bestMore 85 = .ok (.goto 4, 3) := by decide +kernel
theorem dX9_bestMore_88 : decode cX9_bestMore 88 = .ok (.iload_n 2, 1) := by decide +kernel
theorem dX9_bestMore_89 : decode cX9_bestMore 89 = .ok (.istore_n 2, 1) := by decide +kernel
theorem dX9_bestMore_90 : decode cX9_bestMore 90 = .ok (.aload_n 0, 1) := by decide +kernel
theorem dX9_bestMore_91 : decode cX9_bestMore 91 = .ok (.invokevirtual 151, 3) := by decide +kernel
theorem dX9_bestMore_94 : decode cX9_bestMore 94 = .ok (.iinc 3 1, 3) := by decide +kernel
theorem dX9_bestMore_97 : decode cX9_bestMore 97 = .ok (.goto (-81), 3) := by decide +kernel
theorem dX9_bestMore_100 : decode cX9_bestMore 100 = .ok (.iload_n 1, 1) := by decide +kernel
theorem dX9_bestMore_101 : decode cX9_bestMore 101 = .ok (.ireturn, 1) := by decide +kernel
theorem dX9_firstSwap_0 : decode cX9_firstSwap 0 = .ok (.aload_n 0, 1) := by decide +kernel
theorem dX9_firstSwap_1 : decode cX9_firstSwap 1 = .ok (.iconst 0, 1) := by decide +kernel
theorem dX9_firstSwap_2 : decode cX9_firstSwap 2 = .ok (.putfield 35, 3) := by decide +kernel
theorem dX9_firstSwap_5 : decode cX9_firstSwap 5 = .ok (.aload_n 0, 1) := by decide +kernel
theorem dX9_firstSwap_6 : decode cX9_firstSwap 6 = .ok (.invokevirtual 74, 3) := by decide +kernel
theorem dX9_firstSwap_9 : decode cX9_firstSwap 9 = .ok (.istore_n 1, 1) := by decide +kernel
theorem dX9_firstSwap_10 : decode cX9_firstSwap 10 = .ok (.iload_n 1, 1) := by decide +kernel
theorem dX9_firstSwap_11 : decode cX9_firstSwap 11 = .ok (.ifCond .ge 8, 3) := by decide +kernel
theorem dX9_firstSwap_14 : decode cX9_firstSwap 14 = .ok (.bipush (-9), 2) := by decide +kernel
theorem dX9_firstSwap_16 : decode cX9_firstSwap 16 = .ok (.goto 4, 3) := by decide +kernel
theorem dX9_firstSwap_19 : decode cX9_firstSwap 19 = .ok (.iload_n 1, 1) := by decide +kernel
theorem dX9_firstSwap_20 : decode cX9_firstSwap 20 = .ok (.ireturn, 1) := by decide +kernel
theorem dX9_changes_0 : decode cX9_changes 0 = .ok (.iload_n 1, 1) := by decide +kernel
theorem dX9_changes_1 : decode cX9_changes 1 = .ok (.tableswitch 210 1 5 #[35, 75, 107, 141, 159], 35) := by decide +kernel
theorem dX9_changes_36 : decode cX9_changes 36 = .ok (.aload_n 0, 1) := by decide +kernel
theorem dX9_changes_37 : decode cX9_changes 37 = .ok (.iload_n 2, 1) := by decide +kernel
theorem dX9_changes_38 : decode cX9_changes 38 = .ok (.invokevirtual 129, 3) := by decide +kernel
theorem dX9_changes_41 : decode cX9_changes 41 = .ok (.ifCond .eq 15, 3) := by decide +kernel
theorem dX9_changes_44 : decode cX9_changes 44 = .ok (.bipush 10, 2) := by decide +kernel
theorem dX9_changes_46 : decode cX9_changes 46 = .ok (.iload_n 3, 1) := by decide +kernel
theorem dX9_changes_47 : decode cX9_changes 47 = .ok (.imul, 1) := by decide +kernel
theorem dX9_changes_48 : decode cX9_changes 48 = .ok (.iload 4, 2) := by decide +kernel
theorem dX9_changes_50 : decode cX9_changes 50 = .ok (.iadd, 1) := by decide +kernel
theorem dX9_changes_51 : decode cX9_changes 51 = .ok (.bipush 40, 2) := by decide +kernel
theorem dX9_changes_53 : decode cX9_changes 53 = .ok (.if_icmp .le 5, 3) := by decide +kernel
theorem dX9_changes_56 : decode cX9_changes 56 = .ok (.iconst 0, 1) := by decide +kernel
theorem dX9_changes_57 : decode cX9_changes 57 = .ok (.ireturn, 1) := by decide +kernel
theorem dX9_changes_58 : decode cX9_changes 58 = .ok (.aload_n 0, 1) := by decide +kernel
theorem dX9_changes_59 : decode cX9_changes 59 = .ok (.getfield 7, 3) := by decide +kernel
theorem dX9_changes_62 : decode cX9_changes 62 = .ok (.iload_n 2, 1) := by decide +kernel
theorem dX9_changes_63 : decode cX9_changes 63 = .ok (.invokestatic 61, 3) := by decide +kernel
theorem dX9_changes_66 : decode cX9_changes 66 = .ok (.bipush 10, 2) := by decide +kernel
theorem dX9_changes_68 : decode cX9_changes 68 = .ok (.iload_n 3, 1) := by decide +kernel
theorem dX9_changes_69 : decode cX9_changes 69 = .ok (.imul, 1) := by decide +kernel
theorem dX9_changes_70 : decode cX9_changes 70 = .ok (.iload 4, 2) := by decide +kernel
theorem dX9_changes_72 : decode cX9_changes 72 = .ok (.iadd, 1) := by decide +kernel
theorem dX9_changes_73 : decode cX9_changes 73 = .ok (.iastore, 1) := by decide +kernel
theorem dX9_changes_74 : decode cX9_changes 74 = .ok (.iconst 1, 1) := by decide +kernel
theorem dX9_changes_75 : decode cX9_changes 75 = .ok (.ireturn, 1) := by decide +kernel
theorem dX9_changes_76 : decode cX9_changes 76 = .ok (.aload_n 0, 1) := by decide +kernel
theorem dX9_changes_77 : decode cX9_changes 77 = .ok (.iload_n 2, 1) := by decide +kernel
theorem dX9_changes_78 : decode cX9_changes 78 = .ok (.invokevirtual 126, 3) := by decide +kernel
theorem dX9_changes_81 : decode cX9_changes 81 = .ok (.ifCond .eq 11, 3) := by decide +kernel
theorem dX9_changes_84 : decode cX9_changes 84 = .ok (.aload_n 0, 1) := by decide +kernel
theorem dX9_changes_85 : decode cX9_changes 85 = .ok (.iload_n 3, 1) := by decide +kernel
theorem dX9_changes_86 : decode cX9_changes 86 = .ok (.invokevirtual 129, 3) := by decide +kernel
theorem dX9_changes_89 : decode cX9_changes 89 = .ok (.ifCond .ne 5, 3) := by decide +kernel
theorem dX9_changes_92 : decode cX9_changes 92 = .ok (.iconst 0, 1) := by decide +kernel
theorem dX9_changes_93 : decode cX9_changes 93 = .ok (.ireturn, 1) := by decide +kernel
theorem dX9_changes_94 : decode cX9_changes 94 = .ok (.aload_n 0, 1) := by decide +kernel
theorem dX9_changes_95 : decode cX9_changes 95 = .ok (.getfield 7, 3) := by decide +kernel
theorem dX9_changes_98 : decode cX9_changes 98 = .ok (.iload_n 2, 1) := by decide +kernel
theorem dX9_changes_99 : decode cX9_changes 99 = .ok (.iload_n 3, 1) := by decide +kernel
theorem dX9_changes_100 : decode cX9_changes 100 = .ok (.invokestatic 54, 3) := by decide +kernel
theorem dX9_changes_103 : decode cX9_changes 103 = .ok (.iload 4, 2) := by decide +kernel
theorem dX9_changes_105 : decode cX9_changes 105 = .ok (.iastore, 1) := by decide +kernel
theorem dX9_changes_106 : decode cX9_changes 106 = .ok (.iconst 1, 1) := by decide +kernel
theorem dX9_changes_107 : decode cX9_changes 107 = .ok (.ireturn, 1) := by decide +kernel
theorem dX9_changes_108 : decode cX9_changes 108 = .ok (.aload_n 0, 1) := by decide +kernel
theorem dX9_changes_109 : decode cX9_changes 109 = .ok (.iload_n 2, 1) := by decide +kernel
theorem dX9_changes_110 : decode cX9_changes 110 = .ok (.invokevirtual 126, 3) := by decide +kernel
theorem dX9_changes_113 : decode cX9_changes 113 = .ok (.ifCond .eq 13, 3) := by decide +kernel
theorem dX9_changes_116 : decode cX9_changes 116 = .ok (.iload_n 3, 1) := by decide +kernel
theorem dX9_changes_117 : decode cX9_changes 117 = .ok (.iconst 1, 1) := by decide +kernel
theorem dX9_changes_118 : decode cX9_changes 118 = .ok (.if_icmp .gt 8, 3) := by decide +kernel
theorem dX9_changes_121 : decode cX9_changes 121 = .ok (.iload 4, 2) := by decide +kernel
theorem dX9_changes_123 : decode cX9_changes 123 = .ok (.ifCond .le 5, 3) := by decide +kernel
theorem dX9_changes_126 : decode cX9_changes 126 = .ok (.iconst 0, 1) := by decide +kernel
theorem dX9_changes_127 : decode cX9_changes 127 = .ok (.ireturn, 1) := by decide +kernel
theorem dX9_changes_128 : decode cX9_changes 128 = .ok (.aload_n 0, 1) := by decide +kernel
theorem dX9_changes_129 : decode cX9_changes 129 = .ok (.getfield 7, 3) := by decide +kernel
theorem dX9_changes_132 : decode cX9_changes 132 = .ok (.iload_n 2, 1) := by decide +kernel
theorem dX9_changes_133 : decode cX9_changes 133 = .ok (.invokestatic 46, 3) := by decide +kernel
theorem dX9_changes_136 : decode cX9_changes 136 = .ok (.iconst 3, 1) := by decide +kernel
theorem dX9_changes_137 : decode cX9_changes 137 = .ok (.iadd, 1) := by decide +kernel
theorem dX9_changes_138 : decode cX9_changes 138 = .ok (.iload_n 3, 1) := by decide +kernel
theorem dX9_changes_139 : decode cX9_changes 139 = .ok (.iastore, 1) := by decide +kernel
theorem dX9_changes_140 : decode cX9_changes 140 = .ok (.iconst 1, 1) := by decide +kernel
theorem dX9_changes_141 : decode cX9_changes 141 = .ok (.ireturn, 1) := by decide +kernel
theorem dX9_changes_142 : decode cX9_changes 142 = .ok (.iload_n 2, 1) := by decide +kernel
theorem dX9_changes_143 : decode cX9_changes 143 = .ok (.iload_n 3, 1) := by decide +kernel
theorem dX9_changes_144 : decode cX9_changes 144 = .ok (.iadd, 1) := by decide +kernel
theorem dX9_changes_145 : decode cX9_changes 145 = .ok (.iload 4, 2) := by decide +kernel
theorem dX9_changes_147 : decode cX9_changes 147 = .ok (.iadd, 1) := by decide +kernel
theorem dX9_changes_148 : decode cX9_changes 148 = .ok (.ifCond .le 5, 3) := by decide +kernel
theorem dX9_changes_151 : decode cX9_changes 151 = .ok (.iconst 0, 1) := by decide +kernel
theorem dX9_changes_152 : decode cX9_changes 152 = .ok (.ireturn, 1) := by decide +kernel
theorem dX9_changes_153 : decode cX9_changes 153 = .ok (.aload_n 0, 1) := by decide +kernel
theorem dX9_changes_154 : decode cX9_changes 154 = .ok (.invokevirtual 141, 3) := by decide +kernel
theorem dX9_changes_157 : decode cX9_changes 157 = .ok (.pop, 1) := by decide +kernel
theorem dX9_changes_158 : decode cX9_changes 158 = .ok (.iconst 1, 1) := by decide +kernel
theorem dX9_changes_159 : decode cX9_changes 159 = .ok (.ireturn, 1) := by decide +kernel
theorem dX9_changes_160 : decode cX9_changes 160 = .ok (.aload_n 0, 1) := by decide +kernel
theorem dX9_changes_161 : decode cX9_changes 161 = .ok (.iload_n 2, 1) := by decide +kernel
theorem dX9_changes_162 : decode cX9_changes 162 = .ok (.invokevirtual 126, 3) := by decide +kernel
theorem dX9_changes_165 : decode cX9_changes 165 = .ok (.ifCond .eq 27, 3) := by decide +kernel
theorem dX9_changes_168 : decode cX9_changes 168 = .ok (.iload_n 3, 1) := by decide +kernel
theorem dX9_changes_169 : decode cX9_changes 169 = .ok (.ifCond .eq 23, 3) := by decide +kernel
theorem dX9_changes_172 : decode cX9_changes 172 = .ok (.aload_n 0, 1) := by decide +kernel
theorem dX9_changes_173 : decode cX9_changes 173 = .ok (.getfield 7, 3) := by decide +kernel
theorem dX9_changes_176 : decode cX9_changes 176 = .ok (.iload_n 2, 1) := by decide +kernel
theorem dX9_changes_177 : decode cX9_changes 177 = .ok (.invokestatic 46, 3) := by decide +kernel
theorem dX9_changes_180 : decode cX9_changes 180 = .ok (.iconst 1, 1) := by decide +kernel
theorem dX9_changes_181 : decode cX9_changes 181 = .ok (.iadd, 1) := by decide +kernel
theorem dX9_changes_182 : decode cX9_changes 182 = .ok (.iaload, 1) := by decide +kernel
theorem dX9_changes_183 : decode cX9_changes 183 = .ok (.iload_n 3, 1) := by decide +kernel
theorem dX9_changes_184 : decode cX9_changes 184 = .ok (.if_icmp .lt 8, 3) := by decide +kernel
theorem dX9_changes_187 : decode cX9_changes 187 = .ok (.iload 4, 2) := by decide +kernel
theorem dX9_changes_189 : decode cX9_changes 189 = .ok (.ifCond .le 5, 3) := by decide +kernel
theorem dX9_changes_192 : decode cX9_changes 192 = .ok (.iconst 0, 1) := by decide +kernel
theorem dX9_changes_193 : decode cX9_changes 193 = .ok (.ireturn, 1) := by decide +kernel
theorem dX9_changes_194 : decode cX9_changes 194 = .ok (.aload_n 0, 1) := by decide +kernel
theorem dX9_changes_195 : decode cX9_changes 195 = .ok (.getfield 7, 3) := by decide +kernel
theorem dX9_changes_198 : decode cX9_changes 198 = .ok (.iload_n 2, 1) := by decide +kernel
theorem dX9_changes_199 : decode cX9_changes 199 = .ok (.invokestatic 46, 3) := by decide +kernel
theorem dX9_changes_202 : decode cX9_changes 202 = .ok (.iconst 1, 1) := by decide +kernel
theorem dX9_changes_203 : decode cX9_changes 203 = .ok (.iadd, 1) := by decide +kernel
theorem dX9_changes_204 : decode cX9_changes 204 = .ok (.dup2, 1) := by decide +kernel
theorem dX9_changes_205 : decode cX9_changes 205 = .ok (.iaload, 1) := by decide +kernel
theorem dX9_changes_206 : decode cX9_changes 206 = .ok (.iload_n 3, 1) := by decide +kernel
theorem dX9_changes_207 : decode cX9_changes 207 = .ok (.isub, 1) := by decide +kernel
theorem dX9_changes_208 : decode cX9_changes 208 = .ok (.iastore, 1) := by decide +kernel
theorem dX9_changes_209 : decode cX9_changes 209 = .ok (.iconst 1, 1) := by decide +kernel
theorem dX9_changes_210 : decode cX9_changes 210 = .ok (.ireturn, 1) := by decide +kernel
theorem dX9_changes_211 : decode cX9_changes 211 = .ok (.aload_n 0, 1) := by decide +kernel
theorem dX9_changes_212 : decode cX9_changes 212 = .ok (.iload_n 2, 1) := by decide +kernel
theorem dX9_changes_213 : decode cX9_changes 213 = .ok (.invokevirtual 126, 3) := by decide +kernel
theorem dX9_changes_216 : decode cX9_changes 216 = .ok (.ifCond .eq 31, 3) := by decide +kernel
theorem dX9_changes_219 : decode cX9_changes 219 = .ok (.aload_n 0, 1) := by decide +kernel
theorem dX9_changes_220 : decode cX9_changes 220 = .ok (.iload_n 3, 1) := by decide +kernel
theorem dX9_changes_221 : decode cX9_changes 221 = .ok (.invokevirtual 129, 3) := by decide +kernel
theorem dX9_changes_224 : decode cX9_changes 224 = .ok (.ifCond .eq 23, 3) := by decide +kernel
theorem dX9_changes_227 : decode cX9_changes 227 = .ok (.iload 4, 2) := by decide +kernel
theorem dX9_changes_229 : decode cX9_changes 229 = .ok (.ifCond .eq 18, 3) := by decide +kernel
theorem dX9_changes_232 : decode cX9_changes 232 = .ok (.aload_n 0, 1) := by decide +kernel
theorem dX9_changes_233 : decode cX9_changes 233 = .ok (.getfield 7, 3) := by decide +kernel
theorem dX9_changes_236 : decode cX9_changes 236 = .ok (.iload_n 2, 1) := by decide +kernel
theorem dX9_changes_237 : decode cX9_changes 237 = .ok (.iload_n 3, 1) := by decide +kernel
theorem dX9_changes_238 : decode cX9_changes 238 = .ok (.invokestatic 64, 3) := by decide +kernel
theorem dX9_changes_241 : decode cX9_changes 241 = .ok (.iaload, 1) := by decide +kernel
theorem dX9_changes_242 : decode cX9_changes 242 = .ok (.iload 4, 2) := by decide +kernel
theorem dX9_changes_244 : decode cX9_changes 244 = .ok (.if_icmp .ge 5, 3) := by decide +kernel
theorem dX9_changes_247 : decode cX9_changes 247 = .ok (.iconst 0, 1) := by decide +kernel
theorem dX9_changes_248 : decode cX9_changes 248 = .ok (.ireturn, 1) := by decide +kernel
theorem dX9_changes_249 : decode cX9_changes 249 = .ok (.aload_n 0, 1) := by decide +kernel
theorem dX9_changes_250 : decode cX9_changes 250 = .ok (.iload_n 2, 1) := by decide +kernel
theorem dX9_changes_251 : decode cX9_changes 251 = .ok (.iload_n 3, 1) := by decide +kernel
theorem dX9_changes_252 : decode cX9_changes 252 = .ok (.iload 4, 2) := by decide +kernel
theorem dX9_changes_254 : decode cX9_changes 254 = .ok (.invokevirtual 144, 3) := by decide +kernel
theorem dX9_changes_257 : decode cX9_changes 257 = .ok (.pop, 1) := by decide +kernel
theorem dX9_changes_258 : decode cX9_changes 258 = .ok (.iconst 1, 1) := by decide +kernel
theorem dX9_changes_259 : decode cX9_changes 259 = .ok (.ireturn, 1) := by decide +kernel
theorem dX9_succeeds_0 : decode cX9_succeeds 0 = .ok (.iload_n 1, 1) := by decide +kernel
theorem dX9_succeeds_1 : decode cX9_succeeds 1 = .ok (.sipush 1000, 3) := by decide +kernel
theorem dX9_succeeds_4 : decode cX9_succeeds 4 = .ok (.idiv, 1) := by decide +kernel
theorem dX9_succeeds_5 : decode cX9_succeeds 5 = .ok (.istore_n 2, 1) := by decide +kernel
theorem dX9_succeeds_6 : decode cX9_succeeds 6 = .ok (.iload_n 1, 1) := by decide +kernel
theorem dX9_succeeds_7 : decode cX9_succeeds 7 = .ok (.bipush 100, 2) := by decide +kernel
theorem dX9_succeeds_9 : decode cX9_succeeds 9 = .ok (.idiv, 1) := by decide +kernel
theorem dX9_succeeds_10 : decode cX9_succeeds 10 = .ok (.bipush 10, 2) := by decide +kernel
theorem dX9_succeeds_12 : decode cX9_succeeds 12 = .ok (.irem, 1) := by decide +kernel
theorem dX9_succeeds_13 : decode cX9_succeeds 13 = .ok (.istore_n 3, 1) := by decide +kernel
theorem dX9_succeeds_14 : decode cX9_succeeds 14 = .ok (.iload_n 1, 1) := by decide +kernel
theorem dX9_succeeds_15 : decode cX9_succeeds 15 = .ok (.bipush 10, 2) := by decide +kernel
theorem dX9_succeeds_17 : decode cX9_succeeds 17 = .ok (.idiv, 1) := by decide +kernel
theorem dX9_succeeds_18 : decode cX9_succeeds 18 = .ok (.bipush 10, 2) := by decide +kernel
theorem dX9_succeeds_20 : decode cX9_succeeds 20 = .ok (.irem, 1) := by decide +kernel
theorem dX9_succeeds_21 : decode cX9_succeeds 21 = .ok (.istore 4, 2) := by decide +kernel
theorem dX9_succeeds_23 : decode cX9_succeeds 23 = .ok (.iload_n 1, 1) := by decide +kernel
theorem dX9_succeeds_24 : decode cX9_succeeds 24 = .ok (.bipush 10, 2) := by decide +kernel
theorem dX9_succeeds_26 : decode cX9_succeeds 26 = .ok (.irem, 1) := by decide +kernel
theorem dX9_succeeds_27 : decode cX9_succeeds 27 = .ok (.istore 5, 2) := by decide +kernel
theorem dX9_succeeds_29 : decode cX9_succeeds 29 = .ok (.iload_n 2, 1) := by decide +kernel
theorem dX9_succeeds_30 : decode cX9_succeeds 30 = .ok (.iconst 1, 1) := by decide +kernel
theorem dX9_succeeds_31 : decode cX9_succeeds 31 = .ok (.bipush 6, 2) := by decide +kernel
theorem dX9_succeeds_33 : decode cX9_succeeds 33 = .ok (.invokestatic 39, 3) := by decide +kernel
theorem dX9_succeeds_36 : decode cX9_succeeds 36 = .ok (.ifCond .eq 14, 3) := by decide +kernel
theorem dX9_succeeds_39 : decode cX9_succeeds 39 = .ok (.aload_n 0, 1) := by decide +kernel
theorem dX9_succeeds_40 : decode cX9_succeeds 40 = .ok (.iload_n 2, 1) := by decide +kernel
theorem dX9_succeeds_41 : decode cX9_succeeds 41 = .ok (.iload_n 3, 1) := by decide +kernel
theorem dX9_succeeds_42 : decode cX9_succeeds 42 = .ok (.iload 4, 2) := by decide +kernel
theorem dX9_succeeds_44 : decode cX9_succeeds 44 = .ok (.iload 5, 2) := by decide +kernel
theorem dX9_succeeds_46 : decode cX9_succeeds 46 = .ok (.invokevirtual 157, 3) := by decide +kernel
theorem dX9_succeeds_49 : decode cX9_succeeds 49 = .ok (.ireturn, 1) := by decide +kernel
theorem dX9_succeeds_50 : decode cX9_succeeds 50 = .ok (.iload_n 2, 1) := by decide +kernel
theorem dX9_succeeds_51 : decode cX9_succeeds 51 = .ok (.bipush 7, 2) := by decide +kernel
theorem dX9_succeeds_53 : decode cX9_succeeds 53 = .ok (.if_icmp .ne 33, 3) := by decide +kernel
theorem dX9_succeeds_56 : decode cX9_succeeds 56 = .ok (.aload_n 0, 1) := by decide +kernel
theorem dX9_succeeds_57 : decode cX9_succeeds 57 = .ok (.iload_n 3, 1) := by decide +kernel
theorem dX9_succeeds_58 : decode cX9_succeeds 58 = .ok (.invokevirtual 126, 3) := by decide +kernel
theorem dX9_succeeds_61 : decode cX9_succeeds 61 = .ok (.ifCond .eq 23, 3) := by decide +kernel
theorem dX9_succeeds_64 : decode cX9_succeeds 64 = .ok (.aload_n 0, 1) := by decide +kernel
theorem dX9_succeeds_65 : decode cX9_succeeds 65 = .ok (.iload_n 3, 1) := by decide +kernel
theorem dX9_succeeds_66 : decode cX9_succeeds 66 = .ok (.invokevirtual 88, 3) := by decide +kernel
theorem dX9_succeeds_69 : decode cX9_succeeds 69 = .ok (.bipush 10, 2) := by decide +kernel
theorem dX9_succeeds_71 : decode cX9_succeeds 71 = .ok (.iload 4, 2) := by decide +kernel
theorem dX9_succeeds_73 : decode cX9_succeeds 73 = .ok (.imul, 1) := by decide +kernel
theorem dX9_succeeds_74 : decode cX9_succeeds 74 = .ok (.iload 5, 2) := by decide +kernel
theorem dX9_succeeds_76 : decode cX9_succeeds 76 = .ok (.iadd, 1) := by decide +kernel
theorem dX9_succeeds_77 : decode cX9_succeeds 77 = .ok (.if_icmp .lt 7, 3) := by decide +kernel
theorem dX9_succeeds_80 : decode cX9_succeeds 80 = .ok (.iconst 1, 1) := by decide +kernel
theorem dX9_succeeds_81 : decode cX9_succeeds 81 = .ok (.goto 4, 3) := by decide +kernel
theorem dX9_succeeds_84 : decode cX9_succeeds 84 = .ok (.iconst 0, 1) := by decide +kernel
theorem dX9_succeeds_85 : decode cX9_succeeds 85 = .ok (.ireturn, 1) := by decide +kernel
theorem dX9_succeeds_86 : decode cX9_succeeds 86 = .ok (.iload_n 2, 1) := by decide +kernel
theorem dX9_succeeds_87 : decode cX9_succeeds 87 = .ok (.bipush 8, 2) := by decide +kernel
theorem dX9_succeeds_89 : decode cX9_succeeds 89 = .ok (.if_icmp .ne 42, 3) := by decide +kernel
theorem dX9_succeeds_92 : decode cX9_succeeds 92 = .ok (.aload_n 0, 1) := by decide +kernel
theorem dX9_succeeds_93 : decode cX9_succeeds 93 = .ok (.iload_n 3, 1) := by decide +kernel
theorem dX9_succeeds_94 : decode cX9_succeeds 94 = .ok (.invokevirtual 126, 3) := by decide +kernel
theorem dX9_succeeds_97 : decode cX9_succeeds 97 = .ok (.ifCond .eq 32, 3) := by decide +kernel
theorem dX9_succeeds_100 : decode cX9_succeeds 100 = .ok (.aload_n 0, 1) := by decide +kernel
theorem dX9_succeeds_101 : decode cX9_succeeds 101 = .ok (.iload 4, 2) := by decide +kernel
theorem dX9_succeeds_103 : decode cX9_succeeds 103 = .ok (.invokevirtual 129, 3) := by decide +kernel
theorem dX9_succeeds_106 : decode cX9_succeeds 106 = .ok (.ifCond .eq 23, 3) := by decide +kernel
theorem dX9_succeeds_109 : decode cX9_succeeds 109 = .ok (.aload_n 0, 1) := by decide +kernel
theorem dX9_succeeds_110 : decode cX9_succeeds 110 = .ok (.getfield 7, 3) := by decide +kernel
theorem dX9_succeeds_113 : decode cX9_succeeds 113 = .ok (.iload_n 3, 1) := by decide +kernel
theorem dX9_succeeds_114 : decode cX9_succeeds 114 = .ok (.iload 4, 2) := by decide +kernel
theorem dX9_succeeds_116 : decode cX9_succeeds 116 = .ok (.invokestatic 64, 3) := by decide +kernel
theorem dX9_succeeds_119 : decode cX9_succeeds 119 = .ok (.iaload, 1) := by decide +kernel
theorem dX9_succeeds_120 : decode cX9_succeeds 120 = .ok (.iload 5, 2) := by decide +kernel
theorem dX9_succeeds_122 : decode cX9_succeeds 122 = .ok (.if_icmp .lt 7, 3) := by decide +kernel
theorem dX9_succeeds_125 : decode cX9_succeeds 125 = .ok (.iconst 1, 1) := by decide +kernel
theorem dX9_succeeds_126 : decode cX9_succeeds 126 = .ok (.goto 4, 3) := by decide +kernel
theorem dX9_succeeds_129 : decode cX9_succeeds 129 = .ok (.iconst 0, 1) := by decide +kernel
theorem dX9_succeeds_130 : decode cX9_succeeds 130 = .ok (.ireturn, 1) := by decide +kernel
theorem dX9_succeeds_131 : decode cX9_succeeds 131 = .ok (.iload_n 2, 1) := by decide +kernel
theorem dX9_succeeds_132 : decode cX9_succeeds 132 = .ok (.bipush 9, 2) := by decide +kernel
theorem dX9_succeeds_134 : decode cX9_succeeds 134 = .ok (.if_icmp .ne 23, 3) := by decide +kernel
theorem dX9_succeeds_137 : decode cX9_succeeds 137 = .ok (.iload 4, 2) := by decide +kernel
theorem dX9_succeeds_139 : decode cX9_succeeds 139 = .ok (.iload 5, 2) := by decide +kernel
theorem dX9_succeeds_141 : decode cX9_succeeds 141 = .ok (.iadd, 1) := by decide +kernel
theorem dX9_succeeds_142 : decode cX9_succeeds 142 = .ok (.ifCond .ne 15, 3) := by decide +kernel
theorem dX9_succeeds_145 : decode cX9_succeeds 145 = .ok (.aload_n 0, 1) := by decide +kernel
theorem dX9_succeeds_146 : decode cX9_succeeds 146 = .ok (.invokevirtual 78, 3) := by decide +kernel
theorem dX9_succeeds_149 : decode cX9_succeeds 149 = .ok (.iload_n 3, 1) := by decide +kernel
theorem dX9_succeeds_150 : decode cX9_succeeds 150 = .ok (.if_icmp .lt 7, 3) := by decide +kernel
theorem dX9_succeeds_153 : decode cX9_succeeds 153 = .ok (.iconst 1, 1) := by decide +kernel
theorem dX9_succeeds_154 : decode cX9_succeeds 154 = .ok (.goto 4, 3) := by decide +kernel
theorem dX9_succeeds_157 : decode cX9_succeeds 157 = .ok (.iconst 0, 1) := by decide +kernel
theorem dX9_succeeds_158 : decode cX9_succeeds 158 = .ok (.ireturn, 1) := by decide +kernel
theorem dX9_runScript_0 : decode cX9_runScript 0 = .ok (.aload_n 0, 1) := by decide +kernel
theorem dX9_runScript_1 : decode cX9_runScript 1 = .ok (.iconst 0, 1) := by decide +kernel
theorem dX9_runScript_2 : decode cX9_runScript 2 = .ok (.putfield 35, 3) := by decide +kernel
theorem dX9_runScript_5 : decode cX9_runScript 5 = .ok (.lconst 1, 1) := by decide +kernel
theorem dX9_runScript_6 : decode cX9_runScript 6 = .ok (.lstore 4, 2) := by decide +kernel
theorem dX9_runScript_8 : decode cX9_runScript 8 = .ok (.iconst 0, 1) := by decide +kernel
theorem dX9_runScript_9 : decode cX9_runScript 9 = .ok (.istore 6, 2) := by decide +kernel
theorem dX9_runScript_11 : decode cX9_runScript 11 = .ok (.iload 6, 2) := by decide +kernel
theorem dX9_runScript_13 : decode cX9_runScript 13 = .ok (.iload_n 1, 1) := by decide +kernel
theorem dX9_runScript_14 : decode cX9_runScript 14 = .ok (.if_icmp .ge 23, 3) := by decide +kernel
theorem dX9_runScript_17 : decode cX9_runScript 17 = .ok (.iload 6, 2) := by decide +kernel
theorem dX9_runScript_19 : decode cX9_runScript 19 = .ok (.iconst 4, 1) := by decide +kernel
theorem dX9_runScript_20 : decode cX9_runScript 20 = .ok (.if_icmp .ge 17, 3) := by decide +kernel
theorem dX9_runScript_23 : decode cX9_runScript 23 = .ok (.lload 4, 2) := by decide +kernel
theorem dX9_runScript_25 : decode cX9_runScript 25 = .ok (.ldc2_w 160, 3) := by decide +kernel
theorem dX9_runScript_28 : decode cX9_runScript 28 = .ok (.lmul, 1) := by decide +kernel
theorem dX9_runScript_29 : decode cX9_runScript 29 = .ok (.lstore 4, 2) := by decide +kernel
theorem dX9_runScript_31 : decode cX9_runScript 31 = .ok (.iinc 6 1, 3) := by decide +kernel
theorem dX9_runScript_34 : decode cX9_runScript 34 = .ok (.goto (-23), 3) := by decide +kernel
theorem dX9_runScript_37 : decode cX9_runScript 37 = .ok (.iload_n 1, 1) := by decide +kernel
theorem dX9_runScript_38 : decode cX9_runScript 38 = .ok (.iconst 1, 1) := by decide +kernel
theorem dX9_runScript_39 : decode cX9_runScript 39 = .ok (.iconst 4, 1) := by decide +kernel
theorem dX9_runScript_40 : decode cX9_runScript 40 = .ok (.invokestatic 39, 3) := by decide +kernel
theorem dX9_runScript_43 : decode cX9_runScript 43 = .ok (.ifCond .eq 16, 3) := by decide +kernel
theorem dX9_runScript_46 : decode cX9_runScript 46 = .ok (.lload_n 2, 1) := by decide +kernel
theorem dX9_runScript_47 : decode cX9_runScript 47 = .ok (.lconst 0, 1) := by decide +kernel
theorem dX9_runScript_48 : decode cX9_runScript 48 = .ok (.lcmp, 1) := by decide +kernel
theorem dX9_runScript_49 : decode cX9_runScript 49 = .ok (.ifCond .lt 10, 3) := by decide +kernel
theorem dX9_runScript_52 : decode cX9_runScript 52 = .ok (.lload_n 2, 1) := by decide +kernel
theorem dX9_runScript_53 : decode cX9_runScript 53 = .ok (.lload 4, 2) := by decide +kernel
theorem dX9_runScript_55 : decode cX9_runScript 55 = .ok (.lcmp, 1) := by decide +kernel
theorem dX9_runScript_56 : decode cX9_runScript 56 = .ok (.ifCond .lt 9, 3) := by decide +kernel
theorem dX9_runScript_59 : decode cX9_runScript 59 = .ok (.aload_n 0, 1) := by decide +kernel
theorem dX9_runScript_60 : decode cX9_runScript 60 = .ok (.iconst 1, 1) := by decide +kernel
theorem dX9_runScript_61 : decode cX9_runScript 61 = .ok (.invokevirtual 91, 3) := by decide +kernel
theorem dX9_runScript_64 : decode cX9_runScript 64 = .ok (.ireturn, 1) := by decide +kernel
theorem dX9_runScript_65 : decode cX9_runScript 65 = .ok (.aload_n 0, 1) := by decide +kernel
theorem dX9_runScript_66 : decode cX9_runScript 66 = .ok (.invokevirtual 148, 3) := by decide +kernel
theorem dX9_runScript_69 : decode cX9_runScript 69 = .ok (.bipush (-9), 2) := by decide +kernel
theorem dX9_runScript_71 : decode cX9_runScript 71 = .ok (.istore 6, 2) := by decide +kernel
theorem dX9_runScript_73 : decode cX9_runScript 73 = .ok (.iconst 0, 1) := by decide +kernel
theorem dX9_runScript_74 : decode cX9_runScript 74 = .ok (.istore 7, 2) := by decide +kernel
theorem dX9_runScript_76 : decode cX9_runScript 76 = .ok (.iload 7, 2) := by decide +kernel
theorem dX9_runScript_78 : decode cX9_runScript 78 = .ok (.iload_n 1, 1) := by decide +kernel
theorem dX9_runScript_79 : decode cX9_runScript 79 = .ok (.if_icmp .ge 47, 3) := by decide +kernel
theorem dX9_runScript_82 : decode cX9_runScript 82 = .ok (.iload 6, 2) := by decide +kernel
theorem dX9_runScript_84 : decode cX9_runScript 84 = .ok (.ifCond .ge 42, 3) := by decide +kernel
theorem dX9_runScript_87 : decode cX9_runScript 87 = .ok (.lload 4, 2) := by decide +kernel
theorem dX9_runScript_89 : decode cX9_runScript 89 = .ok (.ldc2_w 160, 3) := by decide +kernel
theorem dX9_runScript_92 : decode cX9_runScript 92 = .ok (.ldiv, 1) := by decide +kernel
theorem dX9_runScript_93 : decode cX9_runScript 93 = .ok (.lstore 4, 2) := by decide +kernel
theorem dX9_runScript_95 : decode cX9_runScript 95 = .ok (.aload_n 0, 1) := by decide +kernel
theorem dX9_runScript_96 : decode cX9_runScript 96 = .ok (.lload_n 2, 1) := by decide +kernel
theorem dX9_runScript_97 : decode cX9_runScript 97 = .ok (.lload 4, 2) := by decide +kernel
theorem dX9_runScript_99 : decode cX9_runScript 99 = .ok (.ldiv, 1) := by decide +kernel
theorem dX9_runScript_100 : decode cX9_runScript 100 = .ok (.ldc2_w 160, 3) := by decide +kernel
theorem dX9_runScript_103 : decode cX9_runScript 103 = .ok (.lrem, 1) := by decide +kernel
theorem dX9_runScript_104 : decode cX9_runScript 104 = .ok (.l2i, 1) := by decide +kernel
theorem dX9_runScript_105 : decode cX9_runScript 105 = .ok (.invokevirtual 162, 3) := by decide +kernel
theorem dX9_runScript_108 : decode cX9_runScript 108 = .ok (.ifCond .eq 8, 3) := by decide +kernel
theorem dX9_runScript_111 : decode cX9_runScript 111 = .ok (.iload 6, 2) := by decide +kernel
theorem dX9_runScript_113 : decode cX9_runScript 113 = .ok (.goto 5, 3) := by decide +kernel
theorem dX9_runScript_116 : decode cX9_runScript 116 = .ok (.iload 7, 2) := by decide +kernel
theorem dX9_runScript_118 : decode cX9_runScript 118 = .ok (.istore 6, 2) := by decide +kernel
theorem dX9_runScript_120 : decode cX9_runScript 120 = .ok (.iinc 7 1, 3) := by decide +kernel
theorem dX9_runScript_123 : decode cX9_runScript 123 = .ok (.goto (-47), 3) := by decide +kernel
theorem dX9_runScript_126 : decode cX9_runScript 126 = .ok (.aload_n 0, 1) := by decide +kernel
theorem dX9_runScript_127 : decode cX9_runScript 127 = .ok (.invokevirtual 151, 3) := by decide +kernel
theorem dX9_runScript_130 : decode cX9_runScript 130 = .ok (.iload 6, 2) := by decide +kernel
theorem dX9_runScript_132 : decode cX9_runScript 132 = .ok (.ireturn, 1) := by decide +kernel
theorem dX9_draws_0 : decode cX9_draws 0 = .ok (.aload_n 0, 1) := by decide +kernel
theorem dX9_draws_1 : decode cX9_draws 1 = .ok (.aload_n 0, 1) := by decide +kernel
theorem dX9_draws_2 : decode cX9_draws 2 = .ok (.getfield 165, 3) := by decide +kernel
theorem dX9_draws_5 : decode cX9_draws 5 = .ok (.ldc2_w 169, 3) := by decide +kernel
theorem dX9_draws_8 : decode cX9_draws 8 = .ok (.lmul, 1) := by decide +kernel
theorem dX9_draws_9 : decode cX9_draws 9 = .ok (.ldc2_w 171, 3) := by decide +kernel
theorem dX9_draws_12 : decode cX9_draws 12 = .ok (.ladd, 1) := by decide +kernel
theorem dX9_draws_13 : decode cX9_draws 13 = .ok (.putfield 165, 3) := by decide +kernel
theorem dX9_draws_16 : decode cX9_draws 16 = .ok (.aload_n 0, 1) := by decide +kernel
theorem dX9_draws_17 : decode cX9_draws 17 = .ok (.getfield 165, 3) := by decide +kernel
theorem dX9_draws_20 : decode cX9_draws 20 = .ok (.bipush 33, 2) := by decide +kernel
theorem dX9_draws_22 : decode cX9_draws 22 = .ok (.lushr, 1) := by decide +kernel
theorem dX9_draws_23 : decode cX9_draws 23 = .ok (.l2i, 1) := by decide +kernel
theorem dX9_draws_24 : decode cX9_draws 24 = .ok (.ireturn, 1) := by decide +kernel
theorem dX9_compost_0 : decode cX9_compost 0 = .ok (.iconst 0, 1) := by decide +kernel
theorem dX9_compost_1 : decode cX9_compost 1 = .ok (.istore_n 1, 1) := by decide +kernel
theorem dX9_compost_2 : decode cX9_compost 2 = .ok (.iconst 0, 1) := by decide +kernel
theorem dX9_compost_3 : decode cX9_compost 3 = .ok (.istore_n 2, 1) := by decide +kernel
theorem dX9_compost_4 : decode cX9_compost 4 = .ok (.iload_n 2, 1) := by decide +kernel
theorem dX9_compost_5 : decode cX9_compost 5 = .ok (.aload_n 0, 1) := by decide +kernel
theorem dX9_compost_6 : decode cX9_compost 6 = .ok (.getfield 7, 3) := by decide +kernel
theorem dX9_compost_9 : decode cX9_compost 9 = .ok (.iconst 1, 1) := by decide +kernel
theorem dX9_compost_10 : decode cX9_compost 10 = .ok (.iaload, 1) := by decide +kernel
theorem dX9_compost_11 : decode cX9_compost 11 = .ok (.if_icmp .ge 23, 3) := by decide +kernel
theorem dX9_compost_14 : decode cX9_compost 14 = .ok (.iload_n 1, 1) := by decide +kernel
theorem dX9_compost_15 : decode cX9_compost 15 = .ok (.aload_n 0, 1) := by decide +kernel
theorem dX9_compost_16 : decode cX9_compost 16 = .ok (.getfield 7, 3) := by decide +kernel
theorem dX9_compost_19 : decode cX9_compost 19 = .ok (.iload_n 2, 1) := by decide +kernel
theorem dX9_compost_20 : decode cX9_compost 20 = .ok (.invokestatic 61, 3) := by decide +kernel
theorem dX9_compost_23 : decode cX9_compost 23 = .ok (.iconst 1, 1) := by decide +kernel
theorem dX9_compost_24 : decode cX9_compost 24 = .ok (.iadd, 1) := by decide +kernel
theorem dX9_compost_25 : decode cX9_compost 25 = .ok (.iaload, 1) := by decide +kernel
theorem dX9_compost_26 : decode cX9_compost 26 = .ok (.iadd, 1) := by decide +kernel
theorem dX9_compost_27 : decode cX9_compost 27 = .ok (.istore_n 1, 1) := by decide +kernel
theorem dX9_compost_28 : decode cX9_compost 28 = .ok (.iinc 2 1, 3) := by decide +kernel
theorem dX9_compost_31 : decode cX9_compost 31 = .ok (.goto (-27), 3) := by decide +kernel
theorem dX9_compost_34 : decode cX9_compost 34 = .ok (.iload_n 1, 1) := by decide +kernel
theorem dX9_compost_35 : decode cX9_compost 35 = .ok (.ireturn, 1) := by decide +kernel
theorem dX9_simulate_0 : decode cX9_simulate 0 = .ok (.aload_n 0, 1) := by decide +kernel
theorem dX9_simulate_1 : decode cX9_simulate 1 = .ok (.iconst 0, 1) := by decide +kernel
theorem dX9_simulate_2 : decode cX9_simulate 2 = .ok (.putfield 35, 3) := by decide +kernel
theorem dX9_simulate_5 : decode cX9_simulate 5 = .ok (.iload_n 3, 1) := by decide +kernel
theorem dX9_simulate_6 : decode cX9_simulate 6 = .ok (.iconst 1, 1) := by decide +kernel
theorem dX9_simulate_7 : decode cX9_simulate 7 = .ok (.bipush 30, 2) := by decide +kernel
theorem dX9_simulate_9 : decode cX9_simulate 9 = .ok (.invokestatic 39, 3) := by decide +kernel
theorem dX9_simulate_12 : decode cX9_simulate 12 = .ok (.ifCond .ne 9, 3) := by decide +kernel
theorem dX9_simulate_15 : decode cX9_simulate 15 = .ok (.aload_n 0, 1) := by decide +kernel
theorem dX9_simulate_16 : decode cX9_simulate 16 = .ok (.iconst 1, 1) := by decide +kernel
theorem dX9_simulate_17 : decode cX9_simulate 17 = .ok (.invokevirtual 91, 3) := by decide +kernel
theorem dX9_simulate_20 : decode cX9_simulate 20 = .ok (.ireturn, 1) := by decide +kernel
theorem dX9_simulate_21 : decode cX9_simulate 21 = .ok (.aload_n 0, 1) := by decide +kernel
theorem dX9_simulate_22 : decode cX9_simulate 22 = .ok (.invokevirtual 148, 3) := by decide +kernel
theorem dX9_simulate_25 : decode cX9_simulate 25 = .ok (.aload_n 0, 1) := by decide +kernel
theorem dX9_simulate_26 : decode cX9_simulate 26 = .ok (.invokevirtual 173, 3) := by decide +kernel
theorem dX9_simulate_29 : decode cX9_simulate 29 = .ok (.istore 4, 2) := by decide +kernel
theorem dX9_simulate_31 : decode cX9_simulate 31 = .ok (.iconst 0, 1) := by decide +kernel
theorem dX9_simulate_32 : decode cX9_simulate 32 = .ok (.istore 5, 2) := by decide +kernel
theorem dX9_simulate_34 : decode cX9_simulate 34 = .ok (.aload_n 0, 1) := by decide +kernel
theorem dX9_simulate_35 : decode cX9_simulate 35 = .ok (.lload_n 1, 1) := by decide +kernel
theorem dX9_simulate_36 : decode cX9_simulate 36 = .ok (.putfield 165, 3) := by decide +kernel
theorem dX9_simulate_39 : decode cX9_simulate 39 = .ok (.iconst 0, 1) := by decide +kernel
theorem dX9_simulate_40 : decode cX9_simulate 40 = .ok (.istore 6, 2) := by decide +kernel
theorem dX9_simulate_42 : decode cX9_simulate 42 = .ok (.iload 6, 2) := by decide +kernel
theorem dX9_simulate_44 : decode cX9_simulate 44 = .ok (.iload_n 3, 1) := by decide +kernel
theorem dX9_simulate_45 : decode cX9_simulate 45 = .ok (.if_icmp .ge 139, 3) := by decide +kernel
theorem dX9_simulate_48 : decode cX9_simulate 48 = .ok (.iconst 0, 1) := by decide +kernel
theorem dX9_simulate_49 : decode cX9_simulate 49 = .ok (.istore 7, 2) := by decide +kernel
theorem dX9_simulate_51 : decode cX9_simulate 51 = .ok (.iload 7, 2) := by decide +kernel
theorem dX9_simulate_53 : decode cX9_simulate 53 = .ok (.aload_n 0, 1) := by decide +kernel
theorem dX9_simulate_54 : decode cX9_simulate 54 = .ok (.getfield 7, 3) := by decide +kernel
theorem dX9_simulate_57 : decode cX9_simulate 57 = .ok (.iconst 1, 1) := by decide +kernel
theorem dX9_simulate_58 : decode cX9_simulate 58 = .ok (.iaload, 1) := by decide +kernel
theorem dX9_simulate_59 : decode cX9_simulate 59 = .ok (.if_icmp .ge 26, 3) := by decide +kernel
theorem dX9_simulate_62 : decode cX9_simulate 62 = .ok (.aload_n 0, 1) := by decide +kernel
theorem dX9_simulate_63 : decode cX9_simulate 63 = .ok (.getfield 7, 3) := by decide +kernel
theorem dX9_simulate_66 : decode cX9_simulate 66 = .ok (.iload 7, 2) := by decide +kernel
theorem dX9_simulate_68 : decode cX9_simulate 68 = .ok (.invokestatic 61, 3) := by decide +kernel
theorem dX9_simulate_71 : decode cX9_simulate 71 = .ok (.aload_n 0, 1) := by decide +kernel
theorem dX9_simulate_72 : decode cX9_simulate 72 = .ok (.invokevirtual 176, 3) := by decide +kernel
theorem dX9_simulate_75 : decode cX9_simulate 75 = .ok (.bipush 20, 2) := by decide +kernel
theorem dX9_simulate_77 : decode cX9_simulate 77 = .ok (.irem, 1) := by decide +kernel
theorem dX9_simulate_78 : decode cX9_simulate 78 = .ok (.iastore, 1) := by decide +kernel
theorem dX9_simulate_79 : decode cX9_simulate 79 = .ok (.iinc 7 1, 3) := by decide +kernel
theorem dX9_simulate_82 : decode cX9_simulate 82 = .ok (.goto (-31), 3) := by decide +kernel
theorem dX9_simulate_85 : decode cX9_simulate 85 = .ok (.iconst 0, 1) := by decide +kernel
theorem dX9_simulate_86 : decode cX9_simulate 86 = .ok (.istore 7, 2) := by decide +kernel
theorem dX9_simulate_88 : decode cX9_simulate 88 = .ok (.iload 7, 2) := by decide +kernel
theorem dX9_simulate_90 : decode cX9_simulate 90 = .ok (.aload_n 0, 1) := by decide +kernel
theorem dX9_simulate_91 : decode cX9_simulate 91 = .ok (.getfield 7, 3) := by decide +kernel
theorem dX9_simulate_94 : decode cX9_simulate 94 = .ok (.iconst 0, 1) := by decide +kernel
theorem dX9_simulate_95 : decode cX9_simulate 95 = .ok (.iaload, 1) := by decide +kernel
theorem dX9_simulate_96 : decode cX9_simulate 96 = .ok (.if_icmp .ge 73, 3) := by decide +kernel
theorem dX9_simulate_99 : decode cX9_simulate 99 = .ok (.aload_n 0, 1) := by decide +kernel
theorem dX9_simulate_100 : decode cX9_simulate 100 = .ok (.invokevirtual 176, 3) := by decide +kernel
theorem dX9_simulate_103 : decode cX9_simulate 103 = .ok (.iconst 4, 1) := by decide +kernel
theorem dX9_simulate_104 : decode cX9_simulate 104 = .ok (.irem, 1) := by decide +kernel
theorem dX9_simulate_105 : decode cX9_simulate 105 = .ok (.istore 8, 2) := by decide +kernel
theorem dX9_simulate_107 : decode cX9_simulate 107 = .ok (.aload_n 0, 1) := by decide +kernel
theorem dX9_simulate_108 : decode cX9_simulate 108 = .ok (.getfield 7, 3) := by decide +kernel
theorem dX9_simulate_111 : decode cX9_simulate 111 = .ok (.iload 7, 2) := by decide +kernel
theorem dX9_simulate_113 : decode cX9_simulate 113 = .ok (.invokestatic 46, 3) := by decide +kernel
theorem dX9_simulate_116 : decode cX9_simulate 116 = .ok (.iconst 3, 1) := by decide +kernel
theorem dX9_simulate_117 : decode cX9_simulate 117 = .ok (.iadd, 1) := by decide +kernel
theorem dX9_simulate_118 : decode cX9_simulate 118 = .ok (.iload 8, 2) := by decide +kernel
theorem dX9_simulate_120 : decode cX9_simulate 120 = .ok (.ifCond .ne 7, 3) := by decide +kernel
theorem dX9_simulate_123 : decode cX9_simulate 123 = .ok (.iconst 1, 1) := by decide +kernel
theorem dX9_simulate_124 : decode cX9_simulate 124 = .ok (.goto 4, 3) := by decide +kernel
theorem dX9_simulate_127 : decode cX9_simulate 127 = .ok (.iconst 0, 1) := by decide +kernel
theorem dX9_simulate_128 : decode cX9_simulate 128 = .ok (.iastore, 1) := by decide +kernel
theorem dX9_simulate_129 : decode cX9_simulate 129 = .ok (.aload_n 0, 1) := by decide +kernel
theorem dX9_simulate_130 : decode cX9_simulate 130 = .ok (.getfield 7, 3) := by decide +kernel
theorem dX9_simulate_133 : decode cX9_simulate 133 = .ok (.iload 7, 2) := by decide +kernel
theorem dX9_simulate_135 : decode cX9_simulate 135 = .ok (.invokestatic 46, 3) := by decide +kernel
theorem dX9_simulate_138 : decode cX9_simulate 138 = .ok (.iconst 1, 1) := by decide +kernel
theorem dX9_simulate_139 : decode cX9_simulate 139 = .ok (.iadd, 1) := by decide +kernel
theorem dX9_simulate_140 : decode cX9_simulate 140 = .ok (.iload 8, 2) := by decide +kernel
theorem dX9_simulate_142 : decode cX9_simulate 142 = .ok (.iconst 1, 1) := by decide +kernel
theorem dX9_simulate_143 : decode cX9_simulate 143 = .ok (.if_icmp .ne 7, 3) := by decide +kernel
theorem dX9_simulate_146 : decode cX9_simulate 146 = .ok (.iconst 0, 1) := by decide +kernel
theorem dX9_simulate_147 : decode cX9_simulate 147 = .ok (.goto 15, 3) := by decide +kernel
theorem dX9_simulate_150 : decode cX9_simulate 150 = .ok (.aload_n 0, 1) := by decide +kernel
theorem dX9_simulate_151 : decode cX9_simulate 151 = .ok (.getfield 7, 3) := by decide +kernel
theorem dX9_simulate_154 : decode cX9_simulate 154 = .ok (.iload 7, 2) := by decide +kernel
theorem dX9_simulate_156 : decode cX9_simulate 156 = .ok (.invokestatic 46, 3) := by decide +kernel
theorem dX9_simulate_159 : decode cX9_simulate 159 = .ok (.iconst 1, 1) := by decide +kernel
theorem dX9_simulate_160 : decode cX9_simulate 160 = .ok (.iadd, 1) := by decide +kernel
theorem dX9_simulate_161 : decode cX9_simulate 161 = .ok (.iaload, 1) := by decide +kernel
theorem dX9_simulate_162 : decode cX9_simulate 162 = .ok (.iastore, 1) := by decide +kernel
theorem dX9_simulate_163 : decode cX9_simulate 163 = .ok (.iinc 7 1, 3) := by decide +kernel
theorem dX9_simulate_166 : decode cX9_simulate 166 = .ok (.goto (-78), 3) := by decide +kernel
theorem dX9_simulate_169 : decode cX9_simulate 169 = .ok (.iload 5, 2) := by decide +kernel
theorem dX9_simulate_171 : decode cX9_simulate 171 = .ok (.aload_n 0, 1) := by decide +kernel
theorem dX9_simulate_172 : decode cX9_simulate 172 = .ok (.invokevirtual 141, 3) := by decide +kernel
theorem dX9_simulate_175 : decode cX9_simulate 175 = .ok (.iadd, 1) := by decide +kernel
theorem dX9_simulate_176 : decode cX9_simulate 176 = .ok (.istore 5, 2) := by decide +kernel
theorem dX9_simulate_178 : decode cX9_simulate 178 = .ok (.iinc 6 1, 3) := by decide +kernel
theorem dX9_simulate_181 : decode cX9_simulate 181 = .ok (.goto (-139), 3) := by decide +kernel
theorem dX9_simulate_184 : decode cX9_simulate 184 = .ok (.aload_n 0, 1) := by decide +kernel
theorem dX9_simulate_185 : decode cX9_simulate 185 = .ok (.invokevirtual 173, 3) := by decide +kernel
theorem dX9_simulate_188 : decode cX9_simulate 188 = .ok (.iload 4, 2) := by decide +kernel
theorem dX9_simulate_190 : decode cX9_simulate 190 = .ok (.isub, 1) := by decide +kernel
theorem dX9_simulate_191 : decode cX9_simulate 191 = .ok (.istore 6, 2) := by decide +kernel
theorem dX9_simulate_193 : decode cX9_simulate 193 = .ok (.aload_n 0, 1) := by decide +kernel
theorem dX9_simulate_194 : decode cX9_simulate 194 = .ok (.invokevirtual 151, 3) := by decide +kernel
theorem dX9_simulate_197 : decode cX9_simulate 197 = .ok (.sipush 1000, 3) := by decide +kernel
theorem dX9_simulate_200 : decode cX9_simulate 200 = .ok (.iload 6, 2) := by decide +kernel
theorem dX9_simulate_202 : decode cX9_simulate 202 = .ok (.sipush 999, 3) := by decide +kernel
theorem dX9_simulate_205 : decode cX9_simulate 205 = .ok (.if_icmp .le 9, 3) := by decide +kernel
theorem dX9_simulate_208 : decode cX9_simulate 208 = .ok (.sipush 999, 3) := by decide +kernel
theorem dX9_simulate_211 : decode cX9_simulate 211 = .ok (.goto 5, 3) := by decide +kernel
theorem dX9_simulate_214 : decode cX9_simulate 214 = .ok (.iload 6, 2) := by decide +kernel
theorem dX9_simulate_216 : decode cX9_simulate 216 = .ok (.imul, 1) := by decide +kernel
theorem dX9_simulate_217 : decode cX9_simulate 217 = .ok (.iload 5, 2) := by decide +kernel
theorem dX9_simulate_219 : decode cX9_simulate 219 = .ok (.sipush 999, 3) := by decide +kernel
theorem dX9_simulate_222 : decode cX9_simulate 222 = .ok (.if_icmp .le 9, 3) := by decide +kernel
theorem dX9_simulate_225 : decode cX9_simulate 225 = .ok (.sipush 999, 3) := by decide +kernel
theorem dX9_simulate_228 : decode cX9_simulate 228 = .ok (.goto 5, 3) := by decide +kernel
theorem dX9_simulate_231 : decode cX9_simulate 231 = .ok (.iload 5, 2) := by decide +kernel
theorem dX9_simulate_233 : decode cX9_simulate 233 = .ok (.iadd, 1) := by decide +kernel
theorem dX9_simulate_234 : decode cX9_simulate 234 = .ok (.ireturn, 1) := by decide +kernel
theorem dX9_save_0 : decode cX9_save 0 = .ok (.aload_n 0, 1) := by decide +kernel
theorem dX9_save_1 : decode cX9_save 1 = .ok (.iconst 0, 1) := by decide +kernel
theorem dX9_save_2 : decode cX9_save 2 = .ok (.putfield 35, 3) := by decide +kernel
theorem dX9_save_5 : decode cX9_save 5 = .ok (.iload_n 1, 1) := by decide +kernel
theorem dX9_save_6 : decode cX9_save 6 = .ok (.iconst 0, 1) := by decide +kernel
theorem dX9_save_7 : decode cX9_save 7 = .ok (.iconst 1, 1) := by decide +kernel
theorem dX9_save_8 : decode cX9_save 8 = .ok (.invokestatic 39, 3) := by decide +kernel
theorem dX9_save_11 : decode cX9_save 11 = .ok (.ifCond .ne 9, 3) := by decide +kernel
theorem dX9_save_14 : decode cX9_save 14 = .ok (.aload_n 0, 1) := by decide +kernel
theorem dX9_save_15 : decode cX9_save 15 = .ok (.iconst 1, 1) := by decide +kernel
theorem dX9_save_16 : decode cX9_save 16 = .ok (.invokevirtual 91, 3) := by decide +kernel
theorem dX9_save_19 : decode cX9_save 19 = .ok (.ireturn, 1) := by decide +kernel
theorem dX9_save_20 : decode cX9_save 20 = .ok (.iconst 0, 1) := by decide +kernel
theorem dX9_save_21 : decode cX9_save 21 = .ok (.istore_n 2, 1) := by decide +kernel
theorem dX9_save_22 : decode cX9_save 22 = .ok (.iload_n 2, 1) := by decide +kernel
theorem dX9_save_23 : decode cX9_save 23 = .ok (.bipush 100, 2) := by decide +kernel
theorem dX9_save_25 : decode cX9_save 25 = .ok (.if_icmp .ge 26, 3) := by decide +kernel
theorem dX9_save_28 : decode cX9_save 28 = .ok (.aload_n 0, 1) := by decide +kernel
theorem dX9_save_29 : decode cX9_save 29 = .ok (.getfield 19, 3) := by decide +kernel
theorem dX9_save_32 : decode cX9_save 32 = .ok (.bipush 100, 2) := by decide +kernel
theorem dX9_save_34 : decode cX9_save 34 = .ok (.iload_n 1, 1) := by decide +kernel
theorem dX9_save_35 : decode cX9_save 35 = .ok (.imul, 1) := by decide +kernel
theorem dX9_save_36 : decode cX9_save 36 = .ok (.iload_n 2, 1) := by decide +kernel
theorem dX9_save_37 : decode cX9_save 37 = .ok (.iadd, 1) := by decide +kernel
theorem dX9_save_38 : decode cX9_save 38 = .ok (.aload_n 0, 1) := by decide +kernel
theorem dX9_save_39 : decode cX9_save 39 = .ok (.getfield 7, 3) := by decide +kernel
theorem dX9_save_42 : decode cX9_save 42 = .ok (.iload_n 2, 1) := by decide +kernel
theorem dX9_save_43 : decode cX9_save 43 = .ok (.iaload, 1) := by decide +kernel
theorem dX9_save_44 : decode cX9_save 44 = .ok (.iastore, 1) := by decide +kernel
theorem dX9_save_45 : decode cX9_save 45 = .ok (.iinc 2 1, 3) := by decide +kernel
theorem dX9_save_48 : decode cX9_save 48 = .ok (.goto (-26), 3) := by decide +kernel
theorem dX9_save_51 : decode cX9_save 51 = .ok (.aload_n 0, 1) := by decide +kernel
theorem dX9_save_52 : decode cX9_save 52 = .ok (.getfield 22, 3) := by decide +kernel
theorem dX9_save_55 : decode cX9_save 55 = .ok (.iload_n 1, 1) := by decide +kernel
theorem dX9_save_56 : decode cX9_save 56 = .ok (.iconst 1, 1) := by decide +kernel
theorem dX9_save_57 : decode cX9_save 57 = .ok (.bastore, 1) := by decide +kernel
theorem dX9_save_58 : decode cX9_save 58 = .ok (.aload_n 0, 1) := by decide +kernel
theorem dX9_save_59 : decode cX9_save 59 = .ok (.getfield 7, 3) := by decide +kernel
theorem dX9_save_62 : decode cX9_save 62 = .ok (.iconst 2, 1) := by decide +kernel
theorem dX9_save_63 : decode cX9_save 63 = .ok (.iaload, 1) := by decide +kernel
theorem dX9_save_64 : decode cX9_save 64 = .ok (.ireturn, 1) := by decide +kernel
theorem dX9_restore_0 : decode cX9_restore 0 = .ok (.aload_n 0, 1) := by decide +kernel
theorem dX9_restore_1 : decode cX9_restore 1 = .ok (.iconst 0, 1) := by decide +kernel
theorem dX9_restore_2 : decode cX9_restore 2 = .ok (.putfield 35, 3) := by decide +kernel
theorem dX9_restore_5 : decode cX9_restore 5 = .ok (.iload_n 1, 1) := by decide +kernel
theorem dX9_restore_6 : decode cX9_restore 6 = .ok (.iconst 0, 1) := by decide +kernel
theorem dX9_restore_7 : decode cX9_restore 7 = .ok (.iconst 1, 1) := by decide +kernel
theorem dX9_restore_8 : decode cX9_restore 8 = .ok (.invokestatic 39, 3) := by decide +kernel
theorem dX9_restore_11 : decode cX9_restore 11 = .ok (.ifCond .ne 9, 3) := by decide +kernel
theorem dX9_restore_14 : decode cX9_restore 14 = .ok (.aload_n 0, 1) := by decide +kernel
theorem dX9_restore_15 : decode cX9_restore 15 = .ok (.iconst 1, 1) := by decide +kernel
theorem dX9_restore_16 : decode cX9_restore 16 = .ok (.invokevirtual 91, 3) := by decide +kernel
theorem dX9_restore_19 : decode cX9_restore 19 = .ok (.ireturn, 1) := by decide +kernel
theorem dX9_restore_20 : decode cX9_restore 20 = .ok (.aload_n 0, 1) := by decide +kernel
theorem dX9_restore_21 : decode cX9_restore 21 = .ok (.getfield 22, 3) := by decide +kernel
theorem dX9_restore_24 : decode cX9_restore 24 = .ok (.iload_n 1, 1) := by decide +kernel
theorem dX9_restore_25 : decode cX9_restore 25 = .ok (.baload, 1) := by decide +kernel
theorem dX9_restore_26 : decode cX9_restore 26 = .ok (.ifCond .ne 9, 3) := by decide +kernel
theorem dX9_restore_29 : decode cX9_restore 29 = .ok (.aload_n 0, 1) := by decide +kernel
theorem dX9_restore_30 : decode cX9_restore 30 = .ok (.iconst 2, 1) := by decide +kernel
theorem dX9_restore_31 : decode cX9_restore 31 = .ok (.invokevirtual 91, 3) := by decide +kernel
theorem dX9_restore_34 : decode cX9_restore 34 = .ok (.ireturn, 1) := by decide +kernel
theorem dX9_restore_35 : decode cX9_restore 35 = .ok (.iconst 0, 1) := by decide +kernel
theorem dX9_restore_36 : decode cX9_restore 36 = .ok (.istore_n 2, 1) := by decide +kernel
theorem dX9_restore_37 : decode cX9_restore 37 = .ok (.iload_n 2, 1) := by decide +kernel
theorem dX9_restore_38 : decode cX9_restore 38 = .ok (.bipush 100, 2) := by decide +kernel
theorem dX9_restore_40 : decode cX9_restore 40 = .ok (.if_icmp .ge 26, 3) := by decide +kernel
theorem dX9_restore_43 : decode cX9_restore 43 = .ok (.aload_n 0, 1) := by decide +kernel
theorem dX9_restore_44 : decode cX9_restore 44 = .ok (.getfield 7, 3) := by decide +kernel
theorem dX9_restore_47 : decode cX9_restore 47 = .ok (.iload_n 2, 1) := by decide +kernel
theorem dX9_restore_48 : decode cX9_restore 48 = .ok (.aload_n 0, 1) := by decide +kernel
theorem dX9_restore_49 : decode cX9_restore 49 = .ok (.getfield 19, 3) := by decide +kernel
theorem dX9_restore_52 : decode cX9_restore 52 = .ok (.bipush 100, 2) := by decide +kernel
theorem dX9_restore_54 : decode cX9_restore 54 = .ok (.iload_n 1, 1) := by decide +kernel
theorem dX9_restore_55 : decode cX9_restore 55 = .ok (.imul, 1) := by decide +kernel
theorem dX9_restore_56 : decode cX9_restore 56 = .ok (.iload_n 2, 1) := by decide +kernel
theorem dX9_restore_57 : decode cX9_restore 57 = .ok (.iadd, 1) := by decide +kernel
theorem dX9_restore_58 : decode cX9_restore 58 = .ok (.iaload, 1) := by decide +kernel
theorem dX9_restore_59 : decode cX9_restore 59 = .ok (.iastore, 1) := by decide +kernel
theorem dX9_restore_60 : decode cX9_restore 60 = .ok (.iinc 2 1, 3) := by decide +kernel
theorem dX9_restore_63 : decode cX9_restore 63 = .ok (.goto (-26), 3) := by decide +kernel
theorem dX9_restore_66 : decode cX9_restore 66 = .ok (.aload_n 0, 1) := by decide +kernel
theorem dX9_restore_67 : decode cX9_restore 67 = .ok (.iconst 0, 1) := by decide +kernel
theorem dX9_restore_68 : decode cX9_restore 68 = .ok (.putfield 43, 3) := by decide +kernel
theorem dX9_restore_71 : decode cX9_restore 71 = .ok (.aload_n 0, 1) := by decide +kernel
theorem dX9_restore_72 : decode cX9_restore 72 = .ok (.getfield 7, 3) := by decide +kernel
theorem dX9_restore_75 : decode cX9_restore 75 = .ok (.iconst 2, 1) := by decide +kernel
theorem dX9_restore_76 : decode cX9_restore 76 = .ok (.iaload, 1) := by decide +kernel
theorem dX9_restore_77 : decode cX9_restore 77 = .ok (.ireturn, 1) := by decide +kernel
