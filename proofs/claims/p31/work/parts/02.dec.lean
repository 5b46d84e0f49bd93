theorem inlX0 : ∀ w ∈ wsX00, w ∈ wsL_law := fun _ h => List.mem_append_left _ (List.mem_append_left _ (List.mem_append_left _ (List.mem_append_left _ (List.mem_append_left _ (List.mem_append_left _ (List.mem_append_left _ (List.mem_append_right _ h)))))))
theorem inlX1 : ∀ w ∈ wsX10, w ∈ wsL_law := fun _ h => List.mem_append_left _ (List.mem_append_left _ (List.mem_append_left _ (List.mem_append_left _ (List.mem_append_left _ (List.mem_append_left _ (List.mem_append_left _ (List.mem_append_left _ (List.mem_append_left _ (List.mem_append_left _ (List.mem_append_right _ h))))))))))
theorem inlX2 : ∀ w ∈ wsX20, w ∈ wsL_law := fun _ h => List.mem_append_left _ (List.mem_append_left _ (List.mem_append_left _ (List.mem_append_left _ (List.mem_append_left _ (List.mem_append_left _ (List.mem_append_left _ (List.mem_append_left _ (List.mem_append_left _ (List.mem_append_left _ (List.mem_append_left _ (List.mem_append_right _ h)))))))))))
theorem inlX3 : ∀ w ∈ wsX30, w ∈ wsL_law := fun _ h => List.mem_append_left _ (List.mem_append_left _ (List.mem_append_left _ (List.mem_append_left _ (List.mem_append_left _ (List.mem_append_left _ (List.mem_append_left _ (List.mem_append_left _ (List.mem_append_left _ (List.mem_append_right _ h)))))))))
theorem inlX4 : ∀ w ∈ wsX40, w ∈ wsL_law := fun _ h => List.mem_append_left _ (List.mem_append_left _ (List.mem_append_left _ (List.mem_append_left _ (List.mem_append_left _ (List.mem_append_left _ (List.mem_append_left _ (List.mem_append_left _ (List.mem_append_right _ h))))))))
theorem inlX5 : ∀ w ∈ wsX50, w ∈ wsL_law := fun _ h => List.mem_append_left _ (List.mem_append_left _ (List.mem_append_left _ (List.mem_append_left _ (List.mem_append_left _ (List.mem_append_right _ h)))))
theorem inlX6 : ∀ w ∈ wsX60, w ∈ wsL_law := fun _ h => List.mem_append_left _ (List.mem_append_left _ (List.mem_append_left _ (List.mem_append_left _ (List.mem_append_right _ h))))
theorem inlX7 : ∀ w ∈ wsX70, w ∈ wsL_law := fun _ h => List.mem_append_left _ (List.mem_append_left _ (List.mem_append_left _ (List.mem_append_left _ (List.mem_append_left _ (List.mem_append_left _ (List.mem_append_right _ h))))))
theorem inlX8 : ∀ w ∈ wsX80, w ∈ wsL_law := fun _ h => List.mem_append_left _ (List.mem_append_left _ (List.mem_append_left _ (List.mem_append_left _ (List.mem_append_left _ (List.mem_append_left _ (List.mem_append_left _ (List.mem_append_left _ (List.mem_append_left _ (List.mem_append_left _ (List.mem_append_left _ (List.mem_append_left _ (List.mem_append_right _ h))))))))))))
theorem dX0_init_0 : decode cX0_init 0 = .ok (.aload_n 0, 1) := by decide +kernel
theorem dX0_init_1 : decode cX0_init 1 = .ok (.invokespecial 3, 3) := by decide +kernel
theorem dX0_init_4 : decode cX0_init 4 = .ok (.return_, 1) := by decide +kernel
theorem dX0_startAnew_0 : decode cX0_startAnew 0 = .ok (.aload_n 0, 1) := by decide +kernel
theorem dX0_startAnew_1 : decode cX0_startAnew 1 = .ok (.bipush (-9), 2) := by decide +kernel
theorem dX0_startAnew_3 : decode cX0_startAnew 3 = .ok (.putfield 9, 3) := by decide +kernel
theorem dX0_startAnew_6 : decode cX0_startAnew 6 = .ok (.return_, 1) := by decide +kernel
theorem dX0_offer_0 : decode cX0_offer 0 = .ok (.aload_n 0, 1) := by decide +kernel
theorem dX0_offer_1 : decode cX0_offer 1 = .ok (.getfield 9, 3) := by decide +kernel
theorem dX0_offer_4 : decode cX0_offer 4 = .ok (.bipush (-9), 2) := by decide +kernel
theorem dX0_offer_6 : decode cX0_offer 6 = .ok (.if_icmp .eq 11, 3) := by decide +kernel
theorem dX0_offer_9 : decode cX0_offer 9 = .ok (.iload_n 2, 1) := by decide +kernel
theorem dX0_offer_10 : decode cX0_offer 10 = .ok (.aload_n 0, 1) := by decide +kernel
theorem dX0_offer_11 : decode cX0_offer 11 = .ok (.getfield 15, 3) := by decide +kernel
theorem dX0_offer_14 : decode cX0_offer 14 = .ok (.if_icmp .le 13, 3) := by decide +kernel
theorem dX0_offer_17 : decode cX0_offer 17 = .ok (.aload_n 0, 1) := by decide +kernel
theorem dX0_offer_18 : decode cX0_offer 18 = .ok (.iload_n 1, 1) := by decide +kernel
theorem dX0_offer_19 : decode cX0_offer 19 = .ok (.putfield 9, 3) := by decide +kernel
theorem dX0_offer_22 : decode cX0_offer 22 = .ok (.aload_n 0, 1) := by decide +kernel
theorem dX0_offer_23 : decode cX0_offer 23 = .ok (.iload_n 2, 1) := by decide +kernel
theorem dX0_offer_24 : decode cX0_offer 24 = .ok (.putfield 15, 3) := by decide +kernel
theorem dX0_offer_27 : decode cX0_offer 27 = .ok (.return_, 1) := by decide +kernel
theorem dX0_number_0 : decode cX0_number 0 = .ok (.aload_n 0, 1) := by decide +kernel
theorem dX0_number_1 : decode cX0_number 1 = .ok (.getfield 9, 3) := by decide +kernel
theorem dX0_number_4 : decode cX0_number 4 = .ok (.ireturn, 1) := by decide +kernel
theorem dX1_init_0 : decode cX1_init 0 = .ok (.aload_n 0, 1) := by decide +kernel
theorem dX1_init_1 : decode cX1_init 1 = .ok (.invokespecial 3, 3) := by decide +kernel
theorem dX1_init_4 : decode cX1_init 4 = .ok (.aload_n 0, 1) := by decide +kernel
theorem dX1_init_5 : decode cX1_init 5 = .ok (.bipush 6, 2) := by decide +kernel
theorem dX1_init_7 : decode cX1_init 7 = .ok (.newarray .int, 2) := by decide +kernel
theorem dX1_init_9 : decode cX1_init 9 = .ok (.putfield 9, 3) := by decide +kernel
theorem dX1_init_12 : decode cX1_init 12 = .ok (.aload_n 0, 1) := by decide +kernel
theorem dX1_init_13 : decode cX1_init 13 = .ok (.bipush 6, 2) := by decide +kernel
theorem dX1_init_15 : decode cX1_init 15 = .ok (.newarray .int, 2) := by decide +kernel
theorem dX1_init_17 : decode cX1_init 17 = .ok (.putfield 15, 3) := by decide +kernel
theorem dX1_init_20 : decode cX1_init 20 = .ok (.aload_n 0, 1) := by decide +kernel
theorem dX1_init_21 : decode cX1_init 21 = .ok (.bipush 6, 2) := by decide +kernel
theorem dX1_init_23 : decode cX1_init 23 = .ok (.newarray .int, 2) := by decide +kernel
theorem dX1_init_25 : decode cX1_init 25 = .ok (.putfield 18, 3) := by decide +kernel
theorem dX1_init_28 : decode cX1_init 28 = .ok (.aload_n 0, 1) := by decide +kernel
theorem dX1_init_29 : decode cX1_init 29 = .ok (.bipush 6, 2) := by decide +kernel
theorem dX1_init_31 : decode cX1_init 31 = .ok (.newarray .int, 2) := by decide +kernel
theorem dX1_init_33 : decode cX1_init 33 = .ok (.putfield 21, 3) := by decide +kernel
theorem dX1_init_36 : decode cX1_init 36 = .ok (.aload_n 0, 1) := by decide +kernel
theorem dX1_init_37 : decode cX1_init 37 = .ok (.iconst 5, 1) := by decide +kernel
theorem dX1_init_38 : decode cX1_init 38 = .ok (.newarray .int, 2) := by decide +kernel
theorem dX1_init_40 : decode cX1_init 40 = .ok (.putfield 24, 3) := by decide +kernel
theorem dX1_init_43 : decode cX1_init 43 = .ok (.aload_n 0, 1) := by decide +kernel
theorem dX1_init_44 : decode cX1_init 44 = .ok (.iconst 5, 1) := by decide +kernel
theorem dX1_init_45 : decode cX1_init 45 = .ok (.newarray .int, 2) := by decide +kernel
theorem dX1_init_47 : decode cX1_init 47 = .ok (.putfield 27, 3) := by decide +kernel
theorem dX1_init_50 : decode cX1_init 50 = .ok (.aload_n 0, 1) := by decide +kernel
theorem dX1_init_51 : decode cX1_init 51 = .ok (.bipush 30, 2) := by decide +kernel
theorem dX1_init_53 : decode cX1_init 53 = .ok (.newarray .int, 2) := by decide +kernel
theorem dX1_init_55 : decode cX1_init 55 = .ok (.putfield 30, 3) := by decide +kernel
theorem dX1_init_58 : decode cX1_init 58 = .ok (.aload_n 0, 1) := by decide +kernel
theorem dX1_init_59 : decode cX1_init 59 = .ok (.bipush 30, 2) := by decide +kernel
theorem dX1_init_61 : decode cX1_init 61 = .ok (.newarray .int, 2) := by decide +kernel
theorem dX1_init_63 : decode cX1_init 63 = .ok (.putfield 33, 3) := by decide +kernel
theorem dX1_init_66 : decode cX1_init 66 = .ok (.aload_n 0, 1) := by decide +kernel
theorem dX1_init_67 : decode cX1_init 67 = .ok (.invokevirtual 36, 3) := by decide +kernel
theorem dX1_init_70 : decode cX1_init 70 = .ok (.return_, 1) := by decide +kernel
theorem dX1_clear_0 : decode cX1_clear 0 = .ok (.aload_n 0, 1) := by decide +kernel
theorem dX1_clear_1 : decode cX1_clear 1 = .ok (.iconst 0, 1) := by decide +kernel
theorem dX1_clear_2 : decode cX1_clear 2 = .ok (.putfield 39, 3) := by decide +kernel
theorem dX1_clear_5 : decode cX1_clear 5 = .ok (.aload_n 0, 1) := by decide +kernel
theorem dX1_clear_6 : decode cX1_clear 6 = .ok (.iconst 0, 1) := by decide +kernel
theorem dX1_clear_7 : decode cX1_clear 7 = .ok (.putfield 43, 3) := by decide +kernel
theorem dX1_clear_10 : decode cX1_clear 10 = .ok (.aload_n 0, 1) := by decide +kernel
theorem dX1_clear_11 : decode cX1_clear 11 = .ok (.iconst 0, 1) := by decide +kernel
theorem dX1_clear_12 : decode cX1_clear 12 = .ok (.putfield 46, 3) := by decide +kernel
theorem dX1_clear_15 : decode cX1_clear 15 = .ok (.aload_n 0, 1) := by decide +kernel
theorem dX1_clear_16 : decode cX1_clear 16 = .ok (.iconst 0, 1) := by decide +kernel
theorem dX1_clear_17 : decode cX1_clear 17 = .ok (.putfield 49, 3) := by decide +kernel
theorem dX1_clear_20 : decode cX1_clear 20 = .ok (.aload_n 0, 1) := by decide +kernel
theorem dX1_clear_21 : decode cX1_clear 21 = .ok (.iconst 0, 1) := by decide +kernel
theorem dX1_clear_22 : decode cX1_clear 22 = .ok (.putfield 52, 3) := by decide +kernel
theorem dX1_clear_25 : decode cX1_clear 25 = .ok (.aload_n 0, 1) := by decide +kernel
theorem dX1_clear_26 : decode cX1_clear 26 = .ok (.iconst 0, 1) := by decide +kernel
theorem dX1_clear_27 : decode cX1_clear 27 = .ok (.putfield 55, 3) := by decide +kernel
theorem dX1_clear_30 : decode cX1_clear 30 = .ok (.aload_n 0, 1) := by decide +kernel
theorem dX1_clear_31 : decode cX1_clear 31 = .ok (.getfield 9, 3) := by decide +kernel
theorem dX1_clear_34 : decode cX1_clear 34 = .ok (.iconst 0, 1) := by decide +kernel
theorem dX1_clear_35 : decode cX1_clear 35 = .ok (.invokestatic 58, 3) := by decide +kernel
theorem dX1_clear_38 : decode cX1_clear 38 = .ok (.aload_n 0, 1) := by decide +kernel
theorem dX1_clear_39 : decode cX1_clear 39 = .ok (.getfield 15, 3) := by decide +kernel
theorem dX1_clear_42 : decode cX1_clear 42 = .ok (.iconst 0, 1) := by decide +kernel
theorem dX1_clear_43 : decode cX1_clear 43 = .ok (.invokestatic 58, 3) := by decide +kernel
theorem dX1_clear_46 : decode cX1_clear 46 = .ok (.aload_n 0, 1) := by decide +kernel
theorem dX1_clear_47 : decode cX1_clear 47 = .ok (.getfield 18, 3) := by decide +kernel
theorem dX1_clear_50 : decode cX1_clear 50 = .ok (.iconst 0, 1) := by decide +kernel
theorem dX1_clear_51 : decode cX1_clear 51 = .ok (.invokestatic 58, 3) := by decide +kernel
theorem dX1_clear_54 : decode cX1_clear 54 = .ok (.aload_n 0, 1) := by decide +kernel
theorem dX1_clear_55 : decode cX1_clear 55 = .ok (.getfield 21, 3) := by decide +kernel
theorem dX1_clear_58 : decode cX1_clear 58 = .ok (.iconst 0, 1) := by decide +kernel
theorem dX1_clear_59 : decode cX1_clear 59 = .ok (.invokestatic 58, 3) := by decide +kernel
theorem dX1_clear_62 : decode cX1_clear 62 = .ok (.aload_n 0, 1) := by decide +kernel
theorem dX1_clear_63 : decode cX1_clear 63 = .ok (.getfield 24, 3) := by decide +kernel
theorem dX1_clear_66 : decode cX1_clear 66 = .ok (.iconst 0, 1) := by decide +kernel
theorem dX1_clear_67 : decode cX1_clear 67 = .ok (.invokestatic 58, 3) := by decide +kernel
theorem dX1_clear_70 : decode cX1_clear 70 = .ok (.aload_n 0, 1) := by decide +kernel
theorem dX1_clear_71 : decode cX1_clear 71 = .ok (.getfield 27, 3) := by decide +kernel
theorem dX1_clear_74 : decode cX1_clear 74 = .ok (.iconst 0, 1) := by decide +kernel
theorem dX1_clear_75 : decode cX1_clear 75 = .ok (.invokestatic 58, 3) := by decide +kernel
theorem dX1_clear_78 : decode cX1_clear 78 = .ok (.aload_n 0, 1) := by decide +kernel
theorem dX1_clear_79 : decode cX1_clear 79 = .ok (.getfield 30, 3) := by decide +kernel
theorem dX1_clear_82 : decode cX1_clear 82 = .ok (.iconst 5, 1) := by decide +kernel
theorem dX1_clear_83 : decode cX1_clear 83 = .ok (.invokestatic 58, 3) := by decide +kernel
theorem dX1_clear_86 : decode cX1_clear 86 = .ok (.aload_n 0, 1) := by decide +kernel
theorem dX1_clear_87 : decode cX1_clear 87 = .ok (.getfield 33, 3) := by decide +kernel
theorem dX1_clear_90 : decode cX1_clear 90 = .ok (.iconst 0, 1) := by decide +kernel
theorem dX1_clear_91 : decode cX1_clear 91 = .ok (.invokestatic 58, 3) := by decide +kernel
theorem dX1_clear_94 : decode cX1_clear 94 = .ok (.return_, 1) := by decide +kernel
theorem dX1_copyFrom_0 : decode cX1_copyFrom 0 = .ok (.aload_n 0, 1) := by decide +kernel
theorem dX1_copyFrom_1 : decode cX1_copyFrom 1 = .ok (.aload_n 1, 1) := by decide +kernel
theorem dX1_copyFrom_2 : decode cX1_copyFrom 2 = .ok (.getfield 39, 3) := by decide +kernel
theorem dX1_copyFrom_5 : decode cX1_copyFrom 5 = .ok (.putfield 39, 3) := by decide +kernel
theorem dX1_copyFrom_8 : decode cX1_copyFrom 8 = .ok (.aload_n 0, 1) := by decide +kernel
theorem dX1_copyFrom_9 : decode cX1_copyFrom 9 = .ok (.aload_n 1, 1) := by decide +kernel
theorem dX1_copyFrom_10 : decode cX1_copyFrom 10 = .ok (.getfield 43, 3) := by decide +kernel
theorem dX1_copyFrom_13 : decode cX1_copyFrom 13 = .ok (.putfield 43, 3) := by decide +kernel
theorem dX1_copyFrom_16 : decode cX1_copyFrom 16 = .ok (.aload_n 0, 1) := by decide +kernel
theorem dX1_copyFrom_17 : decode cX1_copyFrom 17 = .ok (.aload_n 1, 1) := by decide +kernel
theorem dX1_copyFrom_18 : decode cX1_copyFrom 18 = .ok (.getfield 46, 3) := by decide +kernel
theorem dX1_copyFrom_21 : decode cX1_copyFrom 21 = .ok (.putfield 46, 3) := by decide +kernel
theorem dX1_copyFrom_24 : decode cX1_copyFrom 24 = .ok (.aload_n 0, 1) := by decide +kernel
theorem dX1_copyFrom_25 : decode cX1_copyFrom 25 = .ok (.aload_n 1, 1) := by decide +kernel
theorem dX1_copyFrom_26 : decode cX1_copyFrom 26 = .ok (.getfield 49, 3) := by decide +kernel
theorem dX1_copyFrom_29 : decode cX1_copyFrom 29 = .ok (.putfield 49, 3) := by decide +kernel
theorem dX1_copyFrom_32 : decode cX1_copyFrom 32 = .ok (.aload_n 0, 1) := by decide +kernel
theorem dX1_copyFrom_33 : decode cX1_copyFrom 33 = .ok (.aload_n 1, 1) := by decide +kernel
theorem dX1_copyFrom_34 : decode cX1_copyFrom 34 = .ok (.getfield 52, 3) := by decide +kernel
theorem dX1_copyFrom_37 : decode cX1_copyFrom 37 = .ok (.putfield 52, 3) := by decide +kernel
theorem dX1_copyFrom_40 : decode cX1_copyFrom 40 = .ok (.aload_n 0, 1) := by decide +kernel
theorem dX1_copyFrom_41 : decode cX1_copyFrom 41 = .ok (.aload_n 1, 1) := by decide +kernel
theorem dX1_copyFrom_42 : decode cX1_copyFrom 42 = .ok (.getfield 55, 3) := by decide +kernel
theorem dX1_copyFrom_45 : decode cX1_copyFrom 45 = .ok (.putfield 55, 3) := by decide +kernel
theorem dX1_copyFrom_48 : decode cX1_copyFrom 48 = .ok (.aload_n 1, 1) := by decide +kernel
theorem dX1_copyFrom_49 : decode cX1_copyFrom 49 = .ok (.getfield 9, 3) := by decide +kernel
theorem dX1_copyFrom_52 : decode cX1_copyFrom 52 = .ok (.iconst 0, 1) := by decide +kernel
theorem dX1_copyFrom_53 : decode cX1_copyFrom 53 = .ok (.aload_n 0, 1) := by decide +kernel
theorem dX1_copyFrom_54 : decode cX1_copyFrom 54 = .ok (.getfield 9, 3) := by decide +kernel
theorem dX1_copyFrom_57 : decode cX1_copyFrom 57 = .ok (.iconst 0, 1) := by decide +kernel
theorem dX1_copyFrom_58 : decode cX1_copyFrom 58 = .ok (.bipush 6, 2) := by decide +kernel
theorem dX1_copyFrom_60 : decode cX1_copyFrom 60 = .ok (.invokestatic 64, 3) := by decide +kernel
theorem dX1_copyFrom_63 : decode cX1_copyFrom 63 = .ok (.aload_n 1, 1) := by decide +kernel
theorem dX1_copyFrom_64 : decode cX1_copyFrom 64 = .ok (.getfield 15, 3) := by decide +kernel
theorem dX1_copyFrom_67 : decode cX1_copyFrom 67 = .ok (.iconst 0, 1) := by decide +kernel
theorem dX1_copyFrom_68 : decode cX1_copyFrom 68 = .ok (.aload_n 0, 1) := by decide +kernel
theorem dX1_copyFrom_69 : decode cX1_copyFrom 69 = .ok (.getfield 15, 3) := by decide +kernel
theorem dX1_copyFrom_72 : decode cX1_copyFrom 72 = .ok (.iconst 0, 1) := by decide +kernel
theorem dX1_copyFrom_73 : decode cX1_copyFrom 73 = .ok (.bipush 6, 2) := by decide +kernel
theorem dX1_copyFrom_75 : decode cX1_copyFrom 75 = .ok (.invokestatic 64, 3) := by decide +kernel
theorem dX1_copyFrom_78 : decode cX1_copyFrom 78 = .ok (.aload_n 1, 1) := by decide +kernel
theorem dX1_copyFrom_79 : decode cX1_copyFrom 79 = .ok (.getfield 18, 3) := by decide +kernel
theorem dX1_copyFrom_82 : decode cX1_copyFrom 82 = .ok (.iconst 0, 1) := by decide +kernel
theorem dX1_copyFrom_83 : decode cX1_copyFrom 83 = .ok (.aload_n 0, 1) := by decide +kernel
theorem dX1_copyFrom_84 : decode cX1_copyFrom 84 = .ok (.getfield 18, 3) := by decide +kernel
theorem dX1_copyFrom_87 : decode cX1_copyFrom 87 = .ok (.iconst 0, 1) := by decide +kernel
theorem dX1_copyFrom_88 : decode cX1_copyFrom 88 = .ok (.bipush 6, 2) := by decide +kernel
theorem dX1_copyFrom_90 : decode cX1_copyFrom 90 = .ok (.invokestatic 64, 3) := by decide +kernel
theorem dX1_copyFrom_93 : decode cX1_copyFrom 93 = .ok (.aload_n 1, 1) := by decide +kernel
theorem dX1_copyFrom_94 : decode cX1_copyFrom 94 = .ok (.getfield 21, 3) := by decide +kernel
theorem dX1_copyFrom_97 : decode cX1_copyFrom 97 = .ok (.iconst 0, 1) := by decide +kernel
theorem dX1_copyFrom_98 : decode cX1_copyFrom 98 = .ok (.aload_n 0, 1) := by decide +kernel
theorem dX1_copyFrom_99 : decode cX1_copyFrom 99 = .ok (.getfield 21, 3) := by decide +kernel
theorem dX1_copyFrom_102 : decode cX1_copyFrom 102 = .ok (.iconst 0, 1) := by decide +kernel
theorem dX1_copyFrom_103 : decode cX1_copyFrom 103 = .ok (.bipush 6, 2) := by decide +kernel
theorem dX1_copyFrom_105 : decode cX1_copyFrom 105 = .ok (.invokestatic 64, 3) := by decide +kernel
theorem dX1_copyFrom_108 : decode cX1_copyFrom 108 = .ok (.aload_n 1, 1) := by decide +kernel
theorem dX1_copyFrom_109 : decode cX1_copyFrom 109 = .ok (.getfield 24, 3) := by decide +kernel
theorem dX1_copyFrom_112 : decode cX1_copyFrom 112 = .ok (.iconst 0, 1) := by decide +kernel
theorem dX1_copyFrom_113 : decode cX1_copyFrom 113 = .ok (.aload_n 0, 1) := by decide +kernel
theorem dX1_copyFrom_114 : decode cX1_copyFrom 114 = .ok (.getfield 24, 3) := by decide +kernel
theorem dX1_copyFrom_117 : decode cX1_copyFrom 117 = .ok (.iconst 0, 1) := by decide +kernel
theorem dX1_copyFrom_118 : decode cX1_copyFrom 118 = .ok (.iconst 5, 1) := by decide +kernel
theorem dX1_copyFrom_119 : decode cX1_copyFrom 119 = .ok (.invokestatic 64, 3) := by decide +kernel
theorem dX1_copyFrom_122 : decode cX1_copyFrom 122 = .ok (.aload_n 1, 1) := by decide +kernel
theorem dX1_copyFrom_123 : decode cX1_copyFrom 123 = .ok (.getfield 27, 3) := by decide +kernel
theorem dX1_copyFrom_126 : decode cX1_copyFrom 126 = .ok (.iconst 0, 1) := by decide +kernel
theorem dX1_copyFrom_127 : decode cX1_copyFrom 127 = .ok (.aload_n 0, 1) := by decide +kernel
theorem dX1_copyFrom_128 : decode cX1_copyFrom 128 = .ok (.getfield 27, 3) := by decide +kernel
theorem dX1_copyFrom_131 : decode cX1_copyFrom 131 = .ok (.iconst 0, 1) := by decide +kernel
theorem dX1_copyFrom_132 : decode cX1_copyFrom 132 = .ok (.iconst 5, 1) := by decide +kernel
theorem dX1_copyFrom_133 : decode cX1_copyFrom 133 = .ok (.invokestatic 64, 3) := by decide +kernel
theorem dX1_copyFrom_136 : decode cX1_copyFrom 136 = .ok (.aload_n 1, 1) := by decide +kernel
theorem dX1_copyFrom_137 : decode cX1_copyFrom 137 = .ok (.getfield 30, 3) := by decide +kernel
theorem dX1_copyFrom_140 : decode cX1_copyFrom 140 = .ok (.iconst 0, 1) := by decide +kernel
theorem dX1_copyFrom_141 : decode cX1_copyFrom 141 = .ok (.aload_n 0, 1) := by decide +kernel
theorem dX1_copyFrom_142 : decode cX1_copyFrom 142 = .ok (.getfield 30, 3) := by decide +kernel
theorem dX1_copyFrom_145 : decode cX1_copyFrom 145 = .ok (.iconst 0, 1) := by decide +kernel
theorem dX1_copyFrom_146 : decode cX1_copyFrom 146 = .ok (.bipush 30, 2) := by decide +kernel
theorem dX1_copyFrom_148 : decode cX1_copyFrom 148 = .ok (.invokestatic 64, 3) := by decide +kernel
theorem dX1_copyFrom_151 : decode cX1_copyFrom 151 = .ok (.aload_n 1, 1) := by decide +kernel
theorem dX1_copyFrom_152 : decode cX1_copyFrom 152 = .ok (.getfield 33, 3) := by decide +kernel
theorem dX1_copyFrom_155 : decode cX1_copyFrom 155 = .ok (.iconst 0, 1) := by decide +kernel
theorem dX1_copyFrom_156 : decode cX1_copyFrom 156 = .ok (.aload_n 0, 1) := by decide +kernel
theorem dX1_copyFrom_157 : decode cX1_copyFrom 157 = .ok (.getfield 33, 3) := by decide +kernel
theorem dX1_copyFrom_160 : decode cX1_copyFrom 160 = .ok (.iconst 0, 1) := by decide +kernel
theorem dX1_copyFrom_161 : decode cX1_copyFrom 161 = .ok (.bipush 30, 2) := by decide +kernel
theorem dX1_copyFrom_163 : decode cX1_copyFrom 163 = .ok (.invokestatic 64, 3) := by decide +kernel
theorem dX1_copyFrom_166 : decode cX1_copyFrom 166 = .ok (.return_, 1) := by decide +kernel
theorem dX1_hasHouse_0 : decode cX1_hasHouse 0 = .ok (.iload_n 1, 1) := by decide +kernel
theorem dX1_hasHouse_1 : decode cX1_hasHouse 1 = .ok (.ifCond .lt 15, 3) := by decide +kernel
theorem dX1_hasHouse_4 : decode cX1_hasHouse 4 = .ok (.iload_n 1, 1) := by decide +kernel
theorem dX1_hasHouse_5 : decode cX1_hasHouse 5 = .ok (.aload_n 0, 1) := by decide +kernel
theorem dX1_hasHouse_6 : decode cX1_hasHouse 6 = .ok (.getfield 39, 3) := by decide +kernel
theorem dX1_hasHouse_9 : decode cX1_hasHouse 9 = .ok (.if_icmp .ge 7, 3) := by decide +kernel
theorem dX1_hasHouse_12 : decode cX1_hasHouse 12 = .ok (.iconst 1, 1) := by decide +kernel
theorem dX1_hasHouse_13 : decode cX1_hasHouse 13 = .ok (.goto 4, 3) := by decide +kernel
theorem dX1_hasHouse_16 : decode cX1_hasHouse 16 = .ok (.iconst 0, 1) := by decide +kernel
theorem dX1_hasHouse_17 : decode cX1_hasHouse 17 = .ok (.ireturn, 1) := by decide +kernel
theorem dX1_hasVegetable_0 : decode cX1_hasVegetable 0 = .ok (.iload_n 1, 1) := by decide +kernel
theorem dX1_hasVegetable_1 : decode cX1_hasVegetable 1 = .ok (.ifCond .lt 15, 3) := by decide +kernel
theorem dX1_hasVegetable_4 : decode cX1_hasVegetable 4 = .ok (.iload_n 1, 1) := by decide +kernel
theorem dX1_hasVegetable_5 : decode cX1_hasVegetable 5 = .ok (.aload_n 0, 1) := by decide +kernel
theorem dX1_hasVegetable_6 : decode cX1_hasVegetable 6 = .ok (.getfield 43, 3) := by decide +kernel
theorem dX1_hasVegetable_9 : decode cX1_hasVegetable 9 = .ok (.if_icmp .ge 7, 3) := by decide +kernel
theorem dX1_hasVegetable_12 : decode cX1_hasVegetable 12 = .ok (.iconst 1, 1) := by decide +kernel
theorem dX1_hasVegetable_13 : decode cX1_hasVegetable 13 = .ok (.goto 4, 3) := by decide +kernel
theorem dX1_hasVegetable_16 : decode cX1_hasVegetable 16 = .ok (.iconst 0, 1) := by decide +kernel
theorem dX1_hasVegetable_17 : decode cX1_hasVegetable 17 = .ok (.ireturn, 1) := by decide +kernel
theorem dX1_putHouse_0 : decode cX1_putHouse 0 = .ok (.aload_n 0, 1) := by decide +kernel
theorem dX1_putHouse_1 : decode cX1_putHouse 1 = .ok (.getfield 39, 3) := by decide +kernel
theorem dX1_putHouse_4 : decode cX1_putHouse 4 = .ok (.bipush 6, 2) := by decide +kernel
theorem dX1_putHouse_6 : decode cX1_putHouse 6 = .ok (.if_icmp .ge 33, 3) := by decide +kernel
theorem dX1_putHouse_9 : decode cX1_putHouse 9 = .ok (.aload_n 0, 1) := by decide +kernel
theorem dX1_putHouse_10 : decode cX1_putHouse 10 = .ok (.getfield 9, 3) := by decide +kernel
theorem dX1_putHouse_13 : decode cX1_putHouse 13 = .ok (.aload_n 0, 1) := by decide +kernel
theorem dX1_putHouse_14 : decode cX1_putHouse 14 = .ok (.getfield 39, 3) := by decide +kernel
theorem dX1_putHouse_17 : decode cX1_putHouse 17 = .ok (.iload_n 1, 1) := by decide +kernel
theorem dX1_putHouse_18 : decode cX1_putHouse 18 = .ok (.iastore, 1) := by decide +kernel
theorem dX1_putHouse_19 : decode cX1_putHouse 19 = .ok (.aload_n 0, 1) := by decide +kernel
theorem dX1_putHouse_20 : decode cX1_putHouse 20 = .ok (.getfield 15, 3) := by decide +kernel
theorem dX1_putHouse_23 : decode cX1_putHouse 23 = .ok (.aload_n 0, 1) := by decide +kernel
theorem dX1_putHouse_24 : decode cX1_putHouse 24 = .ok (.getfield 39, 3) := by decide +kernel
theorem dX1_putHouse_27 : decode cX1_putHouse 27 = .ok (.iload_n 2, 1) := by decide +kernel
theorem dX1_putHouse_28 : decode cX1_putHouse 28 = .ok (.iastore, 1) := by decide +kernel
theorem dX1_putHouse_29 : decode cX1_putHouse 29 = .ok (.aload_n 0, 1) := by decide +kernel
theorem dX1_putHouse_30 : decode cX1_putHouse 30 = .ok (.dup, 1) := by decide +kernel
theorem dX1_putHouse_31 : decode cX1_putHouse 31 = .ok (.getfield 39, 3) := by decide +kernel
theorem dX1_putHouse_34 : decode cX1_putHouse 34 = .ok (.iconst 1, 1) := by decide +kernel
theorem dX1_putHouse_35 : decode cX1_putHouse 35 = .ok (.iadd, 1) := by decide +kernel
theorem dX1_putHouse_36 : decode cX1_putHouse 36 = .ok (.putfield 39, 3) := by decide +kernel
theorem dX1_putHouse_39 : decode cX1_putHouse 39 = .ok (.return_, 1) := by decide +kernel
theorem dX1_putVegetable_0 : decode cX1_putVegetable 0 = .ok (.aload_n 0, 1) := by decide +kernel
theorem dX1_putVegetable_1 : decode cX1_putVegetable 1 = .ok (.getfield 43, 3) := by decide +kernel
theorem dX1_putVegetable_4 : decode cX1_putVegetable 4 = .ok (.iconst 5, 1) := by decide +kernel
theorem dX1_putVegetable_5 : decode cX1_putVegetable 5 = .ok (.if_icmp .ge 23, 3) := by decide +kernel
theorem dX1_putVegetable_8 : decode cX1_putVegetable 8 = .ok (.aload_n 0, 1) := by decide +kernel
theorem dX1_putVegetable_9 : decode cX1_putVegetable 9 = .ok (.getfield 24, 3) := by decide +kernel
theorem dX1_putVegetable_12 : decode cX1_putVegetable 12 = .ok (.aload_n 0, 1) := by decide +kernel
theorem dX1_putVegetable_13 : decode cX1_putVegetable 13 = .ok (.getfield 43, 3) := by decide +kernel
theorem dX1_putVegetable_16 : decode cX1_putVegetable 16 = .ok (.iload_n 1, 1) := by decide +kernel
theorem dX1_putVegetable_17 : decode cX1_putVegetable 17 = .ok (.iastore, 1) := by decide +kernel
theorem dX1_putVegetable_18 : decode cX1_putVegetable 18 = .ok (.aload_n 0, 1) := by decide +kernel
theorem dX1_putVegetable_19 : decode cX1_putVegetable 19 = .ok (.dup, 1) := by decide +kernel
theorem dX1_putVegetable_20 : decode cX1_putVegetable 20 = .ok (.getfield 43, 3) := by decide +kernel
theorem dX1_putVegetable_23 : decode cX1_putVegetable 23 = .ok (.iconst 1, 1) := by decide +kernel
theorem dX1_putVegetable_24 : decode cX1_putVegetable 24 = .ok (.iadd, 1) := by decide +kernel
theorem dX1_putVegetable_25 : decode cX1_putVegetable 25 = .ok (.putfield 43, 3) := by decide +kernel
theorem dX1_putVegetable_28 : decode cX1_putVegetable 28 = .ok (.return_, 1) := by decide +kernel
theorem dX1_giveAway_0 : decode cX1_giveAway 0 = .ok (.aload_n 0, 1) := by decide +kernel
theorem dX1_giveAway_1 : decode cX1_giveAway 1 = .ok (.getfield 33, 3) := by decide +kernel
theorem dX1_giveAway_4 : decode cX1_giveAway 4 = .ok (.iload_n 1, 1) := by decide +kernel
theorem dX1_giveAway_5 : decode cX1_giveAway 5 = .ok (.iload_n 2, 1) := by decide +kernel
theorem dX1_giveAway_6 : decode cX1_giveAway 6 = .ok (.invokestatic 70, 3) := by decide +kernel
theorem dX1_giveAway_9 : decode cX1_giveAway 9 = .ok (.dup2, 1) := by decide +kernel
theorem dX1_giveAway_10 : decode cX1_giveAway 10 = .ok (.iaload, 1) := by decide +kernel
theorem dX1_giveAway_11 : decode cX1_giveAway 11 = .ok (.iload_n 3, 1) := by decide +kernel
theorem dX1_giveAway_12 : decode cX1_giveAway 12 = .ok (.isub, 1) := by decide +kernel
theorem dX1_giveAway_13 : decode cX1_giveAway 13 = .ok (.iastore, 1) := by decide +kernel
theorem dX1_giveAway_14 : decode cX1_giveAway 14 = .ok (.aload_n 0, 1) := by decide +kernel
theorem dX1_giveAway_15 : decode cX1_giveAway 15 = .ok (.dup, 1) := by decide +kernel
theorem dX1_giveAway_16 : decode cX1_giveAway 16 = .ok (.getfield 52, 3) := by decide +kernel
theorem dX1_giveAway_19 : decode cX1_giveAway 19 = .ok (.iload_n 3, 1) := by decide +kernel
theorem dX1_giveAway_20 : decode cX1_giveAway 20 = .ok (.iadd, 1) := by decide +kernel
theorem dX1_giveAway_21 : decode cX1_giveAway 21 = .ok (.putfield 52, 3) := by decide +kernel
theorem dX1_giveAway_24 : decode cX1_giveAway 24 = .ok (.return_, 1) := by decide +kernel
theorem dX1_getsBoxNext_0 : decode cX1_getsBoxNext 0 = .ok (.aload_n 0, 1) := by decide +kernel
theorem dX1_getsBoxNext_1 : decode cX1_getsBoxNext 1 = .ok (.getfield 21, 3) := by decide +kernel
theorem dX1_getsBoxNext_4 : decode cX1_getsBoxNext 4 = .ok (.iload_n 1, 1) := by decide +kernel
theorem dX1_getsBoxNext_5 : decode cX1_getsBoxNext 5 = .ok (.iaload, 1) := by decide +kernel
theorem dX1_getsBoxNext_6 : decode cX1_getsBoxNext 6 = .ok (.ifCond .ne 17, 3) := by decide +kernel
theorem dX1_getsBoxNext_9 : decode cX1_getsBoxNext 9 = .ok (.aload_n 0, 1) := by decide +kernel
theorem dX1_getsBoxNext_10 : decode cX1_getsBoxNext 10 = .ok (.getfield 15, 3) := by decide +kernel
theorem dX1_getsBoxNext_13 : decode cX1_getsBoxNext 13 = .ok (.iload_n 1, 1) := by decide +kernel
theorem dX1_getsBoxNext_14 : decode cX1_getsBoxNext 14 = .ok (.iaload, 1) := by decide +kernel
theorem dX1_getsBoxNext_15 : decode cX1_getsBoxNext 15 = .ok (.iconst 3, 1) := by decide +kernel
theorem dX1_getsBoxNext_16 : decode cX1_getsBoxNext 16 = .ok (.if_icmp .ge 7, 3) := by decide +kernel
theorem dX1_getsBoxNext_19 : decode cX1_getsBoxNext 19 = .ok (.iconst 1, 1) := by decide +kernel
theorem dX1_getsBoxNext_20 : decode cX1_getsBoxNext 20 = .ok (.goto 4, 3) := by decide +kernel
theorem dX1_getsBoxNext_23 : decode cX1_getsBoxNext 23 = .ok (.iconst 0, 1) := by decide +kernel
theorem dX1_getsBoxNext_24 : decode cX1_getsBoxNext 24 = .ok (.ireturn, 1) := by decide +kernel
theorem dX1_housesWithBoxNext_0 : decode cX1_housesWithBoxNext 0 = .ok (.iconst 0, 1) := by decide +kernel
theorem dX1_housesWithBoxNext_1 : decode cX1_housesWithBoxNext 1 = .ok (.istore_n 1, 1) := by decide +kernel
theorem dX1_housesWithBoxNext_2 : decode cX1_housesWithBoxNext 2 = .ok (.iconst 0, 1) := by decide +kernel
theorem dX1_housesWithBoxNext_3 : decode cX1_housesWithBoxNext 3 = .ok (.istore_n 2, 1) := by decide +kernel
theorem dX1_housesWithBoxNext_4 : decode cX1_housesWithBoxNext 4 = .ok (.iload_n 2, 1) := by decide +kernel
theorem dX1_housesWithBoxNext_5 : decode cX1_housesWithBoxNext 5 = .ok (.aload_n 0, 1) := by decide +kernel
theorem dX1_housesWithBoxNext_6 : decode cX1_housesWithBoxNext 6 = .ok (.getfield 39, 3) := by decide +kernel
theorem dX1_housesWithBoxNext_9 : decode cX1_housesWithBoxNext 9 = .ok (.if_icmp .ge 20, 3) := by decide +kernel
theorem dX1_housesWithBoxNext_12 : decode cX1_housesWithBoxNext 12 = .ok (.aload_n 0, 1) := by decide +kernel
theorem dX1_housesWithBoxNext_13 : decode cX1_housesWithBoxNext 13 = .ok (.iload_n 2, 1) := by decide +kernel
theorem dX1_housesWithBoxNext_14 : decode cX1_housesWithBoxNext 14 = .ok (.invokevirtual 74, 3) := by decide +kernel
theorem dX1_housesWithBoxNext_17 : decode cX1_housesWithBoxNext 17 = .ok (.ifCond .eq 6, 3) := by decide +kernel
theorem dX1_housesWithBoxNext_20 : decode cX1_housesWithBoxNext 20 = .ok (.iinc 1 1, 3) := by decide +kernel
theorem dX1_housesWithBoxNext_23 : decode cX1_housesWithBoxNext 23 = .ok (.iinc 2 1, 3) := by decide +kernel
theorem dX1_housesWithBoxNext_26 : decode cX1_housesWithBoxNext 26 = .ok (.goto (-22), 3) := by decide +kernel
theorem dX1_housesWithBoxNext_29 : decode cX1_housesWithBoxNext 29 = .ok (.iload_n 1, 1) := by decide +kernel
theorem dX1_housesWithBoxNext_30 : decode cX1_housesWithBoxNext 30 = .ok (.ireturn, 1) := by decide +kernel
theorem dX1_kilosOfHouse_0 : decode cX1_kilosOfHouse 0 = .ok (.iconst 0, 1) := by decide +kernel
theorem dX1_kilosOfHouse_1 : decode cX1_kilosOfHouse 1 = .ok (.istore_n 2, 1) := by decide +kernel
theorem dX1_kilosOfHouse_2 : decode cX1_kilosOfHouse 2 = .ok (.iconst 0, 1) := by decide +kernel
theorem dX1_kilosOfHouse_3 : decode cX1_kilosOfHouse 3 = .ok (.istore_n 3, 1) := by decide +kernel
theorem dX1_kilosOfHouse_4 : decode cX1_kilosOfHouse 4 = .ok (.iload_n 3, 1) := by decide +kernel
theorem dX1_kilosOfHouse_5 : decode cX1_kilosOfHouse 5 = .ok (.aload_n 0, 1) := by decide +kernel
theorem dX1_kilosOfHouse_6 : decode cX1_kilosOfHouse 6 = .ok (.getfield 43, 3) := by decide +kernel
theorem dX1_kilosOfHouse_9 : decode cX1_kilosOfHouse 9 = .ok (.if_icmp .ge 22, 3) := by decide +kernel
theorem dX1_kilosOfHouse_12 : decode cX1_kilosOfHouse 12 = .ok (.iload_n 2, 1) := by decide +kernel
theorem dX1_kilosOfHouse_13 : decode cX1_kilosOfHouse 13 = .ok (.aload_n 0, 1) := by decide +kernel
theorem dX1_kilosOfHouse_14 : decode cX1_kilosOfHouse 14 = .ok (.getfield 33, 3) := by decide +kernel
theorem dX1_kilosOfHouse_17 : decode cX1_kilosOfHouse 17 = .ok (.iload_n 1, 1) := by decide +kernel
theorem dX1_kilosOfHouse_18 : decode cX1_kilosOfHouse 18 = .ok (.iload_n 3, 1) := by decide +kernel
theorem dX1_kilosOfHouse_19 : decode cX1_kilosOfHouse 19 = .ok (.invokestatic 70, 3) := by decide +kernel
theorem dX1_kilosOfHouse_22 : decode cX1_kilosOfHouse 22 = .ok (.iaload, 1) := by decide +kernel
theorem dX1_kilosOfHouse_23 : decode cX1_kilosOfHouse 23 = .ok (.iadd, 1) := by decide +kernel
theorem dX1_kilosOfHouse_24 : decode cX1_kilosOfHouse 24 = .ok (.istore_n 2, 1) := by decide +kernel
theorem dX1_kilosOfHouse_25 : decode cX1_kilosOfHouse 25 = .ok (.iinc 3 1, 3) := by decide +kernel
theorem dX1_kilosOfHouse_28 : decode cX1_kilosOfHouse 28 = .ok (.goto (-24), 3) := by decide +kernel
theorem dX1_kilosOfHouse_31 : decode cX1_kilosOfHouse 31 = .ok (.iload_n 2, 1) := by decide +kernel
theorem dX1_kilosOfHouse_32 : decode cX1_kilosOfHouse 32 = .ok (.ireturn, 1) := by decide +kernel
theorem dX1_kilosOfVegetable_0 : decode cX1_kilosOfVegetable 0 = .ok (.iconst 0, 1) := by decide +kernel
theorem dX1_kilosOfVegetable_1 : decode cX1_kilosOfVegetable 1 = .ok (.istore_n 2, 1) := by decide +kernel
theorem dX1_kilosOfVegetable_2 : decode cX1_kilosOfVegetable 2 = .ok (.iconst 0, 1) := by decide +kernel
theorem dX1_kilosOfVegetable_3 : decode cX1_kilosOfVegetable 3 = .ok (.istore_n 3, 1) := by decide +kernel
theorem dX1_kilosOfVegetable_4 : decode cX1_kilosOfVegetable 4 = .ok (.iload_n 3, 1) := by decide +kernel
theorem dX1_kilosOfVegetable_5 : decode cX1_kilosOfVegetable 5 = .ok (.aload_n 0, 1) := by decide +kernel
theorem dX1_kilosOfVegetable_6 : decode cX1_kilosOfVegetable 6 = .ok (.getfield 39, 3) := by decide +kernel
theorem dX1_kilosOfVegetable_9 : decode cX1_kilosOfVegetable 9 = .ok (.if_icmp .ge 22, 3) := by decide +kernel
theorem dX1_kilosOfVegetable_12 : decode cX1_kilosOfVegetable 12 = .ok (.iload_n 2, 1) := by decide +kernel
theorem dX1_kilosOfVegetable_13 : decode cX1_kilosOfVegetable 13 = .ok (.aload_n 0, 1) := by decide +kernel
theorem dX1_kilosOfVegetable_14 : decode cX1_kilosOfVegetable 14 = .ok (.getfield 33, 3) := by decide +kernel
theorem dX1_kilosOfVegetable_17 : decode cX1_kilosOfVegetable 17 = .ok (.iload_n 3, 1) := by decide +kernel
theorem dX1_kilosOfVegetable_18 : decode cX1_kilosOfVegetable 18 = .ok (.iload_n 1, 1) := by decide +kernel
theorem dX1_kilosOfVegetable_19 : decode cX1_kilosOfVegetable 19 = .ok (.invokestatic 70, 3) := by decide +kernel
theorem dX1_kilosOfVegetable_22 : decode cX1_kilosOfVegetable 22 = .ok (.iaload, 1) := by decide +kernel
theorem dX1_kilosOfVegetable_23 : decode cX1_kilosOfVegetable 23 = .ok (.iadd, 1) := by decide +kernel
theorem dX1_kilosOfVegetable_24 : decode cX1_kilosOfVegetable 24 = .ok (.istore_n 2, 1) := by decide +kernel
theorem dX1_kilosOfVegetable_25 : decode cX1_kilosOfVegetable 25 = .ok (.iinc 3 1, 3) := by decide +kernel
theorem dX1_kilosOfVegetable_28 : decode cX1_kilosOfVegetable 28 = .ok (.goto (-24), 3) := by decide +kernel
theorem dX1_kilosOfVegetable_31 : decode cX1_kilosOfVegetable 31 = .ok (.iload_n 2, 1) := by decide +kernel
theorem dX1_kilosOfVegetable_32 : decode cX1_kilosOfVegetable 32 = .ok (.ireturn, 1) := by decide +kernel
theorem dX1_kilosInBoxes_0 : decode cX1_kilosInBoxes 0 = .ok (.iconst 0, 1) := by decide +kernel
theorem dX1_kilosInBoxes_1 : decode cX1_kilosInBoxes 1 = .ok (.istore_n 1, 1) := by decide +kernel
theorem dX1_kilosInBoxes_2 : decode cX1_kilosInBoxes 2 = .ok (.iconst 0, 1) := by decide +kernel
theorem dX1_kilosInBoxes_3 : decode cX1_kilosInBoxes 3 = .ok (.istore_n 2, 1) := by decide +kernel
theorem dX1_kilosInBoxes_4 : decode cX1_kilosInBoxes 4 = .ok (.iload_n 2, 1) := by decide +kernel
theorem dX1_kilosInBoxes_5 : decode cX1_kilosInBoxes 5 = .ok (.aload_n 0, 1) := by decide +kernel
theorem dX1_kilosInBoxes_6 : decode cX1_kilosInBoxes 6 = .ok (.getfield 39, 3) := by decide +kernel
theorem dX1_kilosInBoxes_9 : decode cX1_kilosInBoxes 9 = .ok (.if_icmp .ge 17, 3) := by decide +kernel
theorem dX1_kilosInBoxes_12 : decode cX1_kilosInBoxes 12 = .ok (.iload_n 1, 1) := by decide +kernel
theorem dX1_kilosInBoxes_13 : decode cX1_kilosInBoxes 13 = .ok (.aload_n 0, 1) := by decide +kernel
theorem dX1_kilosInBoxes_14 : decode cX1_kilosInBoxes 14 = .ok (.iload_n 2, 1) := by decide +kernel
theorem dX1_kilosInBoxes_15 : decode cX1_kilosInBoxes 15 = .ok (.invokevirtual 78, 3) := by decide +kernel
theorem dX1_kilosInBoxes_18 : decode cX1_kilosInBoxes 18 = .ok (.iadd, 1) := by decide +kernel
theorem dX1_kilosInBoxes_19 : decode cX1_kilosInBoxes 19 = .ok (.istore_n 1, 1) := by decide +kernel
theorem dX1_kilosInBoxes_20 : decode cX1_kilosInBoxes 20 = .ok (.iinc 2 1, 3) := by decide +kernel
theorem dX1_kilosInBoxes_23 : decode cX1_kilosInBoxes 23 = .ok (.goto (-19), 3) := by decide +kernel
theorem dX1_kilosInBoxes_26 : decode cX1_kilosInBoxes 26 = .ok (.iload_n 1, 1) := by decide +kernel
theorem dX1_kilosInBoxes_27 : decode cX1_kilosInBoxes 27 = .ok (.ireturn, 1) := by decide +kernel
theorem dX1_compostedOfAll_0 : decode cX1_compostedOfAll 0 = .ok (.iconst 0, 1) := by decide +kernel
theorem dX1_compostedOfAll_1 : decode cX1_compostedOfAll 1 = .ok (.istore_n 1, 1) := by decide +kernel
theorem dX1_compostedOfAll_2 : decode cX1_compostedOfAll 2 = .ok (.iconst 0, 1) := by decide +kernel
theorem dX1_compostedOfAll_3 : decode cX1_compostedOfAll 3 = .ok (.istore_n 2, 1) := by decide +kernel
theorem dX1_compostedOfAll_4 : decode cX1_compostedOfAll 4 = .ok (.iload_n 2, 1) := by decide +kernel
theorem dX1_compostedOfAll_5 : decode cX1_compostedOfAll 5 = .ok (.aload_n 0, 1) := by decide +kernel
theorem dX1_compostedOfAll_6 : decode cX1_compostedOfAll 6 = .ok (.getfield 43, 3) := by decide +kernel
theorem dX1_compostedOfAll_9 : decode cX1_compostedOfAll 9 = .ok (.if_icmp .ge 18, 3) := by decide +kernel
theorem dX1_compostedOfAll_12 : decode cX1_compostedOfAll 12 = .ok (.iload_n 1, 1) := by decide +kernel
theorem dX1_compostedOfAll_13 : decode cX1_compostedOfAll 13 = .ok (.aload_n 0, 1) := by decide +kernel
theorem dX1_compostedOfAll_14 : decode cX1_compostedOfAll 14 = .ok (.getfield 27, 3) := by decide +kernel
theorem dX1_compostedOfAll_17 : decode cX1_compostedOfAll 17 = .ok (.iload_n 2, 1) := by decide +kernel
theorem dX1_compostedOfAll_18 : decode cX1_compostedOfAll 18 = .ok (.iaload, 1) := by decide +kernel
theorem dX1_compostedOfAll_19 : decode cX1_compostedOfAll 19 = .ok (.iadd, 1) := by decide +kernel
theorem dX1_compostedOfAll_20 : decode cX1_compostedOfAll 20 = .ok (.istore_n 1, 1) := by decide +kernel
theorem dX1_compostedOfAll_21 : decode cX1_compostedOfAll 21 = .ok (.iinc 2 1, 3) := by decide +kernel
theorem dX1_compostedOfAll_24 : decode cX1_compostedOfAll 24 = .ok (.goto (-20), 3) := by decide +kernel
theorem dX1_compostedOfAll_27 : decode cX1_compostedOfAll 27 = .ok (.iload_n 1, 1) := by decide +kernel
theorem dX1_compostedOfAll_28 : decode cX1_compostedOfAll 28 = .ok (.ireturn, 1) := by decide +kernel
theorem dX1_owedByAll_0 : decode cX1_owedByAll 0 = .ok (.iconst 0, 1) := by decide +kernel
theorem dX1_owedByAll_1 : decode cX1_owedByAll 1 = .ok (.istore_n 1, 1) := by decide +kernel
theorem dX1_owedByAll_2 : decode cX1_owedByAll 2 = .ok (.iconst 0, 1) := by decide +kernel
theorem dX1_owedByAll_3 : decode cX1_owedByAll 3 = .ok (.istore_n 2, 1) := by decide +kernel
theorem dX1_owedByAll_4 : decode cX1_owedByAll 4 = .ok (.iload_n 2, 1) := by decide +kernel
theorem dX1_owedByAll_5 : decode cX1_owedByAll 5 = .ok (.aload_n 0, 1) := by decide +kernel
theorem dX1_owedByAll_6 : decode cX1_owedByAll 6 = .ok (.getfield 39, 3) := by decide +kernel
theorem dX1_owedByAll_9 : decode cX1_owedByAll 9 = .ok (.if_icmp .ge 18, 3) := by decide +kernel
theorem dX1_owedByAll_12 : decode cX1_owedByAll 12 = .ok (.iload_n 1, 1) := by decide +kernel
theorem dX1_owedByAll_13 : decode cX1_owedByAll 13 = .ok (.aload_n 0, 1) := by decide +kernel
theorem dX1_owedByAll_14 : decode cX1_owedByAll 14 = .ok (.getfield 15, 3) := by decide +kernel
theorem dX1_owedByAll_17 : decode cX1_owedByAll 17 = .ok (.iload_n 2, 1) := by decide +kernel
theorem dX1_owedByAll_18 : decode cX1_owedByAll 18 = .ok (.iaload, 1) := by decide +kernel
theorem dX1_owedByAll_19 : decode cX1_owedByAll 19 = .ok (.iadd, 1) := by decide +kernel
theorem dX1_owedByAll_20 : decode cX1_owedByAll 20 = .ok (.istore_n 1, 1) := by decide +kernel
theorem dX1_owedByAll_21 : decode cX1_owedByAll 21 = .ok (.iinc 2 1, 3) := by decide +kernel
theorem dX1_owedByAll_24 : decode cX1_owedByAll 24 = .ok (.goto (-20), 3) := by decide +kernel
theorem dX1_owedByAll_27 : decode cX1_owedByAll 27 = .ok (.iload_n 1, 1) := by decide +kernel
theorem dX1_owedByAll_28 : decode cX1_owedByAll 28 = .ok (.ireturn, 1) := by decide +kernel
theorem dX1_happinessOf_0 : decode cX1_happinessOf 0 = .ok (.iconst 0, 1) := by decide +kernel
theorem dX1_happinessOf_1 : decode cX1_happinessOf 1 = .ok (.istore_n 2, 1) := by decide +kernel
theorem dX1_happinessOf_2 : decode cX1_happinessOf 2 = .ok (.iconst 0, 1) := by decide +kernel
theorem dX1_happinessOf_3 : decode cX1_happinessOf 3 = .ok (.istore_n 3, 1) := by decide +kernel
theorem dX1_happinessOf_4 : decode cX1_happinessOf 4 = .ok (.iload_n 3, 1) := by decide +kernel
theorem dX1_happinessOf_5 : decode cX1_happinessOf 5 = .ok (.aload_n 0, 1) := by decide +kernel
theorem dX1_happinessOf_6 : decode cX1_happinessOf 6 = .ok (.getfield 43, 3) := by decide +kernel
theorem dX1_happinessOf_9 : decode cX1_happinessOf 9 = .ok (.if_icmp .ge 33, 3) := by decide +kernel
theorem dX1_happinessOf_12 : decode cX1_happinessOf 12 = .ok (.iload_n 2, 1) := by decide +kernel
theorem dX1_happinessOf_13 : decode cX1_happinessOf 13 = .ok (.aload_n 0, 1) := by decide +kernel
theorem dX1_happinessOf_14 : decode cX1_happinessOf 14 = .ok (.getfield 30, 3) := by decide +kernel
theorem dX1_happinessOf_17 : decode cX1_happinessOf 17 = .ok (.iload_n 1, 1) := by decide +kernel
theorem dX1_happinessOf_18 : decode cX1_happinessOf 18 = .ok (.iload_n 3, 1) := by decide +kernel
theorem dX1_happinessOf_19 : decode cX1_happinessOf 19 = .ok (.invokestatic 70, 3) := by decide +kernel
theorem dX1_happinessOf_22 : decode cX1_happinessOf 22 = .ok (.iaload, 1) := by decide +kernel
theorem dX1_happinessOf_23 : decode cX1_happinessOf 23 = .ok (.aload_n 0, 1) := by decide +kernel
theorem dX1_happinessOf_24 : decode cX1_happinessOf 24 = .ok (.getfield 33, 3) := by decide +kernel
theorem dX1_happinessOf_27 : decode cX1_happinessOf 27 = .ok (.iload_n 1, 1) := by decide +kernel
theorem dX1_happinessOf_28 : decode cX1_happinessOf 28 = .ok (.iload_n 3, 1) := by decide +kernel
theorem dX1_happinessOf_29 : decode cX1_happinessOf 29 = .ok (.invokestatic 70, 3) := by decide +kernel
theorem dX1_happinessOf_32 : decode cX1_happinessOf 32 = .ok (.iaload, 1) := by decide +kernel
theorem dX1_happinessOf_33 : decode cX1_happinessOf 33 = .ok (.imul, 1) := by decide +kernel
theorem dX1_happinessOf_34 : decode cX1_happinessOf 34 = .ok (.iadd, 1) := by decide +kernel
theorem dX1_happinessOf_35 : decode cX1_happinessOf 35 = .ok (.istore_n 2, 1) := by decide +kernel
theorem dX1_happinessOf_36 : decode cX1_happinessOf 36 = .ok (.iinc 3 1, 3) := by decide +kernel
theorem dX1_happinessOf_39 : decode cX1_happinessOf 39 = .ok (.goto (-35), 3) := by decide +kernel
theorem dX1_happinessOf_42 : decode cX1_happinessOf 42 = .ok (.iload_n 2, 1) := by decide +kernel
theorem dX1_happinessOf_43 : decode cX1_happinessOf 43 = .ok (.ireturn, 1) := by decide +kernel
theorem dX1_happinessOfAll_0 : decode cX1_happinessOfAll 0 = .ok (.iconst 0, 1) := by decide +kernel
theorem dX1_happinessOfAll_1 : decode cX1_happinessOfAll 1 = .ok (.istore_n 1, 1) := by decide +kernel
theorem dX1_happinessOfAll_2 : decode cX1_happinessOfAll 2 = .ok (.iconst 0, 1) := by decide +kernel
theorem dX1_happinessOfAll_3 : decode cX1_happinessOfAll 3 = .ok (.istore_n 2, 1) := by decide +kernel
theorem dX1_happinessOfAll_4 : decode cX1_happinessOfAll 4 = .ok (.iload_n 2, 1) := by decide +kernel
theorem dX1_happinessOfAll_5 : decode cX1_happinessOfAll 5 = .ok (.aload_n 0, 1) := by decide +kernel
theorem dX1_happinessOfAll_6 : decode cX1_happinessOfAll 6 = .ok (.getfield 39, 3) := by decide +kernel
theorem dX1_happinessOfAll_9 : decode cX1_happinessOfAll 9 = .ok (.if_icmp .ge 17, 3) := by decide +kernel
theorem dX1_happinessOfAll_12 : decode cX1_happinessOfAll 12 = .ok (.iload_n 1, 1) := by decide +kernel
theorem dX1_happinessOfAll_13 : decode cX1_happinessOfAll 13 = .ok (.aload_n 0, 1) := by decide +kernel
theorem dX1_happinessOfAll_14 : decode cX1_happinessOfAll 14 = .ok (.iload_n 2, 1) := by decide +kernel
theorem dX1_happinessOfAll_15 : decode cX1_happinessOfAll 15 = .ok (.invokevirtual 82, 3) := by decide +kernel
theorem dX1_happinessOfAll_18 : decode cX1_happinessOfAll 18 = .ok (.iadd, 1) := by decide +kernel
theorem dX1_happinessOfAll_19 : decode cX1_happinessOfAll 19 = .ok (.istore_n 1, 1) := by decide +kernel
theorem dX1_happinessOfAll_20 : decode cX1_happinessOfAll 20 = .ok (.iinc 2 1, 3) := by decide +kernel
theorem dX1_happinessOfAll_23 : decode cX1_happinessOfAll 23 = .ok (.goto (-19), 3) := by decide +kernel
theorem dX1_happinessOfAll_26 : decode cX1_happinessOfAll 26 = .ok (.iload_n 1, 1) := by decide +kernel
theorem dX1_happinessOfAll_27 : decode cX1_happinessOfAll 27 = .ok (.ireturn, 1) := by decide +kernel
theorem dX1_placeOf_0 : decode cX1_placeOf 0 = .ok (.aload_n 0, 1) := by decide +kernel
theorem dX1_placeOf_1 : decode cX1_placeOf 1 = .ok (.iload_n 1, 1) := by decide +kernel
theorem dX1_placeOf_2 : decode cX1_placeOf 2 = .ok (.invokevirtual 82, 3) := by decide +kernel
theorem dX1_placeOf_5 : decode cX1_placeOf 5 = .ok (.istore_n 2, 1) := by decide +kernel
theorem dX1_placeOf_6 : decode cX1_placeOf 6 = .ok (.iconst 0, 1) := by decide +kernel
theorem dX1_placeOf_7 : decode cX1_placeOf 7 = .ok (.istore_n 3, 1) := by decide +kernel
theorem dX1_placeOf_8 : decode cX1_placeOf 8 = .ok (.iconst 0, 1) := by decide +kernel
theorem dX1_placeOf_9 : decode cX1_placeOf 9 = .ok (.istore 4, 2) := by decide +kernel
theorem dX1_placeOf_11 : decode cX1_placeOf 11 = .ok (.iload 4, 2) := by decide +kernel
theorem dX1_placeOf_13 : decode cX1_placeOf 13 = .ok (.aload_n 0, 1) := by decide +kernel
theorem dX1_placeOf_14 : decode cX1_placeOf 14 = .ok (.getfield 39, 3) := by decide +kernel
theorem dX1_placeOf_17 : decode cX1_placeOf 17 = .ok (.if_icmp .ge 38, 3) := by decide +kernel
theorem dX1_placeOf_20 : decode cX1_placeOf 20 = .ok (.aload_n 0, 1) := by decide +kernel
theorem dX1_placeOf_21 : decode cX1_placeOf 21 = .ok (.iload 4, 2) := by decide +kernel
theorem dX1_placeOf_23 : decode cX1_placeOf 23 = .ok (.invokevirtual 82, 3) := by decide +kernel
theorem dX1_placeOf_26 : decode cX1_placeOf 26 = .ok (.istore 5, 2) := by decide +kernel
theorem dX1_placeOf_28 : decode cX1_placeOf 28 = .ok (.iload 5, 2) := by decide +kernel
theorem dX1_placeOf_30 : decode cX1_placeOf 30 = .ok (.iload_n 2, 1) := by decide +kernel
theorem dX1_placeOf_31 : decode cX1_placeOf 31 = .ok (.if_icmp .gt 15, 3) := by decide +kernel
theorem dX1_placeOf_34 : decode cX1_placeOf 34 = .ok (.iload 5, 2) := by decide +kernel
theorem dX1_placeOf_36 : decode cX1_placeOf 36 = .ok (.iload_n 2, 1) := by decide +kernel
theorem dX1_placeOf_37 : decode cX1_placeOf 37 = .ok (.if_icmp .ne 12, 3) := by decide +kernel
theorem dX1_placeOf_40 : decode cX1_placeOf 40 = .ok (.iload 4, 2) := by decide +kernel
theorem dX1_placeOf_42 : decode cX1_placeOf 42 = .ok (.iload_n 1, 1) := by decide +kernel
theorem dX1_placeOf_43 : decode cX1_placeOf 43 = .ok (.if_icmp .ge 6, 3) := by decide +kernel
theorem dX1_placeOf_46 : decode cX1_placeOf 46 = .ok (.iinc 3 1, 3) := by decide +kernel
theorem dX1_placeOf_49 : decode cX1_placeOf 49 = .ok (.iinc 4 1, 3) := by decide +kernel
theorem dX1_placeOf_52 : decode cX1_placeOf 52 = .ok (.goto (-41), 3) := by decide +kernel
theorem dX1_placeOf_55 : decode cX1_placeOf 55 = .ok (.iload_n 3, 1) := by decide +kernel
theorem dX1_placeOf_56 : decode cX1_placeOf 56 = .ok (.ireturn, 1) := by decide +kernel
theorem dX2_init_0 : decode cX2_init 0 = .ok (.aload_n 0, 1) := by decide +kernel
theorem dX2_init_1 : decode cX2_init 1 = .ok (.invokespecial 3, 3) := by decide +kernel
theorem dX2_init_4 : decode cX2_init 4 = .ok (.aload_n 0, 1) := by decide +kernel
theorem dX2_init_5 : decode cX2_init 5 = .ok (.bipush 120, 2) := by decide +kernel
theorem dX2_init_7 : decode cX2_init 7 = .ok (.newarray .int, 2) := by decide +kernel
theorem dX2_init_9 : decode cX2_init 9 = .ok (.putfield 9, 3) := by decide +kernel
theorem dX2_init_12 : decode cX2_init 12 = .ok (.return_, 1) := by decide +kernel
theorem dX3_init_0 : decode cX3_init 0 = .ok (.aload_n 0, 1) := by decide +kernel
theorem dX3_init_1 : decode cX3_init 1 = .ok (.invokespecial 3, 3) := by decide +kernel
theorem dX3_init_4 : decode cX3_init 4 = .ok (.aload_n 0, 1) := by decide +kernel
theorem dX3_init_5 : decode cX3_init 5 = .ok (.bipush 14, 2) := by decide +kernel
theorem dX3_init_7 : decode cX3_init 7 = .ok (.anewarray 9, 3) := by decide +kernel
theorem dX3_init_10 : decode cX3_init 10 = .ok (.putfield 11, 3) := by decide +kernel
theorem dX3_init_13 : decode cX3_init 13 = .ok (.iconst 0, 1) := by decide +kernel
theorem dX3_init_14 : decode cX3_init 14 = .ok (.istore_n 1, 1) := by decide +kernel
theorem dX3_init_15 : decode cX3_init 15 = .ok (.iload_n 1, 1) := by decide +kernel
theorem dX3_init_16 : decode cX3_init 16 = .ok (.bipush 14, 2) := by decide +kernel
theorem dX3_init_18 : decode cX3_init 18 = .ok (.if_icmp .ge 22, 3) := by decide +kernel
theorem dX3_init_21 : decode cX3_init 21 = .ok (.aload_n 0, 1) := by decide +kernel
theorem dX3_init_22 : decode cX3_init 22 = .ok (.getfield 11, 3) := by decide +kernel
theorem dX3_init_25 : decode cX3_init 25 = .ok (.iload_n 1, 1) := by decide +kernel
theorem dX3_init_26 : decode cX3_init 26 = .ok (.new 9, 3) := by decide +kernel
theorem dX3_init_29 : decode cX3_init 29 = .ok (.dup, 1) := by decide +kernel
theorem dX3_init_30 : decode cX3_init 30 = .ok (.invokespecial 17, 3) := by decide +kernel
theorem dX3_init_33 : decode cX3_init 33 = .ok (.aastore, 1) := by decide +kernel
theorem dX3_init_34 : decode cX3_init 34 = .ok (.iinc 1 1, 3) := by decide +kernel
theorem dX3_init_37 : decode cX3_init 37 = .ok (.goto (-22), 3) := by decide +kernel
theorem dX3_init_40 : decode cX3_init 40 = .ok (.return_, 1) := by decide +kernel
theorem dX3_remembered_0 : decode cX3_remembered 0 = .ok (.aload_n 0, 1) := by decide +kernel
theorem dX3_remembered_1 : decode cX3_remembered 1 = .ok (.getfield 18, 3) := by decide +kernel
theorem dX3_remembered_4 : decode cX3_remembered 4 = .ok (.ireturn, 1) := by decide +kernel
theorem dX3_forget_0 : decode cX3_forget 0 = .ok (.aload_n 0, 1) := by decide +kernel
theorem dX3_forget_1 : decode cX3_forget 1 = .ok (.iconst 0, 1) := by decide +kernel
theorem dX3_forget_2 : decode cX3_forget 2 = .ok (.putfield 18, 3) := by decide +kernel
theorem dX3_forget_5 : decode cX3_forget 5 = .ok (.return_, 1) := by decide +kernel
theorem dX3_remember_0 : decode cX3_remember 0 = .ok (.aload_n 0, 1) := by decide +kernel
theorem dX3_remember_1 : decode cX3_remember 1 = .ok (.getfield 11, 3) := by decide +kernel
theorem dX3_remember_4 : decode cX3_remember 4 = .ok (.aload_n 0, 1) := by decide +kernel
theorem dX3_remember_5 : decode cX3_remember 5 = .ok (.getfield 22, 3) := by decide +kernel
theorem dX3_remember_8 : decode cX3_remember 8 = .ok (.aaload, 1) := by decide +kernel
theorem dX3_remember_9 : decode cX3_remember 9 = .ok (.aload_n 1, 1) := by decide +kernel
theorem dX3_remember_10 : decode cX3_remember 10 = .ok (.invokevirtual 25, 3) := by decide +kernel
theorem dX3_remember_13 : decode cX3_remember 13 = .ok (.aload_n 0, 1) := by decide +kernel
theorem dX3_remember_14 : decode cX3_remember 14 = .ok (.aload_n 0, 1) := by decide +kernel
theorem dX3_remember_15 : decode cX3_remember 15 = .ok (.getfield 22, 3) := by decide +kernel
theorem dX3_remember_18 : decode cX3_remember 18 = .ok (.iconst 1, 1) := by decide +kernel
theorem dX3_remember_19 : decode cX3_remember 19 = .ok (.iadd, 1) := by decide +kernel
theorem dX3_remember_20 : decode cX3_remember 20 = .ok (.bipush 14, 2) := by decide +kernel
theorem dX3_remember_22 : decode cX3_remember 22 = .ok (.irem, 1) := by decide +kernel
theorem dX3_remember_23 : decode cX3_remember 23 = .ok (.putfield 22, 3) := by decide +kernel
theorem dX3_remember_26 : decode cX3_remember 26 = .ok (.aload_n 0, 1) := by decide +kernel
theorem dX3_remember_27 : decode cX3_remember 27 = .ok (.getfield 18, 3) := by decide +kernel
theorem dX3_remember_30 : decode cX3_remember 30 = .ok (.bipush 14, 2) := by decide +kernel
theorem dX3_remember_32 : decode cX3_remember 32 = .ok (.if_icmp .ge 13, 3) := by decide +kernel
theorem dX3_remember_35 : decode cX3_remember 35 = .ok (.aload_n 0, 1) := by decide +kernel
theorem dX3_remember_36 : decode cX3_remember 36 = .ok (.dup, 1) := by decide +kernel
theorem dX3_remember_37 : decode cX3_remember 37 = .ok (.getfield 18, 3) := by decide +kernel
theorem dX3_remember_40 : decode cX3_remember 40 = .ok (.iconst 1, 1) := by decide +kernel
theorem dX3_remember_41 : decode cX3_remember 41 = .ok (.iadd, 1) := by decide +kernel
theorem dX3_remember_42 : decode cX3_remember 42 = .ok (.putfield 18, 3) := by decide +kernel
theorem dX3_remember_45 : decode cX3_remember 45 = .ok (.return_, 1) := by decide +kernel
theorem dX3_takeBackInto_0 : decode cX3_takeBackInto 0 = .ok (.aload_n 0, 1) := by decide +kernel
theorem dX3_takeBackInto_1 : decode cX3_takeBackInto 1 = .ok (.getfield 18, 3) := by decide +kernel
theorem dX3_takeBackInto_4 : decode cX3_takeBackInto 4 = .ok (.ifCond .le 42, 3) := by decide +kernel
theorem dX3_takeBackInto_7 : decode cX3_takeBackInto 7 = .ok (.aload_n 0, 1) := by decide +kernel
theorem dX3_takeBackInto_8 : decode cX3_takeBackInto 8 = .ok (.aload_n 0, 1) := by decide +kernel
theorem dX3_takeBackInto_9 : decode cX3_takeBackInto 9 = .ok (.getfield 22, 3) := by decide +kernel
theorem dX3_takeBackInto_12 : decode cX3_takeBackInto 12 = .ok (.bipush 14, 2) := by decide +kernel
theorem dX3_takeBackInto_14 : decode cX3_takeBackInto 14 = .ok (.iadd, 1) := by decide +kernel
theorem dX3_takeBackInto_15 : decode cX3_takeBackInto 15 = .ok (.iconst 1, 1) := by decide +kernel
theorem dX3_takeBackInto_16 : decode cX3_takeBackInto 16 = .ok (.isub, 1) := by decide +kernel
theorem dX3_takeBackInto_17 : decode cX3_takeBackInto 17 = .ok (.bipush 14, 2) := by decide +kernel
theorem dX3_takeBackInto_19 : decode cX3_takeBackInto 19 = .ok (.irem, 1) := by decide +kernel
theorem dX3_takeBackInto_20 : decode cX3_takeBackInto 20 = .ok (.putfield 22, 3) := by decide +kernel
theorem dX3_takeBackInto_23 : decode cX3_takeBackInto 23 = .ok (.aload_n 0, 1) := by decide +kernel
theorem dX3_takeBackInto_24 : decode cX3_takeBackInto 24 = .ok (.dup, 1) := by decide +kernel
theorem dX3_takeBackInto_25 : decode cX3_takeBackInto 25 = .ok (.getfield 18, 3) := by decide +kernel
theorem dX3_takeBackInto_28 : decode cX3_takeBackInto 28 = .ok (.iconst 1, 1) := by decide +kernel
theorem dX3_takeBackInto_29 : decode cX3_takeBackInto 29 = .ok (.isub, 1) := by decide +kernel
theorem dX3_takeBackInto_30 : decode cX3_takeBackInto 30 = .ok (.putfield 18, 3) := by decide +kernel
theorem dX3_takeBackInto_33 : decode cX3_takeBackInto 33 = .ok (.aload_n 1, 1) := by decide +kernel
theorem dX3_takeBackInto_34 : decode cX3_takeBackInto 34 = .ok (.aload_n 0, 1) := by decide +kernel
theorem dX3_takeBackInto_35 : decode cX3_takeBackInto 35 = .ok (.getfield 11, 3) := by decide +kernel
theorem dX3_takeBackInto_38 : decode cX3_takeBackInto 38 = .ok (.aload_n 0, 1) := by decide +kernel
theorem dX3_takeBackInto_39 : decode cX3_takeBackInto 39 = .ok (.getfield 22, 3) := by decide +kernel
theorem dX3_takeBackInto_42 : decode cX3_takeBackInto 42 = .ok (.aaload, 1) := by decide +kernel
theorem dX3_takeBackInto_43 : decode cX3_takeBackInto 43 = .ok (.invokevirtual 25, 3) := by decide +kernel
theorem dX3_takeBackInto_46 : decode cX3_takeBackInto 46 = .ok (.return_, 1) := by decide +kernel
theorem dX4_init_0 : decode cX4_init 0 = .ok (.aload_n 0, 1) := by decide +kernel
theorem dX4_init_1 : decode cX4_init 1 = .ok (.invokespecial 3, 3) := by decide +kernel
theorem dX4_init_4 : decode cX4_init 4 = .ok (.aload_n 0, 1) := by decide +kernel
theorem dX4_init_5 : decode cX4_init 5 = .ok (.bipush 6, 2) := by decide +kernel
theorem dX4_init_7 : decode cX4_init 7 = .ok (.newarray .int, 2) := by decide +kernel
theorem dX4_init_9 : decode cX4_init 9 = .ok (.putfield 9, 3) := by decide +kernel
theorem dX4_init_12 : decode cX4_init 12 = .ok (.aload_n 0, 1) := by decide +kernel
theorem dX4_init_13 : decode cX4_init 13 = .ok (.bipush 6, 2) := by decide +kernel
theorem dX4_init_15 : decode cX4_init 15 = .ok (.newarray .int, 2) := by decide +kernel
theorem dX4_init_17 : decode cX4_init 17 = .ok (.putfield 15, 3) := by decide +kernel
theorem dX4_init_20 : decode cX4_init 20 = .ok (.aload_n 0, 1) := by decide +kernel
theorem dX4_init_21 : decode cX4_init 21 = .ok (.new 18, 3) := by decide +kernel
theorem dX4_init_24 : decode cX4_init 24 = .ok (.dup, 1) := by decide +kernel
theorem dX4_init_25 : decode cX4_init 25 = .ok (.invokespecial 20, 3) := by decide +kernel
theorem dX4_init_28 : decode cX4_init 28 = .ok (.putfield 21, 3) := by decide +kernel
theorem dX4_init_31 : decode cX4_init 31 = .ok (.aload_n 0, 1) := by decide +kernel
theorem dX4_init_32 : decode cX4_init 32 = .ok (.new 25, 3) := by decide +kernel
theorem dX4_init_35 : decode cX4_init 35 = .ok (.dup, 1) := by decide +kernel
theorem dX4_init_36 : decode cX4_init 36 = .ok (.invokespecial 27, 3) := by decide +kernel
theorem dX4_init_39 : decode cX4_init 39 = .ok (.putfield 28, 3) := by decide +kernel
theorem dX4_init_42 : decode cX4_init 42 = .ok (.return_, 1) := by decide +kernel
theorem dX4_packWeek_0 : decode cX4_packWeek 0 = .ok (.aload_n 1, 1) := by decide +kernel
theorem dX4_packWeek_1 : decode cX4_packWeek 1 = .ok (.dup, 1) := by decide +kernel
theorem dX4_packWeek_2 : decode cX4_packWeek 2 = .ok (.getfield 32, 3) := by decide +kernel
theorem dX4_packWeek_5 : decode cX4_packWeek 5 = .ok (.aload_n 1, 1) := by decide +kernel
theorem dX4_packWeek_6 : decode cX4_packWeek 6 = .ok (.invokevirtual 38, 3) := by decide +kernel
theorem dX4_packWeek_9 : decode cX4_packWeek 9 = .ok (.iadd, 1) := by decide +kernel
theorem dX4_packWeek_10 : decode cX4_packWeek 10 = .ok (.putfield 32, 3) := by decide +kernel
theorem dX4_packWeek_13 : decode cX4_packWeek 13 = .ok (.aload_n 1, 1) := by decide +kernel
theorem dX4_packWeek_14 : decode cX4_packWeek 14 = .ok (.getfield 42, 3) := by decide +kernel
theorem dX4_packWeek_17 : decode cX4_packWeek 17 = .ok (.iconst 0, 1) := by decide +kernel
theorem dX4_packWeek_18 : decode cX4_packWeek 18 = .ok (.invokestatic 45, 3) := by decide +kernel
theorem dX4_packWeek_21 : decode cX4_packWeek 21 = .ok (.aload_n 0, 1) := by decide +kernel
theorem dX4_packWeek_22 : decode cX4_packWeek 22 = .ok (.aload_n 1, 1) := by decide +kernel
theorem dX4_packWeek_23 : decode cX4_packWeek 23 = .ok (.invokevirtual 51, 3) := by decide +kernel
theorem dX4_packWeek_26 : decode cX4_packWeek 26 = .ok (.istore_n 2, 1) := by decide +kernel
theorem dX4_packWeek_27 : decode cX4_packWeek 27 = .ok (.iconst 0, 1) := by decide +kernel
theorem dX4_packWeek_28 : decode cX4_packWeek 28 = .ok (.istore_n 3, 1) := by decide +kernel
theorem dX4_packWeek_29 : decode cX4_packWeek 29 = .ok (.iload_n 3, 1) := by decide +kernel
theorem dX4_packWeek_30 : decode cX4_packWeek 30 = .ok (.aload_n 1, 1) := by decide +kernel
theorem dX4_packWeek_31 : decode cX4_packWeek 31 = .ok (.getfield 55, 3) := by decide +kernel
theorem dX4_packWeek_34 : decode cX4_packWeek 34 = .ok (.if_icmp .ge 26, 3) := by decide +kernel
theorem dX4_packWeek_37 : decode cX4_packWeek 37 = .ok (.aload_n 0, 1) := by decide +kernel
theorem dX4_packWeek_38 : decode cX4_packWeek 38 = .ok (.aload_n 1, 1) := by decide +kernel
theorem dX4_packWeek_39 : decode cX4_packWeek 39 = .ok (.iload_n 3, 1) := by decide +kernel
theorem dX4_packWeek_40 : decode cX4_packWeek 40 = .ok (.iload_n 2, 1) := by decide +kernel
theorem dX4_packWeek_41 : decode cX4_packWeek 41 = .ok (.invokevirtual 58, 3) := by decide +kernel
theorem dX4_packWeek_44 : decode cX4_packWeek 44 = .ok (.istore 4, 2) := by decide +kernel
theorem dX4_packWeek_46 : decode cX4_packWeek 46 = .ok (.aload_n 0, 1) := by decide +kernel
theorem dX4_packWeek_47 : decode cX4_packWeek 47 = .ok (.aload_n 1, 1) := by decide +kernel
theorem dX4_packWeek_48 : decode cX4_packWeek 48 = .ok (.iload_n 3, 1) := by decide +kernel
theorem dX4_packWeek_49 : decode cX4_packWeek 49 = .ok (.iload 4, 2) := by decide +kernel
theorem dX4_packWeek_51 : decode cX4_packWeek 51 = .ok (.invokevirtual 62, 3) := by decide +kernel
theorem dX4_packWeek_54 : decode cX4_packWeek 54 = .ok (.iinc 3 1, 3) := by decide +kernel
theorem dX4_packWeek_57 : decode cX4_packWeek 57 = .ok (.goto (-28), 3) := by decide +kernel
theorem dX4_packWeek_60 : decode cX4_packWeek 60 = .ok (.aload_n 1, 1) := by decide +kernel
theorem dX4_packWeek_61 : decode cX4_packWeek 61 = .ok (.aload_n 0, 1) := by decide +kernel
theorem dX4_packWeek_62 : decode cX4_packWeek 62 = .ok (.aload_n 1, 1) := by decide +kernel
theorem dX4_packWeek_63 : decode cX4_packWeek 63 = .ok (.invokevirtual 66, 3) := by decide +kernel
theorem dX4_packWeek_66 : decode cX4_packWeek 66 = .ok (.putfield 69, 3) := by decide +kernel
theorem dX4_packWeek_69 : decode cX4_packWeek 69 = .ok (.aload_n 0, 1) := by decide +kernel
theorem dX4_packWeek_70 : decode cX4_packWeek 70 = .ok (.aload_n 1, 1) := by decide +kernel
theorem dX4_packWeek_71 : decode cX4_packWeek 71 = .ok (.invokevirtual 72, 3) := by decide +kernel
theorem dX4_packWeek_74 : decode cX4_packWeek 74 = .ok (.return_, 1) := by decide +kernel
theorem dX4_tellParts_0 : decode cX4_tellParts 0 = .ok (.iconst 0, 1) := by decide +kernel
theorem dX4_tellParts_1 : decode cX4_tellParts 1 = .ok (.istore_n 2, 1) := by decide +kernel
theorem dX4_tellParts_2 : decode cX4_tellParts 2 = .ok (.iconst 0, 1) := by decide +kernel
theorem dX4_tellParts_3 : decode cX4_tellParts 3 = .ok (.istore_n 3, 1) := by decide +kernel
theorem dX4_tellParts_4 : decode cX4_tellParts 4 = .ok (.iload_n 3, 1) := by decide +kernel
theorem dX4_tellParts_5 : decode cX4_tellParts 5 = .ok (.aload_n 1, 1) := by decide +kernel
theorem dX4_tellParts_6 : decode cX4_tellParts 6 = .ok (.getfield 76, 3) := by decide +kernel
theorem dX4_tellParts_9 : decode cX4_tellParts 9 = .ok (.if_icmp .ge 57, 3) := by decide +kernel
theorem dX4_tellParts_12 : decode cX4_tellParts 12 = .ok (.aload_n 0, 1) := by decide +kernel
theorem dX4_tellParts_13 : decode cX4_tellParts 13 = .ok (.getfield 9, 3) := by decide +kernel
theorem dX4_tellParts_16 : decode cX4_tellParts 16 = .ok (.iload_n 3, 1) := by decide +kernel
theorem dX4_tellParts_17 : decode cX4_tellParts 17 = .ok (.aload_n 1, 1) := by decide +kernel
theorem dX4_tellParts_18 : decode cX4_tellParts 18 = .ok (.iload_n 3, 1) := by decide +kernel
theorem dX4_tellParts_19 : decode cX4_tellParts 19 = .ok (.invokevirtual 79, 3) := by decide +kernel
theorem dX4_tellParts_22 : decode cX4_tellParts 22 = .ok (.ifCond .eq 27, 3) := by decide +kernel
theorem dX4_tellParts_25 : decode cX4_tellParts 25 = .ok (.aload_n 1, 1) := by decide +kernel
theorem dX4_tellParts_26 : decode cX4_tellParts 26 = .ok (.getfield 83, 3) := by decide +kernel
theorem dX4_tellParts_29 : decode cX4_tellParts 29 = .ok (.iload_n 3, 1) := by decide +kernel
theorem dX4_tellParts_30 : decode cX4_tellParts 30 = .ok (.iaload, 1) := by decide +kernel
theorem dX4_tellParts_31 : decode cX4_tellParts 31 = .ok (.aload_n 1, 1) := by decide +kernel
theorem dX4_tellParts_32 : decode cX4_tellParts 32 = .ok (.getfield 86, 3) := by decide +kernel
theorem dX4_tellParts_35 : decode cX4_tellParts 35 = .ok (.iload_n 3, 1) := by decide +kernel
theorem dX4_tellParts_36 : decode cX4_tellParts 36 = .ok (.iaload, 1) := by decide +kernel
theorem dX4_tellParts_37 : decode cX4_tellParts 37 = .ok (.ifCond .le 7, 3) := by decide +kernel
theorem dX4_tellParts_40 : decode cX4_tellParts 40 = .ok (.iconst 1, 1) := by decide +kernel
theorem dX4_tellParts_41 : decode cX4_tellParts 41 = .ok (.goto 4, 3) := by decide +kernel
theorem dX4_tellParts_44 : decode cX4_tellParts 44 = .ok (.iconst 0, 1) := by decide +kernel
theorem dX4_tellParts_45 : decode cX4_tellParts 45 = .ok (.iadd, 1) := by decide +kernel
theorem dX4_tellParts_46 : decode cX4_tellParts 46 = .ok (.goto 4, 3) := by decide +kernel
theorem dX4_tellParts_49 : decode cX4_tellParts 49 = .ok (.iconst 0, 1) := by decide +kernel
theorem dX4_tellParts_50 : decode cX4_tellParts 50 = .ok (.iastore, 1) := by decide +kernel
theorem dX4_tellParts_51 : decode cX4_tellParts 51 = .ok (.iload_n 2, 1) := by decide +kernel
theorem dX4_tellParts_52 : decode cX4_tellParts 52 = .ok (.aload_n 0, 1) := by decide +kernel
theorem dX4_tellParts_53 : decode cX4_tellParts 53 = .ok (.getfield 9, 3) := by decide +kernel
theorem dX4_tellParts_56 : decode cX4_tellParts 56 = .ok (.iload_n 3, 1) := by decide +kernel
theorem dX4_tellParts_57 : decode cX4_tellParts 57 = .ok (.iaload, 1) := by decide +kernel
theorem dX4_tellParts_58 : decode cX4_tellParts 58 = .ok (.iadd, 1) := by decide +kernel
theorem dX4_tellParts_59 : decode cX4_tellParts 59 = .ok (.istore_n 2, 1) := by decide +kernel
theorem dX4_tellParts_60 : decode cX4_tellParts 60 = .ok (.iinc 3 1, 3) := by decide +kernel
theorem dX4_tellParts_63 : decode cX4_tellParts 63 = .ok (.goto (-59), 3) := by decide +kernel
theorem dX4_tellParts_66 : decode cX4_tellParts 66 = .ok (.iload_n 2, 1) := by decide +kernel
theorem dX4_tellParts_67 : decode cX4_tellParts 67 = .ok (.ireturn, 1) := by decide +kernel
theorem dX4_dealShares_0 : decode cX4_dealShares 0 = .ok (.aload_n 1, 1) := by decide +kernel
theorem dX4_dealShares_1 : decode cX4_dealShares 1 = .ok (.getfield 89, 3) := by decide +kernel
theorem dX4_dealShares_4 : decode cX4_dealShares 4 = .ok (.iload_n 2, 1) := by decide +kernel
theorem dX4_dealShares_5 : decode cX4_dealShares 5 = .ok (.iaload, 1) := by decide +kernel
theorem dX4_dealShares_6 : decode cX4_dealShares 6 = .ok (.istore 4, 2) := by decide +kernel
theorem dX4_dealShares_8 : decode cX4_dealShares 8 = .ok (.iload_n 3, 1) := by decide +kernel
theorem dX4_dealShares_9 : decode cX4_dealShares 9 = .ok (.ifCond .le 59, 3) := by decide +kernel
theorem dX4_dealShares_12 : decode cX4_dealShares 12 = .ok (.iconst 0, 1) := by decide +kernel
theorem dX4_dealShares_13 : decode cX4_dealShares 13 = .ok (.istore 5, 2) := by decide +kernel
theorem dX4_dealShares_15 : decode cX4_dealShares 15 = .ok (.iload 5, 2) := by decide +kernel
theorem dX4_dealShares_17 : decode cX4_dealShares 17 = .ok (.aload_n 1, 1) := by decide +kernel
theorem dX4_dealShares_18 : decode cX4_dealShares 18 = .ok (.getfield 76, 3) := by decide +kernel
theorem dX4_dealShares_21 : decode cX4_dealShares 21 = .ok (.if_icmp .ge 47, 3) := by decide +kernel
theorem dX4_dealShares_24 : decode cX4_dealShares 24 = .ok (.aload_n 1, 1) := by decide +kernel
theorem dX4_dealShares_25 : decode cX4_dealShares 25 = .ok (.getfield 89, 3) := by decide +kernel
theorem dX4_dealShares_28 : decode cX4_dealShares 28 = .ok (.iload_n 2, 1) := by decide +kernel
theorem dX4_dealShares_29 : decode cX4_dealShares 29 = .ok (.iaload, 1) := by decide +kernel
theorem dX4_dealShares_30 : decode cX4_dealShares 30 = .ok (.aload_n 0, 1) := by decide +kernel
theorem dX4_dealShares_31 : decode cX4_dealShares 31 = .ok (.getfield 9, 3) := by decide +kernel
theorem dX4_dealShares_34 : decode cX4_dealShares 34 = .ok (.iload 5, 2) := by decide +kernel
theorem dX4_dealShares_36 : decode cX4_dealShares 36 = .ok (.iaload, 1) := by decide +kernel
theorem dX4_dealShares_37 : decode cX4_dealShares 37 = .ok (.imul, 1) := by decide +kernel
theorem dX4_dealShares_38 : decode cX4_dealShares 38 = .ok (.iload_n 3, 1) := by decide +kernel
theorem dX4_dealShares_39 : decode cX4_dealShares 39 = .ok (.idiv, 1) := by decide +kernel
theorem dX4_dealShares_40 : decode cX4_dealShares 40 = .ok (.istore 6, 2) := by decide +kernel
theorem dX4_dealShares_42 : decode cX4_dealShares 42 = .ok (.aload_n 1, 1) := by decide +kernel
theorem dX4_dealShares_43 : decode cX4_dealShares 43 = .ok (.getfield 42, 3) := by decide +kernel
theorem dX4_dealShares_46 : decode cX4_dealShares 46 = .ok (.iload 5, 2) := by decide +kernel
theorem dX4_dealShares_48 : decode cX4_dealShares 48 = .ok (.iload_n 2, 1) := by decide +kernel
theorem dX4_dealShares_49 : decode cX4_dealShares 49 = .ok (.invokestatic 92, 3) := by decide +kernel
theorem dX4_dealShares_52 : decode cX4_dealShares 52 = .ok (.iload 6, 2) := by decide +kernel
theorem dX4_dealShares_54 : decode cX4_dealShares 54 = .ok (.iastore, 1) := by decide +kernel
theorem dX4_dealShares_55 : decode cX4_dealShares 55 = .ok (.iload 4, 2) := by decide +kernel
theorem dX4_dealShares_57 : decode cX4_dealShares 57 = .ok (.iload 6, 2) := by decide +kernel
theorem dX4_dealShares_59 : decode cX4_dealShares 59 = .ok (.isub, 1) := by decide +kernel
theorem dX4_dealShares_60 : decode cX4_dealShares 60 = .ok (.istore 4, 2) := by decide +kernel
theorem dX4_dealShares_62 : decode cX4_dealShares 62 = .ok (.iinc 5 1, 3) := by decide +kernel
theorem dX4_dealShares_65 : decode cX4_dealShares 65 = .ok (.goto (-50), 3) := by decide +kernel
theorem dX4_dealShares_68 : decode cX4_dealShares 68 = .ok (.iload 4, 2) := by decide +kernel
theorem dX4_dealShares_70 : decode cX4_dealShares 70 = .ok (.ireturn, 1) := by decide +kernel
theorem dX4_giveGlut_0 : decode cX4_giveGlut 0 = .ok (.aload_n 0, 1) := by decide +kernel
theorem dX4_giveGlut_1 : decode cX4_giveGlut 1 = .ok (.getfield 15, 3) := by decide +kernel
theorem dX4_giveGlut_4 : decode cX4_giveGlut 4 = .ok (.iconst 0, 1) := by decide +kernel
theorem dX4_giveGlut_5 : decode cX4_giveGlut 5 = .ok (.invokestatic 45, 3) := by decide +kernel
theorem dX4_giveGlut_8 : decode cX4_giveGlut 8 = .ok (.iconst 0, 1) := by decide +kernel
theorem dX4_giveGlut_9 : decode cX4_giveGlut 9 = .ok (.istore 4, 2) := by decide +kernel
theorem dX4_giveGlut_11 : decode cX4_giveGlut 11 = .ok (.iload 4, 2) := by decide +kernel
theorem dX4_giveGlut_13 : decode cX4_giveGlut 13 = .ok (.iload_n 3, 1) := by decide +kernel
theorem dX4_giveGlut_14 : decode cX4_giveGlut 14 = .ok (.if_icmp .ge 63, 3) := by decide +kernel
theorem dX4_giveGlut_17 : decode cX4_giveGlut 17 = .ok (.aload_n 0, 1) := by decide +kernel
theorem dX4_giveGlut_18 : decode cX4_giveGlut 18 = .ok (.aload_n 1, 1) := by decide +kernel
theorem dX4_giveGlut_19 : decode cX4_giveGlut 19 = .ok (.iload_n 2, 1) := by decide +kernel
theorem dX4_giveGlut_20 : decode cX4_giveGlut 20 = .ok (.invokevirtual 96, 3) := by decide +kernel
theorem dX4_giveGlut_23 : decode cX4_giveGlut 23 = .ok (.istore 5, 2) := by decide +kernel
theorem dX4_giveGlut_25 : decode cX4_giveGlut 25 = .ok (.iload 5, 2) := by decide +kernel
theorem dX4_giveGlut_27 : decode cX4_giveGlut 27 = .ok (.bipush (-9), 2) := by decide +kernel
theorem dX4_giveGlut_29 : decode cX4_giveGlut 29 = .ok (.if_icmp .ne 16, 3) := by decide +kernel
theorem dX4_giveGlut_32 : decode cX4_giveGlut 32 = .ok (.aload_n 1, 1) := by decide +kernel
theorem dX4_giveGlut_33 : decode cX4_giveGlut 33 = .ok (.getfield 100, 3) := by decide +kernel
theorem dX4_giveGlut_36 : decode cX4_giveGlut 36 = .ok (.iload_n 2, 1) := by decide +kernel
theorem dX4_giveGlut_37 : decode cX4_giveGlut 37 = .ok (.dup2, 1) := by decide +kernel
theorem dX4_giveGlut_38 : decode cX4_giveGlut 38 = .ok (.iaload, 1) := by decide +kernel
theorem dX4_giveGlut_39 : decode cX4_giveGlut 39 = .ok (.iconst 1, 1) := by decide +kernel
theorem dX4_giveGlut_40 : decode cX4_giveGlut 40 = .ok (.iadd, 1) := by decide +kernel
theorem dX4_giveGlut_41 : decode cX4_giveGlut 41 = .ok (.iastore, 1) := by decide +kernel
theorem dX4_giveGlut_42 : decode cX4_giveGlut 42 = .ok (.goto 29, 3) := by decide +kernel
theorem dX4_giveGlut_45 : decode cX4_giveGlut 45 = .ok (.aload_n 1, 1) := by decide +kernel
theorem dX4_giveGlut_46 : decode cX4_giveGlut 46 = .ok (.getfield 42, 3) := by decide +kernel
theorem dX4_giveGlut_49 : decode cX4_giveGlut 49 = .ok (.iload 5, 2) := by decide +kernel
theorem dX4_giveGlut_51 : decode cX4_giveGlut 51 = .ok (.iload_n 2, 1) := by decide +kernel
theorem dX4_giveGlut_52 : decode cX4_giveGlut 52 = .ok (.invokestatic 92, 3) := by decide +kernel
theorem dX4_giveGlut_55 : decode cX4_giveGlut 55 = .ok (.dup2, 1) := by decide +kernel
theorem dX4_giveGlut_56 : decode cX4_giveGlut 56 = .ok (.iaload, 1) := by decide +kernel
theorem dX4_giveGlut_57 : decode cX4_giveGlut 57 = .ok (.iconst 1, 1) := by decide +kernel
theorem dX4_giveGlut_58 : decode cX4_giveGlut 58 = .ok (.iadd, 1) := by decide +kernel
theorem dX4_giveGlut_59 : decode cX4_giveGlut 59 = .ok (.iastore, 1) := by decide +kernel
theorem dX4_giveGlut_60 : decode cX4_giveGlut 60 = .ok (.aload_n 0, 1) := by decide +kernel
theorem dX4_giveGlut_61 : decode cX4_giveGlut 61 = .ok (.getfield 15, 3) := by decide +kernel
theorem dX4_giveGlut_64 : decode cX4_giveGlut 64 = .ok (.iload 5, 2) := by decide +kernel
theorem dX4_giveGlut_66 : decode cX4_giveGlut 66 = .ok (.dup2, 1) := by decide +kernel
theorem dX4_giveGlut_67 : decode cX4_giveGlut 67 = .ok (.iaload, 1) := by decide +kernel
theorem dX4_giveGlut_68 : decode cX4_giveGlut 68 = .ok (.iconst 1, 1) := by decide +kernel
theorem dX4_giveGlut_69 : decode cX4_giveGlut 69 = .ok (.iadd, 1) := by decide +kernel
theorem dX4_giveGlut_70 : decode cX4_giveGlut 70 = .ok (.iastore, 1) := by decide +kernel
theorem dX4_giveGlut_71 : decode cX4_giveGlut 71 = .ok (.iinc 4 1, 3) := by decide +kernel
theorem dX4_giveGlut_74 : decode cX4_giveGlut 74 = .ok (.goto (-63), 3) := by decide +kernel
theorem dX4_giveGlut_77 : decode cX4_giveGlut 77 = .ok (.return_, 1) := by decide +kernel
theorem dX4_keenestOn_0 : decode cX4_keenestOn 0 = .ok (.aload_n 0, 1) := by decide +kernel
theorem dX4_keenestOn_1 : decode cX4_keenestOn 1 = .ok (.getfield 21, 3) := by decide +kernel
theorem dX4_keenestOn_4 : decode cX4_keenestOn 4 = .ok (.invokevirtual 103, 3) := by decide +kernel
theorem dX4_keenestOn_7 : decode cX4_keenestOn 7 = .ok (.iconst 0, 1) := by decide +kernel
theorem dX4_keenestOn_8 : decode cX4_keenestOn 8 = .ok (.istore_n 3, 1) := by decide +kernel
theorem dX4_keenestOn_9 : decode cX4_keenestOn 9 = .ok (.iload_n 3, 1) := by decide +kernel
theorem dX4_keenestOn_10 : decode cX4_keenestOn 10 = .ok (.aload_n 1, 1) := by decide +kernel
theorem dX4_keenestOn_11 : decode cX4_keenestOn 11 = .ok (.getfield 76, 3) := by decide +kernel
theorem dX4_keenestOn_14 : decode cX4_keenestOn 14 = .ok (.if_icmp .ge 54, 3) := by decide +kernel
theorem dX4_keenestOn_17 : decode cX4_keenestOn 17 = .ok (.aload_n 1, 1) := by decide +kernel
theorem dX4_keenestOn_18 : decode cX4_keenestOn 18 = .ok (.getfield 106, 3) := by decide +kernel
theorem dX4_keenestOn_21 : decode cX4_keenestOn 21 = .ok (.iload_n 3, 1) := by decide +kernel
theorem dX4_keenestOn_22 : decode cX4_keenestOn 22 = .ok (.iload_n 2, 1) := by decide +kernel
theorem dX4_keenestOn_23 : decode cX4_keenestOn 23 = .ok (.invokestatic 92, 3) := by decide +kernel
theorem dX4_keenestOn_26 : decode cX4_keenestOn 26 = .ok (.iaload, 1) := by decide +kernel
theorem dX4_keenestOn_27 : decode cX4_keenestOn 27 = .ok (.istore 4, 2) := by decide +kernel
theorem dX4_keenestOn_29 : decode cX4_keenestOn 29 = .ok (.aload_n 0, 1) := by decide +kernel
theorem dX4_keenestOn_30 : decode cX4_keenestOn 30 = .ok (.getfield 9, 3) := by decide +kernel
theorem dX4_keenestOn_33 : decode cX4_keenestOn 33 = .ok (.iload_n 3, 1) := by decide +kernel
theorem dX4_keenestOn_34 : decode cX4_keenestOn 34 = .ok (.iaload, 1) := by decide +kernel
theorem dX4_keenestOn_35 : decode cX4_keenestOn 35 = .ok (.ifCond .le 27, 3) := by decide +kernel
theorem dX4_keenestOn_38 : decode cX4_keenestOn 38 = .ok (.iload 4, 2) := by decide +kernel
theorem dX4_keenestOn_40 : decode cX4_keenestOn 40 = .ok (.ifCond .le 22, 3) := by decide +kernel
theorem dX4_keenestOn_43 : decode cX4_keenestOn 43 = .ok (.aload_n 0, 1) := by decide +kernel
theorem dX4_keenestOn_44 : decode cX4_keenestOn 44 = .ok (.getfield 21, 3) := by decide +kernel
theorem dX4_keenestOn_47 : decode cX4_keenestOn 47 = .ok (.iload_n 3, 1) := by decide +kernel
theorem dX4_keenestOn_48 : decode cX4_keenestOn 48 = .ok (.iload 4, 2) := by decide +kernel
theorem dX4_keenestOn_50 : decode cX4_keenestOn 50 = .ok (.iconst 2, 1) := by decide +kernel
theorem dX4_keenestOn_51 : decode cX4_keenestOn 51 = .ok (.aload_n 0, 1) := by decide +kernel
theorem dX4_keenestOn_52 : decode cX4_keenestOn 52 = .ok (.getfield 15, 3) := by decide +kernel
theorem dX4_keenestOn_55 : decode cX4_keenestOn 55 = .ok (.iload_n 3, 1) := by decide +kernel
theorem dX4_keenestOn_56 : decode cX4_keenestOn 56 = .ok (.iaload, 1) := by decide +kernel
theorem dX4_keenestOn_57 : decode cX4_keenestOn 57 = .ok (.imul, 1) := by decide +kernel
theorem dX4_keenestOn_58 : decode cX4_keenestOn 58 = .ok (.isub, 1) := by decide +kernel
theorem dX4_keenestOn_59 : decode cX4_keenestOn 59 = .ok (.invokevirtual 109, 3) := by decide +kernel
theorem dX4_keenestOn_62 : decode cX4_keenestOn 62 = .ok (.iinc 3 1, 3) := by decide +kernel
theorem dX4_keenestOn_65 : decode cX4_keenestOn 65 = .ok (.goto (-56), 3) := by decide +kernel
theorem dX4_keenestOn_68 : decode cX4_keenestOn 68 = .ok (.aload_n 0, 1) := by decide +kernel
theorem dX4_keenestOn_69 : decode cX4_keenestOn 69 = .ok (.getfield 21, 3) := by decide +kernel
theorem dX4_keenestOn_72 : decode cX4_keenestOn 72 = .ok (.invokevirtual 113, 3) := by decide +kernel
theorem dX4_keenestOn_75 : decode cX4_keenestOn 75 = .ok (.ireturn, 1) := by decide +kernel
theorem dX4_makeSwaps_0 : decode cX4_makeSwaps 0 = .ok (.iconst 0, 1) := by decide +kernel
theorem dX4_makeSwaps_1 : decode cX4_makeSwaps 1 = .ok (.istore_n 2, 1) := by decide +kernel
theorem dX4_makeSwaps_2 : decode cX4_makeSwaps 2 = .ok (.iload_n 2, 1) := by decide +kernel
theorem dX4_makeSwaps_3 : decode cX4_makeSwaps 3 = .ok (.ldc 116, 2) := by decide +kernel
theorem dX4_makeSwaps_5 : decode cX4_makeSwaps 5 = .ok (.if_icmp .ge 28, 3) := by decide +kernel
theorem dX4_makeSwaps_8 : decode cX4_makeSwaps 8 = .ok (.aload_n 0, 1) := by decide +kernel
theorem dX4_makeSwaps_9 : decode cX4_makeSwaps 9 = .ok (.getfield 28, 3) := by decide +kernel
theorem dX4_makeSwaps_12 : decode cX4_makeSwaps 12 = .ok (.aload_n 1, 1) := by decide +kernel
theorem dX4_makeSwaps_13 : decode cX4_makeSwaps 13 = .ok (.invokevirtual 117, 3) := by decide +kernel
theorem dX4_makeSwaps_16 : decode cX4_makeSwaps 16 = .ok (.ifCond .eq 17, 3) := by decide +kernel
theorem dX4_makeSwaps_19 : decode cX4_makeSwaps 19 = .ok (.aload_n 0, 1) := by decide +kernel
theorem dX4_makeSwaps_20 : decode cX4_makeSwaps 20 = .ok (.getfield 28, 3) := by decide +kernel
theorem dX4_makeSwaps_23 : decode cX4_makeSwaps 23 = .ok (.aload_n 1, 1) := by decide +kernel
theorem dX4_makeSwaps_24 : decode cX4_makeSwaps 24 = .ok (.invokevirtual 121, 3) := by decide +kernel
theorem dX4_makeSwaps_27 : decode cX4_makeSwaps 27 = .ok (.iinc 2 1, 3) := by decide +kernel
theorem dX4_makeSwaps_30 : decode cX4_makeSwaps 30 = .ok (.goto (-28), 3) := by decide +kernel
theorem dX4_makeSwaps_33 : decode cX4_makeSwaps 33 = .ok (.iload_n 2, 1) := by decide +kernel
theorem dX4_makeSwaps_34 : decode cX4_makeSwaps 34 = .ok (.ireturn, 1) := by decide +kernel
theorem dX4_closeWeek_0 : decode cX4_closeWeek 0 = .ok (.iconst 0, 1) := by decide +kernel
theorem dX4_closeWeek_1 : decode cX4_closeWeek 1 = .ok (.istore_n 2, 1) := by decide +kernel
theorem dX4_closeWeek_2 : decode cX4_closeWeek 2 = .ok (.iload_n 2, 1) := by decide +kernel
theorem dX4_closeWeek_3 : decode cX4_closeWeek 3 = .ok (.aload_n 1, 1) := by decide +kernel
theorem dX4_closeWeek_4 : decode cX4_closeWeek 4 = .ok (.getfield 76, 3) := by decide +kernel
theorem dX4_closeWeek_7 : decode cX4_closeWeek 7 = .ok (.if_icmp .ge 92, 3) := by decide +kernel
theorem dX4_closeWeek_10 : decode cX4_closeWeek 10 = .ok (.aload_n 0, 1) := by decide +kernel
theorem dX4_closeWeek_11 : decode cX4_closeWeek 11 = .ok (.getfield 9, 3) := by decide +kernel
theorem dX4_closeWeek_14 : decode cX4_closeWeek 14 = .ok (.iload_n 2, 1) := by decide +kernel
theorem dX4_closeWeek_15 : decode cX4_closeWeek 15 = .ok (.iaload, 1) := by decide +kernel
theorem dX4_closeWeek_16 : decode cX4_closeWeek 16 = .ok (.ifCond .le 43, 3) := by decide +kernel
theorem dX4_closeWeek_19 : decode cX4_closeWeek 19 = .ok (.aload_n 1, 1) := by decide +kernel
theorem dX4_closeWeek_20 : decode cX4_closeWeek 20 = .ok (.getfield 124, 3) := by decide +kernel
theorem dX4_closeWeek_23 : decode cX4_closeWeek 23 = .ok (.iload_n 2, 1) := by decide +kernel
theorem dX4_closeWeek_24 : decode cX4_closeWeek 24 = .ok (.bipush 9, 2) := by decide +kernel
theorem dX4_closeWeek_26 : decode cX4_closeWeek 26 = .ok (.aload_n 1, 1) := by decide +kernel
theorem dX4_closeWeek_27 : decode cX4_closeWeek 27 = .ok (.getfield 124, 3) := by decide +kernel
theorem dX4_closeWeek_30 : decode cX4_closeWeek 30 = .ok (.iload_n 2, 1) := by decide +kernel
theorem dX4_closeWeek_31 : decode cX4_closeWeek 31 = .ok (.iaload, 1) := by decide +kernel
theorem dX4_closeWeek_32 : decode cX4_closeWeek 32 = .ok (.iconst 1, 1) := by decide +kernel
theorem dX4_closeWeek_33 : decode cX4_closeWeek 33 = .ok (.iadd, 1) := by decide +kernel
theorem dX4_closeWeek_34 : decode cX4_closeWeek 34 = .ok (.invokestatic 127, 3) := by decide +kernel
theorem dX4_closeWeek_37 : decode cX4_closeWeek 37 = .ok (.iastore, 1) := by decide +kernel
theorem dX4_closeWeek_38 : decode cX4_closeWeek 38 = .ok (.aload_n 1, 1) := by decide +kernel
theorem dX4_closeWeek_39 : decode cX4_closeWeek 39 = .ok (.getfield 86, 3) := by decide +kernel
theorem dX4_closeWeek_42 : decode cX4_closeWeek 42 = .ok (.iload_n 2, 1) := by decide +kernel
theorem dX4_closeWeek_43 : decode cX4_closeWeek 43 = .ok (.iconst 0, 1) := by decide +kernel
theorem dX4_closeWeek_44 : decode cX4_closeWeek 44 = .ok (.aload_n 1, 1) := by decide +kernel
theorem dX4_closeWeek_45 : decode cX4_closeWeek 45 = .ok (.getfield 86, 3) := by decide +kernel
theorem dX4_closeWeek_48 : decode cX4_closeWeek 48 = .ok (.iload_n 2, 1) := by decide +kernel
theorem dX4_closeWeek_49 : decode cX4_closeWeek 49 = .ok (.iaload, 1) := by decide +kernel
theorem dX4_closeWeek_50 : decode cX4_closeWeek 50 = .ok (.iconst 1, 1) := by decide +kernel
theorem dX4_closeWeek_51 : decode cX4_closeWeek 51 = .ok (.isub, 1) := by decide +kernel
theorem dX4_closeWeek_52 : decode cX4_closeWeek 52 = .ok (.invokestatic 132, 3) := by decide +kernel
theorem dX4_closeWeek_55 : decode cX4_closeWeek 55 = .ok (.iastore, 1) := by decide +kernel
theorem dX4_closeWeek_56 : decode cX4_closeWeek 56 = .ok (.goto 37, 3) := by decide +kernel
theorem dX4_closeWeek_59 : decode cX4_closeWeek 59 = .ok (.aload_n 1, 1) := by decide +kernel
theorem dX4_closeWeek_60 : decode cX4_closeWeek 60 = .ok (.getfield 135, 3) := by decide +kernel
theorem dX4_closeWeek_63 : decode cX4_closeWeek 63 = .ok (.iload_n 2, 1) := by decide +kernel
theorem dX4_closeWeek_64 : decode cX4_closeWeek 64 = .ok (.iaload, 1) := by decide +kernel
theorem dX4_closeWeek_65 : decode cX4_closeWeek 65 = .ok (.iconst 1, 1) := by decide +kernel
theorem dX4_closeWeek_66 : decode cX4_closeWeek 66 = .ok (.if_icmp .ne 27, 3) := by decide +kernel
theorem dX4_closeWeek_69 : decode cX4_closeWeek 69 = .ok (.aload_n 1, 1) := by decide +kernel
theorem dX4_closeWeek_70 : decode cX4_closeWeek 70 = .ok (.getfield 86, 3) := by decide +kernel
theorem dX4_closeWeek_73 : decode cX4_closeWeek 73 = .ok (.iload_n 2, 1) := by decide +kernel
theorem dX4_closeWeek_74 : decode cX4_closeWeek 74 = .ok (.bipush 9, 2) := by decide +kernel
theorem dX4_closeWeek_76 : decode cX4_closeWeek 76 = .ok (.aload_n 1, 1) := by decide +kernel
theorem dX4_closeWeek_77 : decode cX4_closeWeek 77 = .ok (.getfield 86, 3) := by decide +kernel
theorem dX4_closeWeek_80 : decode cX4_closeWeek 80 = .ok (.iload_n 2, 1) := by decide +kernel
theorem dX4_closeWeek_81 : decode cX4_closeWeek 81 = .ok (.iaload, 1) := by decide +kernel
theorem dX4_closeWeek_82 : decode cX4_closeWeek 82 = .ok (.aload_n 1, 1) := by decide +kernel
theorem dX4_closeWeek_83 : decode cX4_closeWeek 83 = .ok (.getfield 83, 3) := by decide +kernel
theorem dX4_closeWeek_86 : decode cX4_closeWeek 86 = .ok (.iload_n 2, 1) := by decide +kernel
theorem dX4_closeWeek_87 : decode cX4_closeWeek 87 = .ok (.iaload, 1) := by decide +kernel
theorem dX4_closeWeek_88 : decode cX4_closeWeek 88 = .ok (.iadd, 1) := by decide +kernel
theorem dX4_closeWeek_89 : decode cX4_closeWeek 89 = .ok (.invokestatic 127, 3) := by decide +kernel
theorem dX4_closeWeek_92 : decode cX4_closeWeek 92 = .ok (.iastore, 1) := by decide +kernel
theorem dX4_closeWeek_93 : decode cX4_closeWeek 93 = .ok (.iinc 2 1, 3) := by decide +kernel
theorem dX4_closeWeek_96 : decode cX4_closeWeek 96 = .ok (.goto (-94), 3) := by decide +kernel
theorem dX4_closeWeek_99 : decode cX4_closeWeek 99 = .ok (.aload_n 1, 1) := by decide +kernel
theorem dX4_closeWeek_100 : decode cX4_closeWeek 100 = .ok (.getfield 135, 3) := by decide +kernel
theorem dX4_closeWeek_103 : decode cX4_closeWeek 103 = .ok (.iconst 0, 1) := by decide +kernel
theorem dX4_closeWeek_104 : decode cX4_closeWeek 104 = .ok (.invokestatic 45, 3) := by decide +kernel
theorem dX4_closeWeek_107 : decode cX4_closeWeek 107 = .ok (.aload_n 1, 1) := by decide +kernel
theorem dX4_closeWeek_108 : decode cX4_closeWeek 108 = .ok (.getfield 89, 3) := by decide +kernel
theorem dX4_closeWeek_111 : decode cX4_closeWeek 111 = .ok (.iconst 0, 1) := by decide +kernel
theorem dX4_closeWeek_112 : decode cX4_closeWeek 112 = .ok (.invokestatic 45, 3) := by decide +kernel
theorem dX4_closeWeek_115 : decode cX4_closeWeek 115 = .ok (.aload_n 1, 1) := by decide +kernel
theorem dX4_closeWeek_116 : decode cX4_closeWeek 116 = .ok (.dup, 1) := by decide +kernel
theorem dX4_closeWeek_117 : decode cX4_closeWeek 117 = .ok (.getfield 138, 3) := by decide +kernel
theorem dX4_closeWeek_120 : decode cX4_closeWeek 120 = .ok (.iconst 1, 1) := by decide +kernel
theorem dX4_closeWeek_121 : decode cX4_closeWeek 121 = .ok (.iadd, 1) := by decide +kernel
theorem dX4_closeWeek_122 : decode cX4_closeWeek 122 = .ok (.putfield 138, 3) := by decide +kernel
theorem dX4_closeWeek_125 : decode cX4_closeWeek 125 = .ok (.return_, 1) := by decide +kernel
theorem dX5_init_0 : decode cX5_init 0 = .ok (.aload_n 0, 1) := by decide +kernel
theorem dX5_init_1 : decode cX5_init 1 = .ok (.invokespecial 3, 3) := by decide +kernel
theorem dX5_init_4 : decode cX5_init 4 = .ok (.aload_n 0, 1) := by decide +kernel
theorem dX5_init_5 : decode cX5_init 5 = .ok (.new 9, 3) := by decide +kernel
theorem dX5_init_8 : decode cX5_init 8 = .ok (.dup, 1) := by decide +kernel
theorem dX5_init_9 : decode cX5_init 9 = .ok (.invokespecial 11, 3) := by decide +kernel
theorem dX5_init_12 : decode cX5_init 12 = .ok (.putfield 12, 3) := by decide +kernel
theorem dX5_init_15 : decode cX5_init 15 = .ok (.aload_n 0, 1) := by decide +kernel
theorem dX5_init_16 : decode cX5_init 16 = .ok (.new 18, 3) := by decide +kernel
theorem dX5_init_19 : decode cX5_init 19 = .ok (.dup, 1) := by decide +kernel
theorem dX5_init_20 : decode cX5_init 20 = .ok (.invokespecial 20, 3) := by decide +kernel
theorem dX5_init_23 : decode cX5_init 23 = .ok (.putfield 21, 3) := by decide +kernel
theorem dX5_init_26 : decode cX5_init 26 = .ok (.return_, 1) := by decide +kernel
theorem dX6_init_0 : decode cX6_init 0 = .ok (.aload_n 0, 1) := by decide +kernel
theorem dX6_init_1 : decode cX6_init 1 = .ok (.invokespecial 3, 3) := by decide +kernel
theorem dX6_init_4 : decode cX6_init 4 = .ok (.aload_n 0, 1) := by decide +kernel
theorem dX6_init_5 : decode cX6_init 5 = .ok (.new 9, 3) := by decide +kernel
theorem dX6_init_8 : decode cX6_init 8 = .ok (.dup, 1) := by decide +kernel
theorem dX6_init_9 : decode cX6_init 9 = .ok (.invokespecial 11, 3) := by decide +kernel
theorem dX6_init_12 : decode cX6_init 12 = .ok (.putfield 12, 3) := by decide +kernel
theorem dX6_init_15 : decode cX6_init 15 = .ok (.aload_n 0, 1) := by decide +kernel
theorem dX6_init_16 : decode cX6_init 16 = .ok (.new 18, 3) := by decide +kernel
theorem dX6_init_19 : decode cX6_init 19 = .ok (.dup, 1) := by decide +kernel
theorem dX6_init_20 : decode cX6_init 20 = .ok (.invokespecial 20, 3) := by decide +kernel
theorem dX6_init_23 : decode cX6_init 23 = .ok (.putfield 21, 3) := by decide +kernel
theorem dX6_init_26 : decode cX6_init 26 = .ok (.return_, 1) := by decide +kernel
theorem dX7_init_0 : decode cX7_init 0 = .ok (.aload_n 0, 1) := by decide +kernel
theorem dX7_init_1 : decode cX7_init 1 = .ok (.invokespecial 3, 3) := by decide +kernel
theorem dX7_init_4 : decode cX7_init 4 = .ok (.return_, 1) := by decide +kernel
theorem dX7_findFirst_0 : decode cX7_findFirst 0 = .ok (.aload_n 0, 1) := by decide +kernel
theorem dX7_findFirst_1 : decode cX7_findFirst 1 = .ok (.iconst 0, 1) := by decide +kernel
theorem dX7_findFirst_2 : decode cX7_findFirst 2 = .ok (.putfield 9, 3) := by decide +kernel
theorem dX7_findFirst_5 : decode cX7_findFirst 5 = .ok (.iconst 0, 1) := by decide +kernel
theorem dX7_findFirst_6 : decode cX7_findFirst 6 = .ok (.istore_n 2, 1) := by decide +kernel
theorem dX7_findFirst_7 : decode cX7_findFirst 7 = .ok (.iload_n 2, 1) := by decide +kernel
theorem dX7_findFirst_8 : decode cX7_findFirst 8 = .ok (.aload_n 1, 1) := by decide +kernel
theorem dX7_findFirst_9 : decode cX7_findFirst 9 = .ok (.getfield 15, 3) := by decide +kernel
theorem dX7_findFirst_12 : decode cX7_findFirst 12 = .ok (.if_icmp .ge 34, 3) := by decide +kernel
theorem dX7_findFirst_15 : decode cX7_findFirst 15 = .ok (.iload_n 2, 1) := by decide +kernel
theorem dX7_findFirst_16 : decode cX7_findFirst 16 = .ok (.iconst 1, 1) := by decide +kernel
theorem dX7_findFirst_17 : decode cX7_findFirst 17 = .ok (.iadd, 1) := by decide +kernel
theorem dX7_findFirst_18 : decode cX7_findFirst 18 = .ok (.istore_n 3, 1) := by decide +kernel
theorem dX7_findFirst_19 : decode cX7_findFirst 19 = .ok (.iload_n 3, 1) := by decide +kernel
theorem dX7_findFirst_20 : decode cX7_findFirst 20 = .ok (.aload_n 1, 1) := by decide +kernel
theorem dX7_findFirst_21 : decode cX7_findFirst 21 = .ok (.getfield 15, 3) := by decide +kernel
theorem dX7_findFirst_24 : decode cX7_findFirst 24 = .ok (.if_icmp .ge 16, 3) := by decide +kernel
theorem dX7_findFirst_27 : decode cX7_findFirst 27 = .ok (.aload_n 0, 1) := by decide +kernel
theorem dX7_findFirst_28 : decode cX7_findFirst 28 = .ok (.aload_n 1, 1) := by decide +kernel
theorem dX7_findFirst_29 : decode cX7_findFirst 29 = .ok (.iload_n 2, 1) := by decide +kernel
theorem dX7_findFirst_30 : decode cX7_findFirst 30 = .ok (.iload_n 3, 1) := by decide +kernel
theorem dX7_findFirst_31 : decode cX7_findFirst 31 = .ok (.invokevirtual 20, 3) := by decide +kernel
theorem dX7_findFirst_34 : decode cX7_findFirst 34 = .ok (.iinc 3 1, 3) := by decide +kernel
theorem dX7_findFirst_37 : decode cX7_findFirst 37 = .ok (.goto (-18), 3) := by decide +kernel
theorem dX7_findFirst_40 : decode cX7_findFirst 40 = .ok (.iinc 2 1, 3) := by decide +kernel
theorem dX7_findFirst_43 : decode cX7_findFirst 43 = .ok (.goto (-36), 3) := by decide +kernel
theorem dX7_findFirst_46 : decode cX7_findFirst 46 = .ok (.aload_n 0, 1) := by decide +kernel
theorem dX7_findFirst_47 : decode cX7_findFirst 47 = .ok (.getfield 9, 3) := by decide +kernel
theorem dX7_findFirst_50 : decode cX7_findFirst 50 = .ok (.ifCond .le 7, 3) := by decide +kernel
theorem dX7_findFirst_53 : decode cX7_findFirst 53 = .ok (.iconst 1, 1) := by decide +kernel
theorem dX7_findFirst_54 : decode cX7_findFirst 54 = .ok (.goto 4, 3) := by decide +kernel
theorem dX7_findFirst_57 : decode cX7_findFirst 57 = .ok (.iconst 0, 1) := by decide +kernel
theorem dX7_findFirst_58 : decode cX7_findFirst 58 = .ok (.ireturn, 1) := by decide +kernel
theorem dX7_findBetween_0 : decode cX7_findBetween 0 = .ok (.iload_n 2, 1) := by decide +kernel
theorem dX7_findBetween_1 : decode cX7_findBetween 1 = .ok (.iconst 5, 1) := by decide +kernel
theorem dX7_findBetween_2 : decode cX7_findBetween 2 = .ok (.imul, 1) := by decide +kernel
theorem dX7_findBetween_3 : decode cX7_findBetween 3 = .ok (.istore 4, 2) := by decide +kernel
theorem dX7_findBetween_5 : decode cX7_findBetween 5 = .ok (.iload_n 3, 1) := by decide +kernel
theorem dX7_findBetween_6 : decode cX7_findBetween 6 = .ok (.iconst 5, 1) := by decide +kernel
theorem dX7_findBetween_7 : decode cX7_findBetween 7 = .ok (.imul, 1) := by decide +kernel
theorem dX7_findBetween_8 : decode cX7_findBetween 8 = .ok (.istore 5, 2) := by decide +kernel
theorem dX7_findBetween_10 : decode cX7_findBetween 10 = .ok (.iconst 0, 1) := by decide +kernel
theorem dX7_findBetween_11 : decode cX7_findBetween 11 = .ok (.istore 6, 2) := by decide +kernel
theorem dX7_findBetween_13 : decode cX7_findBetween 13 = .ok (.iload 6, 2) := by decide +kernel
theorem dX7_findBetween_15 : decode cX7_findBetween 15 = .ok (.aload_n 1, 1) := by decide +kernel
theorem dX7_findBetween_16 : decode cX7_findBetween 16 = .ok (.getfield 24, 3) := by decide +kernel
theorem dX7_findBetween_19 : decode cX7_findBetween 19 = .ok (.if_icmp .ge 170, 3) := by decide +kernel
theorem dX7_findBetween_22 : decode cX7_findBetween 22 = .ok (.aload_n 1, 1) := by decide +kernel
theorem dX7_findBetween_23 : decode cX7_findBetween 23 = .ok (.getfield 27, 3) := by decide +kernel
theorem dX7_findBetween_26 : decode cX7_findBetween 26 = .ok (.iload 4, 2) := by decide +kernel
theorem dX7_findBetween_28 : decode cX7_findBetween 28 = .ok (.iload 6, 2) := by decide +kernel
theorem dX7_findBetween_30 : decode cX7_findBetween 30 = .ok (.iadd, 1) := by decide +kernel
theorem dX7_findBetween_31 : decode cX7_findBetween 31 = .ok (.iaload, 1) := by decide +kernel
theorem dX7_findBetween_32 : decode cX7_findBetween 32 = .ok (.ifCond .ne 6, 3) := by decide +kernel
theorem dX7_findBetween_35 : decode cX7_findBetween 35 = .ok (.goto 148, 3) := by decide +kernel
theorem dX7_findBetween_38 : decode cX7_findBetween 38 = .ok (.iconst 0, 1) := by decide +kernel
theorem dX7_findBetween_39 : decode cX7_findBetween 39 = .ok (.istore 7, 2) := by decide +kernel
theorem dX7_findBetween_41 : decode cX7_findBetween 41 = .ok (.iload 7, 2) := by decide +kernel
theorem dX7_findBetween_43 : decode cX7_findBetween 43 = .ok (.aload_n 1, 1) := by decide +kernel
theorem dX7_findBetween_44 : decode cX7_findBetween 44 = .ok (.getfield 24, 3) := by decide +kernel
theorem dX7_findBetween_47 : decode cX7_findBetween 47 = .ok (.if_icmp .ge 136, 3) := by decide +kernel
theorem dX7_findBetween_50 : decode cX7_findBetween 50 = .ok (.aload_n 1, 1) := by decide +kernel
theorem dX7_findBetween_51 : decode cX7_findBetween 51 = .ok (.getfield 27, 3) := by decide +kernel
theorem dX7_findBetween_54 : decode cX7_findBetween 54 = .ok (.iload 5, 2) := by decide +kernel
theorem dX7_findBetween_56 : decode cX7_findBetween 56 = .ok (.iload 7, 2) := by decide +kernel
theorem dX7_findBetween_58 : decode cX7_findBetween 58 = .ok (.iadd, 1) := by decide +kernel
theorem dX7_findBetween_59 : decode cX7_findBetween 59 = .ok (.iaload, 1) := by decide +kernel
theorem dX7_findBetween_60 : decode cX7_findBetween 60 = .ok (.ifCond .ne 6, 3) := by decide +kernel
theorem dX7_findBetween_63 : decode cX7_findBetween 63 = .ok (.goto 114, 3) := by decide +kernel
theorem dX7_findBetween_66 : decode cX7_findBetween 66 = .ok (.aload_n 1, 1) := by decide +kernel
theorem dX7_findBetween_67 : decode cX7_findBetween 67 = .ok (.getfield 31, 3) := by decide +kernel
theorem dX7_findBetween_70 : decode cX7_findBetween 70 = .ok (.iload 4, 2) := by decide +kernel
theorem dX7_findBetween_72 : decode cX7_findBetween 72 = .ok (.iload 7, 2) := by decide +kernel
theorem dX7_findBetween_74 : decode cX7_findBetween 74 = .ok (.iadd, 1) := by decide +kernel
theorem dX7_findBetween_75 : decode cX7_findBetween 75 = .ok (.iaload, 1) := by decide +kernel
theorem dX7_findBetween_76 : decode cX7_findBetween 76 = .ok (.aload_n 1, 1) := by decide +kernel
theorem dX7_findBetween_77 : decode cX7_findBetween 77 = .ok (.getfield 31, 3) := by decide +kernel
theorem dX7_findBetween_80 : decode cX7_findBetween 80 = .ok (.iload 4, 2) := by decide +kernel
theorem dX7_findBetween_82 : decode cX7_findBetween 82 = .ok (.iload 6, 2) := by decide +kernel
theorem dX7_findBetween_84 : decode cX7_findBetween 84 = .ok (.iadd, 1) := by decide +kernel
theorem dX7_findBetween_85 : decode cX7_findBetween 85 = .ok (.iaload, 1) := by decide +kernel
theorem dX7_findBetween_86 : decode cX7_findBetween 86 = .ok (.isub, 1) := by decide +kernel
theorem dX7_findBetween_87 : decode cX7_findBetween 87 = .ok (.istore 8, 2) := by decide +kernel
theorem dX7_findBetween_89 : decode cX7_findBetween 89 = .ok (.aload_n 1, 1) := by decide +kernel
theorem dX7_findBetween_90 : decode cX7_findBetween 90 = .ok (.getfield 31, 3) := by decide +kernel
theorem dX7_findBetween_93 : decode cX7_findBetween 93 = .ok (.iload 5, 2) := by decide +kernel
theorem dX7_findBetween_95 : decode cX7_findBetween 95 = .ok (.iload 6, 2) := by decide +kernel
theorem dX7_findBetween_97 : decode cX7_findBetween 97 = .ok (.iadd, 1) := by decide +kernel
theorem dX7_findBetween_98 : decode cX7_findBetween 98 = .ok (.iaload, 1) := by decide +kernel
theorem dX7_findBetween_99 : decode cX7_findBetween 99 = .ok (.aload_n 1, 1) := by decide +kernel
theorem dX7_findBetween_100 : decode cX7_findBetween 100 = .ok (.getfield 31, 3) := by decide +kernel
theorem dX7_findBetween_103 : decode cX7_findBetween 103 = .ok (.iload 5, 2) := by decide +kernel
theorem dX7_findBetween_105 : decode cX7_findBetween 105 = .ok (.iload 7, 2) := by decide +kernel
theorem dX7_findBetween_107 : decode cX7_findBetween 107 = .ok (.iadd, 1) := by decide +kernel
theorem dX7_findBetween_108 : decode cX7_findBetween 108 = .ok (.iaload, 1) := by decide +kernel
theorem dX7_findBetween_109 : decode cX7_findBetween 109 = .ok (.isub, 1) := by decide +kernel
theorem dX7_findBetween_110 : decode cX7_findBetween 110 = .ok (.istore 9, 2) := by decide +kernel
theorem dX7_findBetween_112 : decode cX7_findBetween 112 = .ok (.iload 8, 2) := by decide +kernel
theorem dX7_findBetween_114 : decode cX7_findBetween 114 = .ok (.ifCond .le 12, 3) := by decide +kernel
theorem dX7_findBetween_117 : decode cX7_findBetween 117 = .ok (.iload 9, 2) := by decide +kernel
theorem dX7_findBetween_119 : decode cX7_findBetween 119 = .ok (.ifCond .le 7, 3) := by decide +kernel
theorem dX7_findBetween_122 : decode cX7_findBetween 122 = .ok (.iconst 1, 1) := by decide +kernel
theorem dX7_findBetween_123 : decode cX7_findBetween 123 = .ok (.goto 4, 3) := by decide +kernel
theorem dX7_findBetween_126 : decode cX7_findBetween 126 = .ok (.iconst 0, 1) := by decide +kernel
theorem dX7_findBetween_127 : decode cX7_findBetween 127 = .ok (.istore 10, 2) := by decide +kernel
theorem dX7_findBetween_129 : decode cX7_findBetween 129 = .ok (.iload 10, 2) := by decide +kernel
theorem dX7_findBetween_131 : decode cX7_findBetween 131 = .ok (.ifCond .eq 46, 3) := by decide +kernel
theorem dX7_findBetween_134 : decode cX7_findBetween 134 = .ok (.iload 8, 2) := by decide +kernel
theorem dX7_findBetween_136 : decode cX7_findBetween 136 = .ok (.iload 9, 2) := by decide +kernel
theorem dX7_findBetween_138 : decode cX7_findBetween 138 = .ok (.iadd, 1) := by decide +kernel
theorem dX7_findBetween_139 : decode cX7_findBetween 139 = .ok (.aload_n 0, 1) := by decide +kernel
theorem dX7_findBetween_140 : decode cX7_findBetween 140 = .ok (.getfield 9, 3) := by decide +kernel
theorem dX7_findBetween_143 : decode cX7_findBetween 143 = .ok (.if_icmp .le 34, 3) := by decide +kernel
theorem dX7_findBetween_146 : decode cX7_findBetween 146 = .ok (.aload_n 0, 1) := by decide +kernel
theorem dX7_findBetween_147 : decode cX7_findBetween 147 = .ok (.iload_n 2, 1) := by decide +kernel
theorem dX7_findBetween_148 : decode cX7_findBetween 148 = .ok (.putfield 34, 3) := by decide +kernel
theorem dX7_findBetween_151 : decode cX7_findBetween 151 = .ok (.aload_n 0, 1) := by decide +kernel
theorem dX7_findBetween_152 : decode cX7_findBetween 152 = .ok (.iload_n 3, 1) := by decide +kernel
theorem dX7_findBetween_153 : decode cX7_findBetween 153 = .ok (.putfield 37, 3) := by decide +kernel
theorem dX7_findBetween_156 : decode cX7_findBetween 156 = .ok (.aload_n 0, 1) := by decide +kernel
theorem dX7_findBetween_157 : decode cX7_findBetween 157 = .ok (.iload 6, 2) := by decide +kernel
theorem dX7_findBetween_159 : decode cX7_findBetween 159 = .ok (.putfield 40, 3) := by decide +kernel
theorem dX7_findBetween_162 : decode cX7_findBetween 162 = .ok (.aload_n 0, 1) := by decide +kernel
theorem dX7_findBetween_163 : decode cX7_findBetween 163 = .ok (.iload 7, 2) := by decide +kernel
theorem dX7_findBetween_165 : decode cX7_findBetween 165 = .ok (.putfield 43, 3) := by decide +kernel
theorem dX7_findBetween_168 : decode cX7_findBetween 168 = .ok (.aload_n 0, 1) := by decide +kernel
theorem dX7_findBetween_169 : decode cX7_findBetween 169 = .ok (.iload 8, 2) := by decide +kernel
theorem dX7_findBetween_171 : decode cX7_findBetween 171 = .ok (.iload 9, 2) := by decide +kernel
theorem dX7_findBetween_173 : decode cX7_findBetween 173 = .ok (.iadd, 1) := by decide +kernel
theorem dX7_findBetween_174 : decode cX7_findBetween 174 = .ok (.putfield 9, 3) := by decide +kernel
theorem dX7_findBetween_177 : decode cX7_findBetween 177 = .ok (.iinc 7 1, 3) := by decide +kernel
theorem dX7_findBetween_180 : decode cX7_findBetween 180 = .ok (.goto (-139), 3) := by decide +kernel
theorem dX7_findBetween_183 : decode cX7_findBetween 183 = .ok (.iinc 6 1, 3) := by decide +kernel
theorem dX7_findBetween_186 : decode cX7_findBetween 186 = .ok (.goto (-173), 3) := by decide +kernel
theorem dX7_findBetween_189 : decode cX7_findBetween 189 = .ok (.return_, 1) := by decide +kernel
theorem dX7_makeIn_0 : decode cX7_makeIn 0 = .ok (.aload_n 1, 1) := by decide +kernel
theorem dX7_makeIn_1 : decode cX7_makeIn 1 = .ok (.getfield 27, 3) := by decide +kernel
theorem dX7_makeIn_4 : decode cX7_makeIn 4 = .ok (.aload_n 0, 1) := by decide +kernel
theorem dX7_makeIn_5 : decode cX7_makeIn 5 = .ok (.getfield 34, 3) := by decide +kernel
theorem dX7_makeIn_8 : decode cX7_makeIn 8 = .ok (.aload_n 0, 1) := by decide +kernel
theorem dX7_makeIn_9 : decode cX7_makeIn 9 = .ok (.getfield 40, 3) := by decide +kernel
theorem dX7_makeIn_12 : decode cX7_makeIn 12 = .ok (.invokestatic 46, 3) := by decide +kernel
theorem dX7_makeIn_15 : decode cX7_makeIn 15 = .ok (.dup2, 1) := by decide +kernel
theorem dX7_makeIn_16 : decode cX7_makeIn 16 = .ok (.iaload, 1) := by decide +kernel
theorem dX7_makeIn_17 : decode cX7_makeIn 17 = .ok (.iconst 1, 1) := by decide +kernel
theorem dX7_makeIn_18 : decode cX7_makeIn 18 = .ok (.isub, 1) := by decide +kernel
theorem dX7_makeIn_19 : decode cX7_makeIn 19 = .ok (.iastore, 1) := by decide +kernel
theorem dX7_makeIn_20 : decode cX7_makeIn 20 = .ok (.aload_n 1, 1) := by decide +kernel
theorem dX7_makeIn_21 : decode cX7_makeIn 21 = .ok (.getfield 27, 3) := by decide +kernel
theorem dX7_makeIn_24 : decode cX7_makeIn 24 = .ok (.aload_n 0, 1) := by decide +kernel
theorem dX7_makeIn_25 : decode cX7_makeIn 25 = .ok (.getfield 37, 3) := by decide +kernel
theorem dX7_makeIn_28 : decode cX7_makeIn 28 = .ok (.aload_n 0, 1) := by decide +kernel
theorem dX7_makeIn_29 : decode cX7_makeIn 29 = .ok (.getfield 40, 3) := by decide +kernel
theorem dX7_makeIn_32 : decode cX7_makeIn 32 = .ok (.invokestatic 46, 3) := by decide +kernel
theorem dX7_makeIn_35 : decode cX7_makeIn 35 = .ok (.dup2, 1) := by decide +kernel
theorem dX7_makeIn_36 : decode cX7_makeIn 36 = .ok (.iaload, 1) := by decide +kernel
theorem dX7_makeIn_37 : decode cX7_makeIn 37 = .ok (.iconst 1, 1) := by decide +kernel
theorem dX7_makeIn_38 : decode cX7_makeIn 38 = .ok (.iadd, 1) := by decide +kernel
theorem dX7_makeIn_39 : decode cX7_makeIn 39 = .ok (.iastore, 1) := by decide +kernel
theorem dX7_makeIn_40 : decode cX7_makeIn 40 = .ok (.aload_n 1, 1) := by decide +kernel
theorem dX7_makeIn_41 : decode cX7_makeIn 41 = .ok (.getfield 27, 3) := by decide +kernel
theorem dX7_makeIn_44 : decode cX7_makeIn 44 = .ok (.aload_n 0, 1) := by decide +kernel
theorem dX7_makeIn_45 : decode cX7_makeIn 45 = .ok (.getfield 37, 3) := by decide +kernel
theorem dX7_makeIn_48 : decode cX7_makeIn 48 = .ok (.aload_n 0, 1) := by decide +kernel
theorem dX7_makeIn_49 : decode cX7_makeIn 49 = .ok (.getfield 43, 3) := by decide +kernel
theorem dX7_makeIn_52 : decode cX7_makeIn 52 = .ok (.invokestatic 46, 3) := by decide +kernel
theorem dX7_makeIn_55 : decode cX7_makeIn 55 = .ok (.dup2, 1) := by decide +kernel
theorem dX7_makeIn_56 : decode cX7_makeIn 56 = .ok (.iaload, 1) := by decide +kernel
theorem dX7_makeIn_57 : decode cX7_makeIn 57 = .ok (.iconst 1, 1) := by decide +kernel
theorem dX7_makeIn_58 : decode cX7_makeIn 58 = .ok (.isub, 1) := by decide +kernel
theorem dX7_makeIn_59 : decode cX7_makeIn 59 = .ok (.iastore, 1) := by decide +kernel
theorem dX7_makeIn_60 : decode cX7_makeIn 60 = .ok (.aload_n 1, 1) := by decide +kernel
theorem dX7_makeIn_61 : decode cX7_makeIn 61 = .ok (.getfield 27, 3) := by decide +kernel
theorem dX7_makeIn_64 : decode cX7_makeIn 64 = .ok (.aload_n 0, 1) := by decide +kernel
theorem dX7_makeIn_65 : decode cX7_makeIn 65 = .ok (.getfield 34, 3) := by decide +kernel
theorem dX7_makeIn_68 : decode cX7_makeIn 68 = .ok (.aload_n 0, 1) := by decide +kernel
theorem dX7_makeIn_69 : decode cX7_makeIn 69 = .ok (.getfield 43, 3) := by decide +kernel
theorem dX7_makeIn_72 : decode cX7_makeIn 72 = .ok (.invokestatic 46, 3) := by decide +kernel
theorem dX7_makeIn_75 : decode cX7_makeIn 75 = .ok (.dup2, 1) := by decide +kernel
theorem dX7_makeIn_76 : decode cX7_makeIn 76 = .ok (.iaload, 1) := by decide +kernel
theorem dX7_makeIn_77 : decode cX7_makeIn 77 = .ok (.iconst 1, 1) := by decide +kernel
theorem dX7_makeIn_78 : decode cX7_makeIn 78 = .ok (.iadd, 1) := by decide +kernel
theorem dX7_makeIn_79 : decode cX7_makeIn 79 = .ok (.iastore, 1) := by decide +kernel
theorem dX7_makeIn_80 : decode cX7_makeIn 80 = .ok (.return_, 1) := by decide +kernel
theorem dX7_number_0 : decode cX7_number 0 = .ok (.sipush 1000, 3) := by decide +kernel
theorem dX7_number_3 : decode cX7_number 3 = .ok (.aload_n 0, 1) := by decide +kernel
theorem dX7_number_4 : decode cX7_number 4 = .ok (.getfield 34, 3) := by decide +kernel
theorem dX7_number_7 : decode cX7_number 7 = .ok (.imul, 1) := by decide +kernel
theorem dX7_number_8 : decode cX7_number 8 = .ok (.bipush 100, 2) := by decide +kernel
theorem dX7_number_10 : decode cX7_number 10 = .ok (.aload_n 0, 1) := by decide +kernel
theorem dX7_number_11 : decode cX7_number 11 = .ok (.getfield 37, 3) := by decide +kernel
theorem dX7_number_14 : decode cX7_number 14 = .ok (.imul, 1) := by decide +kernel
theorem dX7_number_15 : decode cX7_number 15 = .ok (.iadd, 1) := by decide +kernel
theorem dX7_number_16 : decode cX7_number 16 = .ok (.bipush 10, 2) := by decide +kernel
theorem dX7_number_18 : decode cX7_number 18 = .ok (.aload_n 0, 1) := by decide +kernel
theorem dX7_number_19 : decode cX7_number 19 = .ok (.getfield 40, 3) := by decide +kernel
theorem dX7_number_22 : decode cX7_number 22 = .ok (.imul, 1) := by decide +kernel
theorem dX7_number_23 : decode cX7_number 23 = .ok (.iadd, 1) := by decide +kernel
theorem dX7_number_24 : decode cX7_number 24 = .ok (.aload_n 0, 1) := by decide +kernel
theorem dX7_number_25 : decode cX7_number 25 = .ok (.getfield 43, 3) := by decide +kernel
theorem dX7_number_28 : decode cX7_number 28 = .ok (.iadd, 1) := by decide +kernel
theorem dX7_number_29 : decode cX7_number 29 = .ok (.ireturn, 1) := by decide +kernel
theorem dX8_init_0 : decode cX8_init 0 = .ok (.aload_n 0, 1) := by decide +kernel
theorem dX8_init_1 : decode cX8_init 1 = .ok (.invokespecial 3, 3) := by decide +kernel
theorem dX8_init_4 : decode cX8_init 4 = .ok (.aload_n 0, 1) := by decide +kernel
theorem dX8_init_5 : decode cX8_init 5 = .ok (.new 9, 3) := by decide +kernel
theorem dX8_init_8 : decode cX8_init 8 = .ok (.dup, 1) := by decide +kernel
theorem dX8_init_9 : decode cX8_init 9 = .ok (.invokespecial 11, 3) := by decide +kernel
theorem dX8_init_12 : decode cX8_init 12 = .ok (.putfield 12, 3) := by decide +kernel
theorem dX8_init_15 : decode cX8_init 15 = .ok (.aload_n 0, 1) := by decide +kernel
theorem dX8_init_16 : decode cX8_init 16 = .ok (.new 16, 3) := by decide +kernel
theorem dX8_init_19 : decode cX8_init 19 = .ok (.dup, 1) := by decide +kernel
theorem dX8_init_20 : decode cX8_init 20 = .ok (.invokespecial 18, 3) := by decide +kernel
theorem dX8_init_23 : decode cX8_init 23 = .ok (.putfield 19, 3) := by decide +kernel
theorem dX8_init_26 : decode cX8_init 26 = .ok (.aload_n 0, 1) := by decide +kernel
theorem dX8_init_27 : decode cX8_init 27 = .ok (.new 16, 3) := by decide +kernel
theorem dX8_init_30 : decode cX8_init 30 = .ok (.dup, 1) := by decide +kernel
theorem dX8_init_31 : decode cX8_init 31 = .ok (.invokespecial 18, 3) := by decide +kernel
theorem dX8_init_34 : decode cX8_init 34 = .ok (.putfield 23, 3) := by decide +kernel
theorem dX8_init_37 : decode cX8_init 37 = .ok (.aload_n 0, 1) := by decide +kernel
theorem dX8_init_38 : decode cX8_init 38 = .ok (.new 26, 3) := by decide +kernel
theorem dX8_init_41 : decode cX8_init 41 = .ok (.dup, 1) := by decide +kernel
theorem dX8_init_42 : decode cX8_init 42 = .ok (.invokespecial 28, 3) := by decide +kernel
theorem dX8_init_45 : decode cX8_init 45 = .ok (.putfield 29, 3) := by decide +kernel
theorem dX8_init_48 : decode cX8_init 48 = .ok (.aload_n 0, 1) := by decide +kernel
theorem dX8_init_49 : decode cX8_init 49 = .ok (.iconst 2, 1) := by decide +kernel
theorem dX8_init_50 : decode cX8_init 50 = .ok (.anewarray 16, 3) := by decide +kernel
theorem dX8_init_53 : decode cX8_init 53 = .ok (.putfield 33, 3) := by decide +kernel
theorem dX8_init_56 : decode cX8_init 56 = .ok (.iconst 0, 1) := by decide +kernel
theorem dX8_init_57 : decode cX8_init 57 = .ok (.istore_n 1, 1) := by decide +kernel
theorem dX8_init_58 : decode cX8_init 58 = .ok (.iload_n 1, 1) := by decide +kernel
theorem dX8_init_59 : decode cX8_init 59 = .ok (.iconst 2, 1) := by decide +kernel
theorem dX8_init_60 : decode cX8_init 60 = .ok (.if_icmp .ge 22, 3) := by decide +kernel
theorem dX8_init_63 : decode cX8_init 63 = .ok (.aload_n 0, 1) := by decide +kernel
theorem dX8_init_64 : decode cX8_init 64 = .ok (.getfield 33, 3) := by decide +kernel
theorem dX8_init_67 : decode cX8_init 67 = .ok (.iload_n 1, 1) := by decide +kernel
theorem dX8_init_68 : decode cX8_init 68 = .ok (.new 16, 3) := by decide +kernel
theorem dX8_init_71 : decode cX8_init 71 = .ok (.dup, 1) := by decide +kernel
theorem dX8_init_72 : decode cX8_init 72 = .ok (.invokespecial 18, 3) := by decide +kernel
theorem dX8_init_75 : decode cX8_init 75 = .ok (.aastore, 1) := by decide +kernel
theorem dX8_init_76 : decode cX8_init 76 = .ok (.iinc 1 1, 3) := by decide +kernel
theorem dX8_init_79 : decode cX8_init 79 = .ok (.goto (-21), 3) := by decide +kernel
theorem dX8_init_82 : decode cX8_init 82 = .ok (.aload_n 0, 1) := by decide +kernel
theorem dX8_init_83 : decode cX8_init 83 = .ok (.iconst 2, 1) := by decide +kernel
theorem dX8_init_84 : decode cX8_init 84 = .ok (.newarray .boolean, 2) := by decide +kernel
theorem dX8_init_86 : decode cX8_init 86 = .ok (.putfield 37, 3) := by decide +kernel
theorem dX8_init_89 : decode cX8_init 89 = .ok (.aload_n 0, 1) := by decide +kernel
theorem dX8_init_90 : decode cX8_init 90 = .ok (.new 41, 3) := by decide +kernel
theorem dX8_init_93 : decode cX8_init 93 = .ok (.dup, 1) := by decide +kernel
theorem dX8_init_94 : decode cX8_init 94 = .ok (.invokespecial 43, 3) := by decide +kernel
theorem dX8_init_97 : decode cX8_init 97 = .ok (.putfield 44, 3) := by decide +kernel
theorem dX8_init_100 : decode cX8_init 100 = .ok (.aload_n 0, 1) := by decide +kernel
theorem dX8_init_101 : decode cX8_init 101 = .ok (.new 48, 3) := by decide +kernel
theorem dX8_init_104 : decode cX8_init 104 = .ok (.dup, 1) := by decide +kernel
theorem dX8_init_105 : decode cX8_init 105 = .ok (.invokespecial 50, 3) := by decide +kernel
theorem dX8_init_108 : decode cX8_init 108 = .ok (.putfield 51, 3) := by decide +kernel
theorem dX8_init_111 : decode cX8_init 111 = .ok (.aload_n 0, 1) := by decide +kernel
theorem dX8_init_112 : decode cX8_init 112 = .ok (.new 55, 3) := by decide +kernel
theorem dX8_init_115 : decode cX8_init 115 = .ok (.dup, 1) := by decide +kernel
theorem dX8_init_116 : decode cX8_init 116 = .ok (.invokespecial 57, 3) := by decide +kernel
theorem dX8_init_119 : decode cX8_init 119 = .ok (.putfield 58, 3) := by decide +kernel
theorem dX8_init_122 : decode cX8_init 122 = .ok (.aload_n 0, 1) := by decide +kernel
theorem dX8_init_123 : decode cX8_init 123 = .ok (.new 62, 3) := by decide +kernel
theorem dX8_init_126 : decode cX8_init 126 = .ok (.dup, 1) := by decide +kernel
theorem dX8_init_127 : decode cX8_init 127 = .ok (.invokespecial 64, 3) := by decide +kernel
theorem dX8_init_130 : decode cX8_init 130 = .ok (.putfield 65, 3) := by decide +kernel
theorem dX8_init_133 : decode cX8_init 133 = .ok (.aload_n 0, 1) := by decide +kernel
theorem dX8_init_134 : decode cX8_init 134 = .ok (.new 69, 3) := by decide +kernel
theorem dX8_init_137 : decode cX8_init 137 = .ok (.dup, 1) := by decide +kernel
theorem dX8_init_138 : decode cX8_init 138 = .ok (.invokespecial 71, 3) := by decide +kernel
theorem dX8_init_141 : decode cX8_init 141 = .ok (.putfield 72, 3) := by decide +kernel
theorem dX8_init_144 : decode cX8_init 144 = .ok (.return_, 1) := by decide +kernel
theorem dX8_about_0 : decode cX8_about 0 = .ok (.iload_n 1, 1) := by decide +kernel
theorem dX8_about_1 : decode cX8_about 1 = .ok (.tableswitch 135 0 9 #[55, 63, 71, 79, 87, 95, 103, 111, 119, 127], 55) := by decide +kernel
theorem dX8_about_56 : decode cX8_about 56 = .ok (.aload_n 0, 1) := by decide +kernel
theorem dX8_about_57 : decode cX8_about 57 = .ok (.getfield 19, 3) := by decide +kernel
theorem dX8_about_60 : decode cX8_about 60 = .ok (.getfield 112, 3) := by decide +kernel
theorem dX8_about_63 : decode cX8_about 63 = .ok (.ireturn, 1) := by decide +kernel
theorem dX8_about_64 : decode cX8_about 64 = .ok (.aload_n 0, 1) := by decide +kernel
theorem dX8_about_65 : decode cX8_about 65 = .ok (.getfield 19, 3) := by decide +kernel
theorem dX8_about_68 : decode cX8_about 68 = .ok (.getfield 116, 3) := by decide +kernel
theorem dX8_about_71 : decode cX8_about 71 = .ok (.ireturn, 1) := by decide +kernel
theorem dX8_about_72 : decode cX8_about 72 = .ok (.aload_n 0, 1) := by decide +kernel
theorem dX8_about_73 : decode cX8_about 73 = .ok (.getfield 19, 3) := by decide +kernel
theorem dX8_about_76 : decode cX8_about 76 = .ok (.getfield 119, 3) := by decide +kernel
theorem dX8_about_79 : decode cX8_about 79 = .ok (.ireturn, 1) := by decide +kernel
theorem dX8_about_80 : decode cX8_about 80 = .ok (.aload_n 0, 1) := by decide +kernel
theorem dX8_about_81 : decode cX8_about 81 = .ok (.getfield 19, 3) := by decide +kernel
theorem dX8_about_84 : decode cX8_about 84 = .ok (.invokevirtual 122, 3) := by decide +kernel
theorem dX8_about_87 : decode cX8_about 87 = .ok (.ireturn, 1) := by decide +kernel
theorem dX8_about_88 : decode cX8_about 88 = .ok (.aload_n 0, 1) := by decide +kernel
theorem dX8_about_89 : decode cX8_about 89 = .ok (.getfield 19, 3) := by decide +kernel
theorem dX8_about_92 : decode cX8_about 92 = .ok (.getfield 125, 3) := by decide +kernel
theorem dX8_about_95 : decode cX8_about 95 = .ok (.ireturn, 1) := by decide +kernel
theorem dX8_about_96 : decode cX8_about 96 = .ok (.aload_n 0, 1) := by decide +kernel
theorem dX8_about_97 : decode cX8_about 97 = .ok (.getfield 19, 3) := by decide +kernel
theorem dX8_about_100 : decode cX8_about 100 = .ok (.getfield 128, 3) := by decide +kernel
theorem dX8_about_103 : decode cX8_about 103 = .ok (.ireturn, 1) := by decide +kernel
theorem dX8_about_104 : decode cX8_about 104 = .ok (.aload_n 0, 1) := by decide +kernel
theorem dX8_about_105 : decode cX8_about 105 = .ok (.getfield 19, 3) := by decide +kernel
theorem dX8_about_108 : decode cX8_about 108 = .ok (.invokevirtual 131, 3) := by decide +kernel
theorem dX8_about_111 : decode cX8_about 111 = .ok (.ireturn, 1) := by decide +kernel
theorem dX8_about_112 : decode cX8_about 112 = .ok (.aload_n 0, 1) := by decide +kernel
theorem dX8_about_113 : decode cX8_about 113 = .ok (.getfield 19, 3) := by decide +kernel
theorem dX8_about_116 : decode cX8_about 116 = .ok (.invokevirtual 134, 3) := by decide +kernel
theorem dX8_about_119 : decode cX8_about 119 = .ok (.ireturn, 1) := by decide +kernel
theorem dX8_about_120 : decode cX8_about 120 = .ok (.aload_n 0, 1) := by decide +kernel
theorem dX8_about_121 : decode cX8_about 121 = .ok (.getfield 19, 3) := by decide +kernel
theorem dX8_about_124 : decode cX8_about 124 = .ok (.getfield 137, 3) := by decide +kernel
theorem dX8_about_127 : decode cX8_about 127 = .ok (.ireturn, 1) := by decide +kernel
theorem dX8_about_128 : decode cX8_about 128 = .ok (.aload_n 0, 1) := by decide +kernel
theorem dX8_about_129 : decode cX8_about 129 = .ok (.getfield 19, 3) := by decide +kernel
theorem dX8_about_132 : decode cX8_about 132 = .ok (.invokevirtual 140, 3) := by decide +kernel
theorem dX8_about_135 : decode cX8_about 135 = .ok (.ireturn, 1) := by decide +kernel
theorem dX8_about_136 : decode cX8_about 136 = .ok (.new 143, 3) := by decide +kernel
theorem dX8_about_139 : decode cX8_about 139 = .ok (.dup, 1) := by decide +kernel
theorem dX8_about_140 : decode cX8_about 140 = .ok (.ldc 145, 2) := by decide +kernel
theorem dX8_about_142 : decode cX8_about 142 = .ok (.invokespecial 147, 3) := by decide +kernel
theorem dX8_about_145 : decode cX8_about 145 = .ok (.athrow, 1) := by decide +kernel
theorem dX8_house_0 : decode cX8_house 0 = .ok (.aload_n 0, 1) := by decide +kernel
theorem dX8_house_1 : decode cX8_house 1 = .ok (.iload_n 1, 1) := by decide +kernel
theorem dX8_house_2 : decode cX8_house 2 = .ok (.invokevirtual 148, 3) := by decide +kernel
theorem dX8_house_5 : decode cX8_house 5 = .ok (.iload_n 2, 1) := by decide +kernel
theorem dX8_house_6 : decode cX8_house 6 = .ok (.tableswitch 117 0 6 #[42, 52, 62, 72, 82, 91, 100], 42) := by decide +kernel
theorem dX8_house_48 : decode cX8_house 48 = .ok (.aload_n 0, 1) := by decide +kernel
theorem dX8_house_49 : decode cX8_house 49 = .ok (.getfield 19, 3) := by decide +kernel
theorem dX8_house_52 : decode cX8_house 52 = .ok (.getfield 152, 3) := by decide +kernel
theorem dX8_house_55 : decode cX8_house 55 = .ok (.iload_n 1, 1) := by decide +kernel
theorem dX8_house_56 : decode cX8_house 56 = .ok (.iaload, 1) := by decide +kernel
theorem dX8_house_57 : decode cX8_house 57 = .ok (.ireturn, 1) := by decide +kernel
theorem dX8_house_58 : decode cX8_house 58 = .ok (.aload_n 0, 1) := by decide +kernel
theorem dX8_house_59 : decode cX8_house 59 = .ok (.getfield 19, 3) := by decide +kernel
theorem dX8_house_62 : decode cX8_house 62 = .ok (.getfield 156, 3) := by decide +kernel
theorem dX8_house_65 : decode cX8_house 65 = .ok (.iload_n 1, 1) := by decide +kernel
theorem dX8_house_66 : decode cX8_house 66 = .ok (.iaload, 1) := by decide +kernel
theorem dX8_house_67 : decode cX8_house 67 = .ok (.ireturn, 1) := by decide +kernel
theorem dX8_house_68 : decode cX8_house 68 = .ok (.aload_n 0, 1) := by decide +kernel
theorem dX8_house_69 : decode cX8_house 69 = .ok (.getfield 19, 3) := by decide +kernel
theorem dX8_house_72 : decode cX8_house 72 = .ok (.getfield 159, 3) := by decide +kernel
theorem dX8_house_75 : decode cX8_house 75 = .ok (.iload_n 1, 1) := by decide +kernel
theorem dX8_house_76 : decode cX8_house 76 = .ok (.iaload, 1) := by decide +kernel
theorem dX8_house_77 : decode cX8_house 77 = .ok (.ireturn, 1) := by decide +kernel
theorem dX8_house_78 : decode cX8_house 78 = .ok (.aload_n 0, 1) := by decide +kernel
theorem dX8_house_79 : decode cX8_house 79 = .ok (.getfield 19, 3) := by decide +kernel
theorem dX8_house_82 : decode cX8_house 82 = .ok (.getfield 162, 3) := by decide +kernel
theorem dX8_house_85 : decode cX8_house 85 = .ok (.iload_n 1, 1) := by decide +kernel
theorem dX8_house_86 : decode cX8_house 86 = .ok (.iaload, 1) := by decide +kernel
theorem dX8_house_87 : decode cX8_house 87 = .ok (.ireturn, 1) := by decide +kernel
theorem dX8_house_88 : decode cX8_house 88 = .ok (.aload_n 0, 1) := by decide +kernel
theorem dX8_house_89 : decode cX8_house 89 = .ok (.getfield 19, 3) := by decide +kernel
theorem dX8_house_92 : decode cX8_house 92 = .ok (.iload_n 1, 1) := by decide +kernel
theorem dX8_house_93 : decode cX8_house 93 = .ok (.invokevirtual 165, 3) := by decide +kernel
theorem dX8_house_96 : decode cX8_house 96 = .ok (.ireturn, 1) := by decide +kernel
theorem dX8_house_97 : decode cX8_house 97 = .ok (.aload_n 0, 1) := by decide +kernel
theorem dX8_house_98 : decode cX8_house 98 = .ok (.getfield 19, 3) := by decide +kernel
theorem dX8_house_101 : decode cX8_house 101 = .ok (.iload_n 1, 1) := by decide +kernel
theorem dX8_house_102 : decode cX8_house 102 = .ok (.invokevirtual 168, 3) := by decide +kernel
theorem dX8_house_105 : decode cX8_house 105 = .ok (.ireturn, 1) := by decide +kernel
theorem dX8_house_106 : decode cX8_house 106 = .ok (.aload_n 0, 1) := by decide +kernel
theorem dX8_house_107 : decode cX8_house 107 = .ok (.getfield 19, 3) := by decide +kernel
theorem dX8_house_110 : decode cX8_house 110 = .ok (.iload_n 1, 1) := by decide +kernel
theorem dX8_house_111 : decode cX8_house 111 = .ok (.invokevirtual 171, 3) := by decide +kernel
theorem dX8_house_114 : decode cX8_house 114 = .ok (.ifCond .eq 7, 3) := by decide +kernel
theorem dX8_house_117 : decode cX8_house 117 = .ok (.iconst 1, 1) := by decide +kernel
theorem dX8_house_118 : decode cX8_house 118 = .ok (.goto 4, 3) := by decide +kernel
theorem dX8_house_121 : decode cX8_house 121 = .ok (.iconst 0, 1) := by decide +kernel
theorem dX8_house_122 : decode cX8_house 122 = .ok (.ireturn, 1) := by decide +kernel
theorem dX8_house_123 : decode cX8_house 123 = .ok (.new 143, 3) := by decide +kernel
theorem dX8_house_126 : decode cX8_house 126 = .ok (.dup, 1) := by decide +kernel
theorem dX8_house_127 : decode cX8_house 127 = .ok (.ldc 175, 2) := by decide +kernel
theorem dX8_house_129 : decode cX8_house 129 = .ok (.invokespecial 147, 3) := by decide +kernel
theorem dX8_house_132 : decode cX8_house 132 = .ok (.athrow, 1) := by decide +kernel
theorem dX8_vegetable_0 : decode cX8_vegetable 0 = .ok (.aload_n 0, 1) := by decide +kernel
theorem dX8_vegetable_1 : decode cX8_vegetable 1 = .ok (.iload_n 1, 1) := by decide +kernel
theorem dX8_vegetable_2 : decode cX8_vegetable 2 = .ok (.invokevirtual 177, 3) := by decide +kernel
theorem dX8_vegetable_5 : decode cX8_vegetable 5 = .ok (.iload_n 2, 1) := by decide +kernel
theorem dX8_vegetable_6 : decode cX8_vegetable 6 = .ok (.tableswitch 65 0 3 #[30, 40, 49, 59], 30) := by decide +kernel
theorem dX8_vegetable_36 : decode cX8_vegetable 36 = .ok (.aload_n 0, 1) := by decide +kernel
theorem dX8_vegetable_37 : decode cX8_vegetable 37 = .ok (.getfield 19, 3) := by decide +kernel
theorem dX8_vegetable_40 : decode cX8_vegetable 40 = .ok (.getfield 180, 3) := by decide +kernel
theorem dX8_vegetable_43 : decode cX8_vegetable 43 = .ok (.iload_n 1, 1) := by decide +kernel
theorem dX8_vegetable_44 : decode cX8_vegetable 44 = .ok (.iaload, 1) := by decide +kernel
theorem dX8_vegetable_45 : decode cX8_vegetable 45 = .ok (.ireturn, 1) := by decide +kernel
theorem dX8_vegetable_46 : decode cX8_vegetable 46 = .ok (.aload_n 0, 1) := by decide +kernel
theorem dX8_vegetable_47 : decode cX8_vegetable 47 = .ok (.getfield 19, 3) := by decide +kernel
theorem dX8_vegetable_50 : decode cX8_vegetable 50 = .ok (.iload_n 1, 1) := by decide +kernel
theorem dX8_vegetable_51 : decode cX8_vegetable 51 = .ok (.invokevirtual 183, 3) := by decide +kernel
theorem dX8_vegetable_54 : decode cX8_vegetable 54 = .ok (.ireturn, 1) := by decide +kernel
theorem dX8_vegetable_55 : decode cX8_vegetable 55 = .ok (.aload_n 0, 1) := by decide +kernel
theorem dX8_vegetable_56 : decode cX8_vegetable 56 = .ok (.getfield 19, 3) := by decide +kernel
theorem dX8_vegetable_59 : decode cX8_vegetable 59 = .ok (.getfield 186, 3) := by decide +kernel
theorem dX8_vegetable_62 : decode cX8_vegetable 62 = .ok (.iload_n 1, 1) := by decide +kernel
theorem dX8_vegetable_63 : decode cX8_vegetable 63 = .ok (.iaload, 1) := by decide +kernel
theorem dX8_vegetable_64 : decode cX8_vegetable 64 = .ok (.ireturn, 1) := by decide +kernel
theorem dX8_vegetable_65 : decode cX8_vegetable 65 = .ok (.aload_n 0, 1) := by decide +kernel
theorem dX8_vegetable_66 : decode cX8_vegetable 66 = .ok (.iload_n 1, 1) := by decide +kernel
theorem dX8_vegetable_67 : decode cX8_vegetable 67 = .ok (.invokevirtual 189, 3) := by decide +kernel
theorem dX8_vegetable_70 : decode cX8_vegetable 70 = .ok (.ireturn, 1) := by decide +kernel
theorem dX8_vegetable_71 : decode cX8_vegetable 71 = .ok (.new 143, 3) := by decide +kernel
theorem dX8_vegetable_74 : decode cX8_vegetable 74 = .ok (.dup, 1) := by decide +kernel
theorem dX8_vegetable_75 : decode cX8_vegetable 75 = .ok (.ldc 192, 2) := by decide +kernel
theorem dX8_vegetable_77 : decode cX8_vegetable 77 = .ok (.invokespecial 147, 3) := by decide +kernel
theorem dX8_vegetable_80 : decode cX8_vegetable 80 = .ok (.athrow, 1) := by decide +kernel
theorem dX8_box_0 : decode cX8_box 0 = .ok (.aload_n 0, 1) := by decide +kernel
theorem dX8_box_1 : decode cX8_box 1 = .ok (.iload_n 1, 1) := by decide +kernel
theorem dX8_box_2 : decode cX8_box 2 = .ok (.invokevirtual 148, 3) := by decide +kernel
theorem dX8_box_5 : decode cX8_box 5 = .ok (.aload_n 0, 1) := by decide +kernel
theorem dX8_box_6 : decode cX8_box 6 = .ok (.iload_n 2, 1) := by decide +kernel
theorem dX8_box_7 : decode cX8_box 7 = .ok (.invokevirtual 177, 3) := by decide +kernel
theorem dX8_box_10 : decode cX8_box 10 = .ok (.aload_n 0, 1) := by decide +kernel
theorem dX8_box_11 : decode cX8_box 11 = .ok (.getfield 19, 3) := by decide +kernel
theorem dX8_box_14 : decode cX8_box 14 = .ok (.getfield 194, 3) := by decide +kernel
theorem dX8_box_17 : decode cX8_box 17 = .ok (.iload_n 1, 1) := by decide +kernel
theorem dX8_box_18 : decode cX8_box 18 = .ok (.iload_n 2, 1) := by decide +kernel
theorem dX8_box_19 : decode cX8_box 19 = .ok (.invokestatic 197, 3) := by decide +kernel
theorem dX8_box_22 : decode cX8_box 22 = .ok (.iaload, 1) := by decide +kernel
theorem dX8_box_23 : decode cX8_box 23 = .ok (.ireturn, 1) := by decide +kernel
theorem dX8_liking_0 : decode cX8_liking 0 = .ok (.aload_n 0, 1) := by decide +kernel
theorem dX8_liking_1 : decode cX8_liking 1 = .ok (.iload_n 1, 1) := by decide +kernel
theorem dX8_liking_2 : decode cX8_liking 2 = .ok (.invokevirtual 148, 3) := by decide +kernel
theorem dX8_liking_5 : decode cX8_liking 5 = .ok (.aload_n 0, 1) := by decide +kernel
theorem dX8_liking_6 : decode cX8_liking 6 = .ok (.iload_n 2, 1) := by decide +kernel
theorem dX8_liking_7 : decode cX8_liking 7 = .ok (.invokevirtual 177, 3) := by decide +kernel
theorem dX8_liking_10 : decode cX8_liking 10 = .ok (.aload_n 0, 1) := by decide +kernel
theorem dX8_liking_11 : decode cX8_liking 11 = .ok (.getfield 19, 3) := by decide +kernel
theorem dX8_liking_14 : decode cX8_liking 14 = .ok (.getfield 201, 3) := by decide +kernel
theorem dX8_liking_17 : decode cX8_liking 17 = .ok (.iload_n 1, 1) := by decide +kernel
theorem dX8_liking_18 : decode cX8_liking 18 = .ok (.iload_n 2, 1) := by decide +kernel
theorem dX8_liking_19 : decode cX8_liking 19 = .ok (.invokestatic 197, 3) := by decide +kernel
theorem dX8_liking_22 : decode cX8_liking 22 = .ok (.iaload, 1) := by decide +kernel
theorem dX8_liking_23 : decode cX8_liking 23 = .ok (.ireturn, 1) := by decide +kernel
theorem dX8_order_0 : decode cX8_order 0 = .ok (.iload_n 1, 1) := by decide +kernel
theorem dX8_order_1 : decode cX8_order 1 = .ok (.ifCond .ge 13, 3) := by decide +kernel
theorem dX8_order_4 : decode cX8_order 4 = .ok (.new 143, 3) := by decide +kernel
theorem dX8_order_7 : decode cX8_order 7 = .ok (.dup, 1) := by decide +kernel
theorem dX8_order_8 : decode cX8_order 8 = .ok (.ldc 204, 2) := by decide +kernel
theorem dX8_order_10 : decode cX8_order 10 = .ok (.invokespecial 147, 3) := by decide +kernel
theorem dX8_order_13 : decode cX8_order 13 = .ok (.athrow, 1) := by decide +kernel
theorem dX8_order_14 : decode cX8_order 14 = .ok (.iconst 0, 1) := by decide +kernel
theorem dX8_order_15 : decode cX8_order 15 = .ok (.istore_n 2, 1) := by decide +kernel
theorem dX8_order_16 : decode cX8_order 16 = .ok (.iload_n 2, 1) := by decide +kernel
theorem dX8_order_17 : decode cX8_order 17 = .ok (.aload_n 0, 1) := by decide +kernel
theorem dX8_order_18 : decode cX8_order 18 = .ok (.getfield 19, 3) := by decide +kernel
theorem dX8_order_21 : decode cX8_order 21 = .ok (.getfield 112, 3) := by decide +kernel
theorem dX8_order_24 : decode cX8_order 24 = .ok (.if_icmp .ge 23, 3) := by decide +kernel
theorem dX8_order_27 : decode cX8_order 27 = .ok (.aload_n 0, 1) := by decide +kernel
theorem dX8_order_28 : decode cX8_order 28 = .ok (.getfield 19, 3) := by decide +kernel
theorem dX8_order_31 : decode cX8_order 31 = .ok (.iload_n 2, 1) := by decide +kernel
theorem dX8_order_32 : decode cX8_order 32 = .ok (.invokevirtual 206, 3) := by decide +kernel
theorem dX8_order_35 : decode cX8_order 35 = .ok (.iload_n 1, 1) := by decide +kernel
theorem dX8_order_36 : decode cX8_order 36 = .ok (.if_icmp .ne 5, 3) := by decide +kernel
theorem dX8_order_39 : decode cX8_order 39 = .ok (.iload_n 2, 1) := by decide +kernel
theorem dX8_order_40 : decode cX8_order 40 = .ok (.ireturn, 1) := by decide +kernel
theorem dX8_order_41 : decode cX8_order 41 = .ok (.iinc 2 1, 3) := by decide +kernel
theorem dX8_order_44 : decode cX8_order 44 = .ok (.goto (-28), 3) := by decide +kernel
theorem dX8_order_47 : decode cX8_order 47 = .ok (.bipush (-9), 2) := by decide +kernel
theorem dX8_order_49 : decode cX8_order 49 = .ok (.ireturn, 1) := by decide +kernel
theorem dX8_addHouse_0 : decode cX8_addHouse 0 = .ok (.iload_n 1, 1) := by decide +kernel
theorem dX8_addHouse_1 : decode cX8_addHouse 1 = .ok (.iconst 1, 1) := by decide +kernel
theorem dX8_addHouse_2 : decode cX8_addHouse 2 = .ok (.iconst 4, 1) := by decide +kernel
theorem dX8_addHouse_3 : decode cX8_addHouse 3 = .ok (.invokestatic 76, 3) := by decide +kernel
theorem dX8_addHouse_6 : decode cX8_addHouse 6 = .ok (.aload_n 0, 1) := by decide +kernel
theorem dX8_addHouse_7 : decode cX8_addHouse 7 = .ok (.getfield 19, 3) := by decide +kernel
theorem dX8_addHouse_10 : decode cX8_addHouse 10 = .ok (.getfield 112, 3) := by decide +kernel
theorem dX8_addHouse_13 : decode cX8_addHouse 13 = .ok (.bipush 6, 2) := by decide +kernel
theorem dX8_addHouse_15 : decode cX8_addHouse 15 = .ok (.if_icmp .lt 13, 3) := by decide +kernel
theorem dX8_addHouse_18 : decode cX8_addHouse 18 = .ok (.new 84, 3) := by decide +kernel
theorem dX8_addHouse_21 : decode cX8_addHouse 21 = .ok (.dup, 1) := by decide +kernel
theorem dX8_addHouse_22 : decode cX8_addHouse 22 = .ok (.ldc 209, 2) := by decide +kernel
theorem dX8_addHouse_24 : decode cX8_addHouse 24 = .ok (.invokespecial 88, 3) := by decide +kernel
theorem dX8_addHouse_27 : decode cX8_addHouse 27 = .ok (.athrow, 1) := by decide +kernel
theorem dX8_addHouse_28 : decode cX8_addHouse 28 = .ok (.aload_n 0, 1) := by decide +kernel
theorem dX8_addHouse_29 : decode cX8_addHouse 29 = .ok (.getfield 29, 3) := by decide +kernel
theorem dX8_addHouse_32 : decode cX8_addHouse 32 = .ok (.aload_n 0, 1) := by decide +kernel
theorem dX8_addHouse_33 : decode cX8_addHouse 33 = .ok (.getfield 19, 3) := by decide +kernel
theorem dX8_addHouse_36 : decode cX8_addHouse 36 = .ok (.invokevirtual 211, 3) := by decide +kernel
theorem dX8_addHouse_39 : decode cX8_addHouse 39 = .ok (.aload_n 0, 1) := by decide +kernel
theorem dX8_addHouse_40 : decode cX8_addHouse 40 = .ok (.getfield 19, 3) := by decide +kernel
theorem dX8_addHouse_43 : decode cX8_addHouse 43 = .ok (.iload_n 1, 1) := by decide +kernel
theorem dX8_addHouse_44 : decode cX8_addHouse 44 = .ok (.iconst 0, 1) := by decide +kernel
theorem dX8_addHouse_45 : decode cX8_addHouse 45 = .ok (.invokevirtual 214, 3) := by decide +kernel
theorem dX8_addHouse_48 : decode cX8_addHouse 48 = .ok (.aload_n 0, 1) := by decide +kernel
theorem dX8_addHouse_49 : decode cX8_addHouse 49 = .ok (.getfield 19, 3) := by decide +kernel
theorem dX8_addHouse_52 : decode cX8_addHouse 52 = .ok (.getfield 112, 3) := by decide +kernel
theorem dX8_addHouse_55 : decode cX8_addHouse 55 = .ok (.iconst 1, 1) := by decide +kernel
theorem dX8_addHouse_56 : decode cX8_addHouse 56 = .ok (.isub, 1) := by decide +kernel
theorem dX8_addHouse_57 : decode cX8_addHouse 57 = .ok (.ireturn, 1) := by decide +kernel
theorem dX8_addVegetable_0 : decode cX8_addVegetable 0 = .ok (.iload_n 1, 1) := by decide +kernel
theorem dX8_addVegetable_1 : decode cX8_addVegetable 1 = .ok (.iconst 0, 1) := by decide +kernel
theorem dX8_addVegetable_2 : decode cX8_addVegetable 2 = .ok (.bipush 40, 2) := by decide +kernel
theorem dX8_addVegetable_4 : decode cX8_addVegetable 4 = .ok (.invokestatic 76, 3) := by decide +kernel
theorem dX8_addVegetable_7 : decode cX8_addVegetable 7 = .ok (.aload_n 0, 1) := by decide +kernel
theorem dX8_addVegetable_8 : decode cX8_addVegetable 8 = .ok (.getfield 19, 3) := by decide +kernel
theorem dX8_addVegetable_11 : decode cX8_addVegetable 11 = .ok (.getfield 116, 3) := by decide +kernel
theorem dX8_addVegetable_14 : decode cX8_addVegetable 14 = .ok (.iconst 5, 1) := by decide +kernel
theorem dX8_addVegetable_15 : decode cX8_addVegetable 15 = .ok (.if_icmp .lt 13, 3) := by decide +kernel
theorem dX8_addVegetable_18 : decode cX8_addVegetable 18 = .ok (.new 84, 3) := by decide +kernel
theorem dX8_addVegetable_21 : decode cX8_addVegetable 21 = .ok (.dup, 1) := by decide +kernel
theorem dX8_addVegetable_22 : decode cX8_addVegetable 22 = .ok (.ldc 218, 2) := by decide +kernel
theorem dX8_addVegetable_24 : decode cX8_addVegetable 24 = .ok (.invokespecial 88, 3) := by decide +kernel
theorem dX8_addVegetable_27 : decode cX8_addVegetable 27 = .ok (.athrow, 1) := by decide +kernel
theorem dX8_addVegetable_28 : decode cX8_addVegetable 28 = .ok (.aload_n 0, 1) := by decide +kernel
theorem dX8_addVegetable_29 : decode cX8_addVegetable 29 = .ok (.getfield 29, 3) := by decide +kernel
theorem dX8_addVegetable_32 : decode cX8_addVegetable 32 = .ok (.aload_n 0, 1) := by decide +kernel
theorem dX8_addVegetable_33 : decode cX8_addVegetable 33 = .ok (.getfield 19, 3) := by decide +kernel
theorem dX8_addVegetable_36 : decode cX8_addVegetable 36 = .ok (.invokevirtual 211, 3) := by decide +kernel
theorem dX8_addVegetable_39 : decode cX8_addVegetable 39 = .ok (.aload_n 0, 1) := by decide +kernel
theorem dX8_addVegetable_40 : decode cX8_addVegetable 40 = .ok (.getfield 19, 3) := by decide +kernel
theorem dX8_addVegetable_43 : decode cX8_addVegetable 43 = .ok (.iload_n 1, 1) := by decide +kernel
theorem dX8_addVegetable_44 : decode cX8_addVegetable 44 = .ok (.invokevirtual 220, 3) := by decide +kernel
theorem dX8_addVegetable_47 : decode cX8_addVegetable 47 = .ok (.aload_n 0, 1) := by decide +kernel
theorem dX8_addVegetable_48 : decode cX8_addVegetable 48 = .ok (.getfield 19, 3) := by decide +kernel
theorem dX8_addVegetable_51 : decode cX8_addVegetable 51 = .ok (.getfield 116, 3) := by decide +kernel
theorem dX8_addVegetable_54 : decode cX8_addVegetable 54 = .ok (.iconst 1, 1) := by decide +kernel
theorem dX8_addVegetable_55 : decode cX8_addVegetable 55 = .ok (.isub, 1) := by decide +kernel
theorem dX8_addVegetable_56 : decode cX8_addVegetable 56 = .ok (.ireturn, 1) := by decide +kernel
theorem dX8_setHarvest_0 : decode cX8_setHarvest 0 = .ok (.aload_n 0, 1) := by decide +kernel
theorem dX8_setHarvest_1 : decode cX8_setHarvest 1 = .ok (.iload_n 1, 1) := by decide +kernel
theorem dX8_setHarvest_2 : decode cX8_setHarvest 2 = .ok (.invokevirtual 177, 3) := by decide +kernel
theorem dX8_setHarvest_5 : decode cX8_setHarvest 5 = .ok (.iload_n 2, 1) := by decide +kernel
theorem dX8_setHarvest_6 : decode cX8_setHarvest 6 = .ok (.iconst 0, 1) := by decide +kernel
theorem dX8_setHarvest_7 : decode cX8_setHarvest 7 = .ok (.bipush 40, 2) := by decide +kernel
theorem dX8_setHarvest_9 : decode cX8_setHarvest 9 = .ok (.invokestatic 76, 3) := by decide +kernel
theorem dX8_setHarvest_12 : decode cX8_setHarvest 12 = .ok (.aload_n 0, 1) := by decide +kernel
theorem dX8_setHarvest_13 : decode cX8_setHarvest 13 = .ok (.getfield 29, 3) := by decide +kernel
theorem dX8_setHarvest_16 : decode cX8_setHarvest 16 = .ok (.aload_n 0, 1) := by decide +kernel
theorem dX8_setHarvest_17 : decode cX8_setHarvest 17 = .ok (.getfield 19, 3) := by decide +kernel
theorem dX8_setHarvest_20 : decode cX8_setHarvest 20 = .ok (.invokevirtual 211, 3) := by decide +kernel
theorem dX8_setHarvest_23 : decode cX8_setHarvest 23 = .ok (.aload_n 0, 1) := by decide +kernel
theorem dX8_setHarvest_24 : decode cX8_setHarvest 24 = .ok (.getfield 19, 3) := by decide +kernel
theorem dX8_setHarvest_27 : decode cX8_setHarvest 27 = .ok (.getfield 180, 3) := by decide +kernel
theorem dX8_setHarvest_30 : decode cX8_setHarvest 30 = .ok (.iload_n 1, 1) := by decide +kernel
theorem dX8_setHarvest_31 : decode cX8_setHarvest 31 = .ok (.iaload, 1) := by decide +kernel
theorem dX8_setHarvest_32 : decode cX8_setHarvest 32 = .ok (.istore_n 3, 1) := by decide +kernel
theorem dX8_setHarvest_33 : decode cX8_setHarvest 33 = .ok (.aload_n 0, 1) := by decide +kernel
theorem dX8_setHarvest_34 : decode cX8_setHarvest 34 = .ok (.getfield 19, 3) := by decide +kernel
theorem dX8_setHarvest_37 : decode cX8_setHarvest 37 = .ok (.getfield 180, 3) := by decide +kernel
theorem dX8_setHarvest_40 : decode cX8_setHarvest 40 = .ok (.iload_n 1, 1) := by decide +kernel
theorem dX8_setHarvest_41 : decode cX8_setHarvest 41 = .ok (.iload_n 2, 1) := by decide +kernel
theorem dX8_setHarvest_42 : decode cX8_setHarvest 42 = .ok (.iastore, 1) := by decide +kernel
theorem dX8_setHarvest_43 : decode cX8_setHarvest 43 = .ok (.iload_n 3, 1) := by decide +kernel
theorem dX8_setHarvest_44 : decode cX8_setHarvest 44 = .ok (.ireturn, 1) := by decide +kernel
theorem dX8_setLiking_0 : decode cX8_setLiking 0 = .ok (.aload_n 0, 1) := by decide +kernel
theorem dX8_setLiking_1 : decode cX8_setLiking 1 = .ok (.iload_n 1, 1) := by decide +kernel
theorem dX8_setLiking_2 : decode cX8_setLiking 2 = .ok (.invokevirtual 148, 3) := by decide +kernel
theorem dX8_setLiking_5 : decode cX8_setLiking 5 = .ok (.aload_n 0, 1) := by decide +kernel
theorem dX8_setLiking_6 : decode cX8_setLiking 6 = .ok (.iload_n 2, 1) := by decide +kernel
theorem dX8_setLiking_7 : decode cX8_setLiking 7 = .ok (.invokevirtual 177, 3) := by decide +kernel
theorem dX8_setLiking_10 : decode cX8_setLiking 10 = .ok (.iload_n 3, 1) := by decide +kernel
theorem dX8_setLiking_11 : decode cX8_setLiking 11 = .ok (.iconst 0, 1) := by decide +kernel
theorem dX8_setLiking_12 : decode cX8_setLiking 12 = .ok (.bipush 9, 2) := by decide +kernel
theorem dX8_setLiking_14 : decode cX8_setLiking 14 = .ok (.invokestatic 76, 3) := by decide +kernel
theorem dX8_setLiking_17 : decode cX8_setLiking 17 = .ok (.aload_n 0, 1) := by decide +kernel
theorem dX8_setLiking_18 : decode cX8_setLiking 18 = .ok (.getfield 29, 3) := by decide +kernel
theorem dX8_setLiking_21 : decode cX8_setLiking 21 = .ok (.aload_n 0, 1) := by decide +kernel
theorem dX8_setLiking_22 : decode cX8_setLiking 22 = .ok (.getfield 19, 3) := by decide +kernel
theorem dX8_setLiking_25 : decode cX8_setLiking 25 = .ok (.invokevirtual 211, 3) := by decide +kernel
theorem dX8_setLiking_28 : decode cX8_setLiking 28 = .ok (.aload_n 0, 1) := by decide +kernel
theorem dX8_setLiking_29 : decode cX8_setLiking 29 = .ok (.getfield 19, 3) := by decide +kernel
theorem dX8_setLiking_32 : decode cX8_setLiking 32 = .ok (.getfield 201, 3) := by decide +kernel
theorem dX8_setLiking_35 : decode cX8_setLiking 35 = .ok (.iload_n 1, 1) := by decide +kernel
theorem dX8_setLiking_36 : decode cX8_setLiking 36 = .ok (.iload_n 2, 1) := by decide +kernel
theorem dX8_setLiking_37 : decode cX8_setLiking 37 = .ok (.invokestatic 197, 3) := by decide +kernel
theorem dX8_setLiking_40 : decode cX8_setLiking 40 = .ok (.iaload, 1) := by decide +kernel
theorem dX8_setLiking_41 : decode cX8_setLiking 41 = .ok (.istore 4, 2) := by decide +kernel
theorem dX8_setLiking_43 : decode cX8_setLiking 43 = .ok (.aload_n 0, 1) := by decide +kernel
theorem dX8_setLiking_44 : decode cX8_setLiking 44 = .ok (.getfield 19, 3) := by decide +kernel
theorem dX8_setLiking_47 : decode cX8_setLiking 47 = .ok (.getfield 201, 3) := by decide +kernel
theorem dX8_setLiking_50 : decode cX8_setLiking 50 = .ok (.iload_n 1, 1) := by decide +kernel
theorem dX8_setLiking_51 : decode cX8_setLiking 51 = .ok (.iload_n 2, 1) := by decide +kernel
theorem dX8_setLiking_52 : decode cX8_setLiking 52 = .ok (.invokestatic 197, 3) := by decide +kernel
theorem dX8_setLiking_55 : decode cX8_setLiking 55 = .ok (.iload_n 3, 1) := by decide +kernel
theorem dX8_setLiking_56 : decode cX8_setLiking 56 = .ok (.iastore, 1) := by decide +kernel
theorem dX8_setLiking_57 : decode cX8_setLiking 57 = .ok (.iload 4, 2) := by decide +kernel
theorem dX8_setLiking_59 : decode cX8_setLiking 59 = .ok (.ireturn, 1) := by decide +kernel
theorem dX8_skip_0 : decode cX8_skip 0 = .ok (.aload_n 0, 1) := by decide +kernel
theorem dX8_skip_1 : decode cX8_skip 1 = .ok (.iload_n 1, 1) := by decide +kernel
theorem dX8_skip_2 : decode cX8_skip 2 = .ok (.invokevirtual 148, 3) := by decide +kernel
theorem dX8_skip_5 : decode cX8_skip 5 = .ok (.aload_n 0, 1) := by decide +kernel
theorem dX8_skip_6 : decode cX8_skip 6 = .ok (.getfield 29, 3) := by decide +kernel
theorem dX8_skip_9 : decode cX8_skip 9 = .ok (.aload_n 0, 1) := by decide +kernel
theorem dX8_skip_10 : decode cX8_skip 10 = .ok (.getfield 19, 3) := by decide +kernel
theorem dX8_skip_13 : decode cX8_skip 13 = .ok (.invokevirtual 211, 3) := by decide +kernel
theorem dX8_skip_16 : decode cX8_skip 16 = .ok (.aload_n 0, 1) := by decide +kernel
theorem dX8_skip_17 : decode cX8_skip 17 = .ok (.getfield 19, 3) := by decide +kernel
theorem dX8_skip_20 : decode cX8_skip 20 = .ok (.getfield 162, 3) := by decide +kernel
theorem dX8_skip_23 : decode cX8_skip 23 = .ok (.iload_n 1, 1) := by decide +kernel
theorem dX8_skip_24 : decode cX8_skip 24 = .ok (.iload_n 2, 1) := by decide +kernel
theorem dX8_skip_25 : decode cX8_skip 25 = .ok (.ifCond .eq 7, 3) := by decide +kernel
theorem dX8_skip_28 : decode cX8_skip 28 = .ok (.iconst 1, 1) := by decide +kernel
theorem dX8_skip_29 : decode cX8_skip 29 = .ok (.goto 4, 3) := by decide +kernel
theorem dX8_skip_32 : decode cX8_skip 32 = .ok (.iconst 0, 1) := by decide +kernel
theorem dX8_skip_33 : decode cX8_skip 33 = .ok (.iastore, 1) := by decide +kernel
theorem dX8_skip_34 : decode cX8_skip 34 = .ok (.aload_n 0, 1) := by decide +kernel
theorem dX8_skip_35 : decode cX8_skip 35 = .ok (.getfield 19, 3) := by decide +kernel
theorem dX8_skip_38 : decode cX8_skip 38 = .ok (.invokevirtual 140, 3) := by decide +kernel
theorem dX8_skip_41 : decode cX8_skip 41 = .ok (.ireturn, 1) := by decide +kernel
theorem dX8_pack_0 : decode cX8_pack 0 = .ok (.aload_n 0, 1) := by decide +kernel
theorem dX8_pack_1 : decode cX8_pack 1 = .ok (.getfield 29, 3) := by decide +kernel
theorem dX8_pack_4 : decode cX8_pack 4 = .ok (.aload_n 0, 1) := by decide +kernel
theorem dX8_pack_5 : decode cX8_pack 5 = .ok (.getfield 19, 3) := by decide +kernel
theorem dX8_pack_8 : decode cX8_pack 8 = .ok (.invokevirtual 211, 3) := by decide +kernel
theorem dX8_pack_11 : decode cX8_pack 11 = .ok (.aload_n 0, 1) := by decide +kernel
theorem dX8_pack_12 : decode cX8_pack 12 = .ok (.getfield 44, 3) := by decide +kernel
theorem dX8_pack_15 : decode cX8_pack 15 = .ok (.aload_n 0, 1) := by decide +kernel
theorem dX8_pack_16 : decode cX8_pack 16 = .ok (.getfield 19, 3) := by decide +kernel
theorem dX8_pack_19 : decode cX8_pack 19 = .ok (.invokevirtual 223, 3) := by decide +kernel
theorem dX8_pack_22 : decode cX8_pack 22 = .ok (.aload_n 0, 1) := by decide +kernel
theorem dX8_pack_23 : decode cX8_pack 23 = .ok (.getfield 19, 3) := by decide +kernel
theorem dX8_pack_26 : decode cX8_pack 26 = .ok (.getfield 137, 3) := by decide +kernel
theorem dX8_pack_29 : decode cX8_pack 29 = .ok (.ireturn, 1) := by decide +kernel
theorem dX8_returnCrates_0 : decode cX8_returnCrates 0 = .ok (.aload_n 0, 1) := by decide +kernel
theorem dX8_returnCrates_1 : decode cX8_returnCrates 1 = .ok (.iload_n 1, 1) := by decide +kernel
theorem dX8_returnCrates_2 : decode cX8_returnCrates 2 = .ok (.invokevirtual 148, 3) := by decide +kernel
theorem dX8_returnCrates_5 : decode cX8_returnCrates 5 = .ok (.iload_n 2, 1) := by decide +kernel
theorem dX8_returnCrates_6 : decode cX8_returnCrates 6 = .ok (.iconst 1, 1) := by decide +kernel
theorem dX8_returnCrates_7 : decode cX8_returnCrates 7 = .ok (.bipush 9, 2) := by decide +kernel
theorem dX8_returnCrates_9 : decode cX8_returnCrates 9 = .ok (.invokestatic 76, 3) := by decide +kernel
theorem dX8_returnCrates_12 : decode cX8_returnCrates 12 = .ok (.aload_n 0, 1) := by decide +kernel
theorem dX8_returnCrates_13 : decode cX8_returnCrates 13 = .ok (.getfield 19, 3) := by decide +kernel
theorem dX8_returnCrates_16 : decode cX8_returnCrates 16 = .ok (.getfield 156, 3) := by decide +kernel
theorem dX8_returnCrates_19 : decode cX8_returnCrates 19 = .ok (.iload_n 1, 1) := by decide +kernel
theorem dX8_returnCrates_20 : decode cX8_returnCrates 20 = .ok (.iaload, 1) := by decide +kernel
theorem dX8_returnCrates_21 : decode cX8_returnCrates 21 = .ok (.iload_n 2, 1) := by decide +kernel
theorem dX8_returnCrates_22 : decode cX8_returnCrates 22 = .ok (.if_icmp .ge 13, 3) := by decide +kernel
theorem dX8_returnCrates_25 : decode cX8_returnCrates 25 = .ok (.new 84, 3) := by decide +kernel
theorem dX8_returnCrates_28 : decode cX8_returnCrates 28 = .ok (.dup, 1) := by decide +kernel
theorem dX8_returnCrates_29 : decode cX8_returnCrates 29 = .ok (.ldc 226, 2) := by decide +kernel
theorem dX8_returnCrates_31 : decode cX8_returnCrates 31 = .ok (.invokespecial 88, 3) := by decide +kernel
theorem dX8_returnCrates_34 : decode cX8_returnCrates 34 = .ok (.athrow, 1) := by decide +kernel
theorem dX8_returnCrates_35 : decode cX8_returnCrates 35 = .ok (.aload_n 0, 1) := by decide +kernel
theorem dX8_returnCrates_36 : decode cX8_returnCrates 36 = .ok (.getfield 29, 3) := by decide +kernel
theorem dX8_returnCrates_39 : decode cX8_returnCrates 39 = .ok (.aload_n 0, 1) := by decide +kernel
theorem dX8_returnCrates_40 : decode cX8_returnCrates 40 = .ok (.getfield 19, 3) := by decide +kernel
theorem dX8_returnCrates_43 : decode cX8_returnCrates 43 = .ok (.invokevirtual 211, 3) := by decide +kernel
theorem dX8_returnCrates_46 : decode cX8_returnCrates 46 = .ok (.aload_n 0, 1) := by decide +kernel
theorem dX8_returnCrates_47 : decode cX8_returnCrates 47 = .ok (.getfield 19, 3) := by decide +kernel
theorem dX8_returnCrates_50 : decode cX8_returnCrates 50 = .ok (.getfield 156, 3) := by decide +kernel
theorem dX8_returnCrates_53 : decode cX8_returnCrates 53 = .ok (.iload_n 1, 1) := by decide +kernel
theorem dX8_returnCrates_54 : decode cX8_returnCrates 54 = .ok (.dup2, 1) := by decide +kernel
theorem dX8_returnCrates_55 : decode cX8_returnCrates 55 = .ok (.iaload, 1) := by decide +kernel
theorem dX8_returnCrates_56 : decode cX8_returnCrates 56 = .ok (.iload_n 2, 1) := by decide +kernel
theorem dX8_returnCrates_57 : decode cX8_returnCrates 57 = .ok (.isub, 1) := by decide +kernel
theorem dX8_returnCrates_58 : decode cX8_returnCrates 58 = .ok (.iastore, 1) := by decide +kernel
theorem dX8_returnCrates_59 : decode cX8_returnCrates 59 = .ok (.aload_n 0, 1) := by decide +kernel
theorem dX8_returnCrates_60 : decode cX8_returnCrates 60 = .ok (.getfield 19, 3) := by decide +kernel
theorem dX8_returnCrates_63 : decode cX8_returnCrates 63 = .ok (.getfield 156, 3) := by decide +kernel
theorem dX8_returnCrates_66 : decode cX8_returnCrates 66 = .ok (.iload_n 1, 1) := by decide +kernel
theorem dX8_returnCrates_67 : decode cX8_returnCrates 67 = .ok (.iaload, 1) := by decide +kernel
theorem dX8_returnCrates_68 : decode cX8_returnCrates 68 = .ok (.ireturn, 1) := by decide +kernel
theorem dX8_give_0 : decode cX8_give 0 = .ok (.aload_n 0, 1) := by decide +kernel
theorem dX8_give_1 : decode cX8_give 1 = .ok (.iload_n 1, 1) := by decide +kernel
theorem dX8_give_2 : decode cX8_give 2 = .ok (.invokevirtual 148, 3) := by decide +kernel
theorem dX8_give_5 : decode cX8_give 5 = .ok (.aload_n 0, 1) := by decide +kernel
theorem dX8_give_6 : decode cX8_give 6 = .ok (.iload_n 2, 1) := by decide +kernel
theorem dX8_give_7 : decode cX8_give 7 = .ok (.invokevirtual 177, 3) := by decide +kernel
theorem dX8_give_10 : decode cX8_give 10 = .ok (.iload_n 3, 1) := by decide +kernel
theorem dX8_give_11 : decode cX8_give 11 = .ok (.iconst 1, 1) := by decide +kernel
theorem dX8_give_12 : decode cX8_give 12 = .ok (.bipush 40, 2) := by decide +kernel
theorem dX8_give_14 : decode cX8_give 14 = .ok (.invokestatic 76, 3) := by decide +kernel
theorem dX8_give_17 : decode cX8_give 17 = .ok (.aload_n 0, 1) := by decide +kernel
theorem dX8_give_18 : decode cX8_give 18 = .ok (.getfield 19, 3) := by decide +kernel
theorem dX8_give_21 : decode cX8_give 21 = .ok (.getfield 194, 3) := by decide +kernel
theorem dX8_give_24 : decode cX8_give 24 = .ok (.iload_n 1, 1) := by decide +kernel
theorem dX8_give_25 : decode cX8_give 25 = .ok (.iload_n 2, 1) := by decide +kernel
theorem dX8_give_26 : decode cX8_give 26 = .ok (.invokestatic 197, 3) := by decide +kernel
theorem dX8_give_29 : decode cX8_give 29 = .ok (.iaload, 1) := by decide +kernel
theorem dX8_give_30 : decode cX8_give 30 = .ok (.iload_n 3, 1) := by decide +kernel
theorem dX8_give_31 : decode cX8_give 31 = .ok (.if_icmp .ge 13, 3) := by decide +kernel
theorem dX8_give_34 : decode cX8_give 34 = .ok (.new 84, 3) := by decide +kernel
theorem dX8_give_37 : decode cX8_give 37 = .ok (.dup, 1) := by decide +kernel
theorem dX8_give_38 : decode cX8_give 38 = .ok (.ldc 228, 2) := by decide +kernel
theorem dX8_give_40 : decode cX8_give 40 = .ok (.invokespecial 88, 3) := by decide +kernel
theorem dX8_give_43 : decode cX8_give 43 = .ok (.athrow, 1) := by decide +kernel
theorem dX8_give_44 : decode cX8_give 44 = .ok (.aload_n 0, 1) := by decide +kernel
theorem dX8_give_45 : decode cX8_give 45 = .ok (.getfield 29, 3) := by decide +kernel
theorem dX8_give_48 : decode cX8_give 48 = .ok (.aload_n 0, 1) := by decide +kernel
theorem dX8_give_49 : decode cX8_give 49 = .ok (.getfield 19, 3) := by decide +kernel
theorem dX8_give_52 : decode cX8_give 52 = .ok (.invokevirtual 211, 3) := by decide +kernel
theorem dX8_give_55 : decode cX8_give 55 = .ok (.aload_n 0, 1) := by decide +kernel
theorem dX8_give_56 : decode cX8_give 56 = .ok (.getfield 19, 3) := by decide +kernel
theorem dX8_give_59 : decode cX8_give 59 = .ok (.iload_n 1, 1) := by decide +kernel
theorem dX8_give_60 : decode cX8_give 60 = .ok (.iload_n 2, 1) := by decide +kernel
theorem dX8_give_61 : decode cX8_give 61 = .ok (.iload_n 3, 1) := by decide +kernel
theorem dX8_give_62 : decode cX8_give 62 = .ok (.invokevirtual 230, 3) := by decide +kernel
theorem dX8_give_65 : decode cX8_give 65 = .ok (.aload_n 0, 1) := by decide +kernel
theorem dX8_give_66 : decode cX8_give 66 = .ok (.getfield 19, 3) := by decide +kernel
theorem dX8_give_69 : decode cX8_give 69 = .ok (.getfield 194, 3) := by decide +kernel
theorem dX8_give_72 : decode cX8_give 72 = .ok (.iload_n 1, 1) := by decide +kernel
theorem dX8_give_73 : decode cX8_give 73 = .ok (.iload_n 2, 1) := by decide +kernel
theorem dX8_give_74 : decode cX8_give 74 = .ok (.invokestatic 197, 3) := by decide +kernel
theorem dX8_give_77 : decode cX8_give 77 = .ok (.iaload, 1) := by decide +kernel
theorem dX8_give_78 : decode cX8_give 78 = .ok (.ireturn, 1) := by decide +kernel
theorem dX8_undo_0 : decode cX8_undo 0 = .ok (.aload_n 0, 1) := by decide +kernel
theorem dX8_undo_1 : decode cX8_undo 1 = .ok (.getfield 29, 3) := by decide +kernel
theorem dX8_undo_4 : decode cX8_undo 4 = .ok (.invokevirtual 233, 3) := by decide +kernel
theorem dX8_undo_7 : decode cX8_undo 7 = .ok (.ifCond .ne 13, 3) := by decide +kernel
theorem dX8_undo_10 : decode cX8_undo 10 = .ok (.new 84, 3) := by decide +kernel
theorem dX8_undo_13 : decode cX8_undo 13 = .ok (.dup, 1) := by decide +kernel
theorem dX8_undo_14 : decode cX8_undo 14 = .ok (.ldc 236, 2) := by decide +kernel
theorem dX8_undo_16 : decode cX8_undo 16 = .ok (.invokespecial 88, 3) := by decide +kernel
theorem dX8_undo_19 : decode cX8_undo 19 = .ok (.athrow, 1) := by decide +kernel
theorem dX8_undo_20 : decode cX8_undo 20 = .ok (.aload_n 0, 1) := by decide +kernel
theorem dX8_undo_21 : decode cX8_undo 21 = .ok (.getfield 29, 3) := by decide +kernel
theorem dX8_undo_24 : decode cX8_undo 24 = .ok (.aload_n 0, 1) := by decide +kernel
theorem dX8_undo_25 : decode cX8_undo 25 = .ok (.getfield 19, 3) := by decide +kernel
theorem dX8_undo_28 : decode cX8_undo 28 = .ok (.invokevirtual 238, 3) := by decide +kernel
theorem dX8_undo_31 : decode cX8_undo 31 = .ok (.aload_n 0, 1) := by decide +kernel
theorem dX8_undo_32 : decode cX8_undo 32 = .ok (.getfield 29, 3) := by decide +kernel
theorem dX8_undo_35 : decode cX8_undo 35 = .ok (.invokevirtual 233, 3) := by decide +kernel
theorem dX8_undo_38 : decode cX8_undo 38 = .ok (.ireturn, 1) := by decide +kernel
theorem dX8_wouldGet_0 : decode cX8_wouldGet 0 = .ok (.aload_n 0, 1) := by decide +kernel
theorem dX8_wouldGet_1 : decode cX8_wouldGet 1 = .ok (.iload_n 1, 1) := by decide +kernel
theorem dX8_wouldGet_2 : decode cX8_wouldGet 2 = .ok (.invokevirtual 148, 3) := by decide +kernel
theorem dX8_wouldGet_5 : decode cX8_wouldGet 5 = .ok (.aload_n 0, 1) := by decide +kernel
theorem dX8_wouldGet_6 : decode cX8_wouldGet 6 = .ok (.iload_n 2, 1) := by decide +kernel
theorem dX8_wouldGet_7 : decode cX8_wouldGet 7 = .ok (.invokevirtual 177, 3) := by decide +kernel
theorem dX8_wouldGet_10 : decode cX8_wouldGet 10 = .ok (.aload_n 0, 1) := by decide +kernel
theorem dX8_wouldGet_11 : decode cX8_wouldGet 11 = .ok (.getfield 23, 3) := by decide +kernel
theorem dX8_wouldGet_14 : decode cX8_wouldGet 14 = .ok (.aload_n 0, 1) := by decide +kernel
theorem dX8_wouldGet_15 : decode cX8_wouldGet 15 = .ok (.getfield 19, 3) := by decide +kernel
theorem dX8_wouldGet_18 : decode cX8_wouldGet 18 = .ok (.invokevirtual 105, 3) := by decide +kernel
theorem dX8_wouldGet_21 : decode cX8_wouldGet 21 = .ok (.aload_n 0, 1) := by decide +kernel
theorem dX8_wouldGet_22 : decode cX8_wouldGet 22 = .ok (.getfield 44, 3) := by decide +kernel
theorem dX8_wouldGet_25 : decode cX8_wouldGet 25 = .ok (.aload_n 0, 1) := by decide +kernel
theorem dX8_wouldGet_26 : decode cX8_wouldGet 26 = .ok (.getfield 23, 3) := by decide +kernel
theorem dX8_wouldGet_29 : decode cX8_wouldGet 29 = .ok (.invokevirtual 223, 3) := by decide +kernel
theorem dX8_wouldGet_32 : decode cX8_wouldGet 32 = .ok (.aload_n 0, 1) := by decide +kernel
theorem dX8_wouldGet_33 : decode cX8_wouldGet 33 = .ok (.getfield 23, 3) := by decide +kernel
theorem dX8_wouldGet_36 : decode cX8_wouldGet 36 = .ok (.getfield 194, 3) := by decide +kernel
theorem dX8_wouldGet_39 : decode cX8_wouldGet 39 = .ok (.iload_n 1, 1) := by decide +kernel
theorem dX8_wouldGet_40 : decode cX8_wouldGet 40 = .ok (.iload_n 2, 1) := by decide +kernel
theorem dX8_wouldGet_41 : decode cX8_wouldGet 41 = .ok (.invokestatic 197, 3) := by decide +kernel
theorem dX8_wouldGet_44 : decode cX8_wouldGet 44 = .ok (.iaload, 1) := by decide +kernel
theorem dX8_wouldGet_45 : decode cX8_wouldGet 45 = .ok (.ireturn, 1) := by decide +kernel
theorem dX8_wouldBe_0 : decode cX8_wouldBe 0 = .ok (.aload_n 0, 1) := by decide +kernel
theorem dX8_wouldBe_1 : decode cX8_wouldBe 1 = .ok (.iload_n 1, 1) := by decide +kernel
theorem dX8_wouldBe_2 : decode cX8_wouldBe 2 = .ok (.invokevirtual 148, 3) := by decide +kernel
theorem dX8_wouldBe_5 : decode cX8_wouldBe 5 = .ok (.aload_n 0, 1) := by decide +kernel
theorem dX8_wouldBe_6 : decode cX8_wouldBe 6 = .ok (.getfield 23, 3) := by decide +kernel
theorem dX8_wouldBe_9 : decode cX8_wouldBe 9 = .ok (.aload_n 0, 1) := by decide +kernel
theorem dX8_wouldBe_10 : decode cX8_wouldBe 10 = .ok (.getfield 19, 3) := by decide +kernel
theorem dX8_wouldBe_13 : decode cX8_wouldBe 13 = .ok (.invokevirtual 105, 3) := by decide +kernel
theorem dX8_wouldBe_16 : decode cX8_wouldBe 16 = .ok (.aload_n 0, 1) := by decide +kernel
theorem dX8_wouldBe_17 : decode cX8_wouldBe 17 = .ok (.getfield 44, 3) := by decide +kernel
theorem dX8_wouldBe_20 : decode cX8_wouldBe 20 = .ok (.aload_n 0, 1) := by decide +kernel
theorem dX8_wouldBe_21 : decode cX8_wouldBe 21 = .ok (.getfield 23, 3) := by decide +kernel
theorem dX8_wouldBe_24 : decode cX8_wouldBe 24 = .ok (.invokevirtual 223, 3) := by decide +kernel
theorem dX8_wouldBe_27 : decode cX8_wouldBe 27 = .ok (.aload_n 0, 1) := by decide +kernel
theorem dX8_wouldBe_28 : decode cX8_wouldBe 28 = .ok (.getfield 23, 3) := by decide +kernel
theorem dX8_wouldBe_31 : decode cX8_wouldBe 31 = .ok (.iload_n 1, 1) := by decide +kernel
theorem dX8_wouldBe_32 : decode cX8_wouldBe 32 = .ok (.invokevirtual 168, 3) := by decide +kernel
theorem dX8_wouldBe_35 : decode cX8_wouldBe 35 = .ok (.ireturn, 1) := by decide +kernel
theorem dX8_bestSkip_0 : decode cX8_bestSkip 0 = .ok (.aload_n 0, 1) := by decide +kernel
theorem dX8_bestSkip_1 : decode cX8_bestSkip 1 = .ok (.getfield 51, 3) := by decide +kernel
theorem dX8_bestSkip_4 : decode cX8_bestSkip 4 = .ok (.invokevirtual 241, 3) := by decide +kernel
theorem dX8_bestSkip_7 : decode cX8_bestSkip 7 = .ok (.iconst 0, 1) := by decide +kernel
theorem dX8_bestSkip_8 : decode cX8_bestSkip 8 = .ok (.istore_n 1, 1) := by decide +kernel
theorem dX8_bestSkip_9 : decode cX8_bestSkip 9 = .ok (.iload_n 1, 1) := by decide +kernel
theorem dX8_bestSkip_10 : decode cX8_bestSkip 10 = .ok (.aload_n 0, 1) := by decide +kernel
theorem dX8_bestSkip_11 : decode cX8_bestSkip 11 = .ok (.getfield 19, 3) := by decide +kernel
theorem dX8_bestSkip_14 : decode cX8_bestSkip 14 = .ok (.getfield 112, 3) := by decide +kernel
theorem dX8_bestSkip_17 : decode cX8_bestSkip 17 = .ok (.if_icmp .ge 33, 3) := by decide +kernel
theorem dX8_bestSkip_20 : decode cX8_bestSkip 20 = .ok (.aload_n 0, 1) := by decide +kernel
theorem dX8_bestSkip_21 : decode cX8_bestSkip 21 = .ok (.getfield 19, 3) := by decide +kernel
theorem dX8_bestSkip_24 : decode cX8_bestSkip 24 = .ok (.iload_n 1, 1) := by decide +kernel
theorem dX8_bestSkip_25 : decode cX8_bestSkip 25 = .ok (.invokevirtual 171, 3) := by decide +kernel
theorem dX8_bestSkip_28 : decode cX8_bestSkip 28 = .ok (.ifCond .eq 16, 3) := by decide +kernel
theorem dX8_bestSkip_31 : decode cX8_bestSkip 31 = .ok (.aload_n 0, 1) := by decide +kernel
theorem dX8_bestSkip_32 : decode cX8_bestSkip 32 = .ok (.getfield 51, 3) := by decide +kernel
theorem dX8_bestSkip_35 : decode cX8_bestSkip 35 = .ok (.iload_n 1, 1) := by decide +kernel
theorem dX8_bestSkip_36 : decode cX8_bestSkip 36 = .ok (.aload_n 0, 1) := by decide +kernel
theorem dX8_bestSkip_37 : decode cX8_bestSkip 37 = .ok (.iload_n 1, 1) := by decide +kernel
theorem dX8_bestSkip_38 : decode cX8_bestSkip 38 = .ok (.invokevirtual 244, 3) := by decide +kernel
theorem dX8_bestSkip_41 : decode cX8_bestSkip 41 = .ok (.invokevirtual 247, 3) := by decide +kernel
theorem dX8_bestSkip_44 : decode cX8_bestSkip 44 = .ok (.iinc 1 1, 3) := by decide +kernel
theorem dX8_bestSkip_47 : decode cX8_bestSkip 47 = .ok (.goto (-38), 3) := by decide +kernel
theorem dX8_bestSkip_50 : decode cX8_bestSkip 50 = .ok (.aload_n 0, 1) := by decide +kernel
theorem dX8_bestSkip_51 : decode cX8_bestSkip 51 = .ok (.getfield 51, 3) := by decide +kernel
theorem dX8_bestSkip_54 : decode cX8_bestSkip 54 = .ok (.invokevirtual 250, 3) := by decide +kernel
theorem dX8_bestSkip_57 : decode cX8_bestSkip 57 = .ok (.ireturn, 1) := by decide +kernel
theorem dX8_bestMore_0 : decode cX8_bestMore 0 = .ok (.aload_n 0, 1) := by decide +kernel
theorem dX8_bestMore_1 : decode cX8_bestMore 1 = .ok (.getfield 51, 3) := by decide +kernel
theorem dX8_bestMore_4 : decode cX8_bestMore 4 = .ok (.invokevirtual 241, 3) := by decide +kernel
theorem dX8_bestMore_7 : decode cX8_bestMore 7 = .ok (.iconst 0, 1) := by decide +kernel
theorem dX8_bestMore_8 : decode cX8_bestMore 8 = .ok (.istore_n 1, 1) := by decide +kernel
theorem dX8_bestMore_9 : decode cX8_bestMore 9 = .ok (.iload_n 1, 1) := by decide +kernel
theorem dX8_bestMore_10 : decode cX8_bestMore 10 = .ok (.aload_n 0, 1) := by decide +kernel
theorem dX8_bestMore_11 : decode cX8_bestMore 11 = .ok (.getfield 19, 3) := by decide +kernel
theorem dX8_bestMore_14 : decode cX8_bestMore 14 = .ok (.getfield 116, 3) := by decide +kernel
theorem dX8_bestMore_17 : decode cX8_bestMore 17 = .ok (.if_icmp .ge 36, 3) := by decide +kernel
theorem dX8_bestMore_20 : decode cX8_bestMore 20 = .ok (.aload_n 0, 1) := by decide +kernel
theorem dX8_bestMore_21 : decode cX8_bestMore 21 = .ok (.getfield 19, 3) := by decide +kernel
theorem dX8_bestMore_24 : decode cX8_bestMore 24 = .ok (.getfield 180, 3) := by decide +kernel
theorem dX8_bestMore_27 : decode cX8_bestMore 27 = .ok (.iload_n 1, 1) := by decide +kernel
theorem dX8_bestMore_28 : decode cX8_bestMore 28 = .ok (.iaload, 1) := by decide +kernel
theorem dX8_bestMore_29 : decode cX8_bestMore 29 = .ok (.bipush 40, 2) := by decide +kernel
theorem dX8_bestMore_31 : decode cX8_bestMore 31 = .ok (.if_icmp .ge 16, 3) := by decide +kernel
theorem dX8_bestMore_34 : decode cX8_bestMore 34 = .ok (.aload_n 0, 1) := by decide +kernel
theorem dX8_bestMore_35 : decode cX8_bestMore 35 = .ok (.getfield 51, 3) := by decide +kernel
theorem dX8_bestMore_38 : decode cX8_bestMore 38 = .ok (.iload_n 1, 1) := by decide +kernel
theorem dX8_bestMore_39 : decode cX8_bestMore 39 = .ok (.aload_n 0, 1) := by decide +kernel
theorem dX8_bestMore_40 : decode cX8_bestMore 40 = .ok (.iload_n 1, 1) := by decide +kernel
theorem dX8_bestMore_41 : decode cX8_bestMore 41 = .ok (.invokevirtual 253, 3) := by decide +kernel
theorem dX8_bestMore_44 : decode cX8_bestMore 44 = .ok (.invokevirtual 247, 3) := by decide +kernel
theorem dX8_bestMore_47 : decode cX8_bestMore 47 = .ok (.iinc 1 1, 3) := by decide +kernel
theorem dX8_bestMore_50 : decode cX8_bestMore 50 = .ok (.goto (-41), 3) := by decide +kernel
theorem dX8_bestMore_53 : decode cX8_bestMore 53 = .ok (.aload_n 0, 1) := by decide +kernel
theorem dX8_bestMore_54 : decode cX8_bestMore 54 = .ok (.getfield 51, 3) := by decide +kernel
theorem dX8_bestMore_57 : decode cX8_bestMore 57 = .ok (.invokevirtual 250, 3) := by decide +kernel
theorem dX8_bestMore_60 : decode cX8_bestMore 60 = .ok (.ireturn, 1) := by decide +kernel
theorem dX8_firstSwap_0 : decode cX8_firstSwap 0 = .ok (.aload_n 0, 1) := by decide +kernel
theorem dX8_firstSwap_1 : decode cX8_firstSwap 1 = .ok (.getfield 58, 3) := by decide +kernel
theorem dX8_firstSwap_4 : decode cX8_firstSwap 4 = .ok (.aload_n 0, 1) := by decide +kernel
theorem dX8_firstSwap_5 : decode cX8_firstSwap 5 = .ok (.getfield 19, 3) := by decide +kernel
theorem dX8_firstSwap_8 : decode cX8_firstSwap 8 = .ok (.invokevirtual 256, 3) := by decide +kernel
theorem dX8_firstSwap_11 : decode cX8_firstSwap 11 = .ok (.ifCond .eq 13, 3) := by decide +kernel
theorem dX8_firstSwap_14 : decode cX8_firstSwap 14 = .ok (.aload_n 0, 1) := by decide +kernel
theorem dX8_firstSwap_15 : decode cX8_firstSwap 15 = .ok (.getfield 58, 3) := by decide +kernel
theorem dX8_firstSwap_18 : decode cX8_firstSwap 18 = .ok (.invokevirtual 260, 3) := by decide +kernel
theorem dX8_firstSwap_21 : decode cX8_firstSwap 21 = .ok (.goto 5, 3) := by decide +kernel
theorem dX8_firstSwap_24 : decode cX8_firstSwap 24 = .ok (.bipush (-9), 2) := by decide +kernel
theorem dX8_firstSwap_26 : decode cX8_firstSwap 26 = .ok (.ireturn, 1) := by decide +kernel
theorem dX8_save_0 : decode cX8_save 0 = .ok (.iload_n 1, 1) := by decide +kernel
theorem dX8_save_1 : decode cX8_save 1 = .ok (.invokestatic 275, 3) := by decide +kernel
theorem dX8_save_4 : decode cX8_save 4 = .ok (.aload_n 0, 1) := by decide +kernel
theorem dX8_save_5 : decode cX8_save 5 = .ok (.getfield 33, 3) := by decide +kernel
theorem dX8_save_8 : decode cX8_save 8 = .ok (.iload_n 1, 1) := by decide +kernel
theorem dX8_save_9 : decode cX8_save 9 = .ok (.aaload, 1) := by decide +kernel
theorem dX8_save_10 : decode cX8_save 10 = .ok (.aload_n 0, 1) := by decide +kernel
theorem dX8_save_11 : decode cX8_save 11 = .ok (.getfield 19, 3) := by decide +kernel
theorem dX8_save_14 : decode cX8_save 14 = .ok (.invokevirtual 105, 3) := by decide +kernel
theorem dX8_save_17 : decode cX8_save 17 = .ok (.aload_n 0, 1) := by decide +kernel
theorem dX8_save_18 : decode cX8_save 18 = .ok (.getfield 37, 3) := by decide +kernel
theorem dX8_save_21 : decode cX8_save 21 = .ok (.iload_n 1, 1) := by decide +kernel
theorem dX8_save_22 : decode cX8_save 22 = .ok (.iconst 1, 1) := by decide +kernel
theorem dX8_save_23 : decode cX8_save 23 = .ok (.bastore, 1) := by decide +kernel
theorem dX8_save_24 : decode cX8_save 24 = .ok (.aload_n 0, 1) := by decide +kernel
theorem dX8_save_25 : decode cX8_save 25 = .ok (.getfield 19, 3) := by decide +kernel
theorem dX8_save_28 : decode cX8_save 28 = .ok (.getfield 119, 3) := by decide +kernel
theorem dX8_save_31 : decode cX8_save 31 = .ok (.ireturn, 1) := by decide +kernel
theorem dX8_restore_0 : decode cX8_restore 0 = .ok (.iload_n 1, 1) := by decide +kernel
theorem dX8_restore_1 : decode cX8_restore 1 = .ok (.invokestatic 275, 3) := by decide +kernel
theorem dX8_restore_4 : decode cX8_restore 4 = .ok (.aload_n 0, 1) := by decide +kernel
theorem dX8_restore_5 : decode cX8_restore 5 = .ok (.getfield 37, 3) := by decide +kernel
theorem dX8_restore_8 : decode cX8_restore 8 = .ok (.iload_n 1, 1) := by decide +kernel
theorem dX8_restore_9 : decode cX8_restore 9 = .ok (.baload, 1) := by decide +kernel
theorem dX8_restore_10 : decode cX8_restore 10 = .ok (.ifCond .ne 14, 3) := by decide +kernel
theorem dX8_restore_13 : decode cX8_restore 13 = .ok (.new 84, 3) := by decide +kernel
theorem dX8_restore_16 : decode cX8_restore 16 = .ok (.dup, 1) := by decide +kernel
theorem dX8_restore_17 : decode cX8_restore 17 = .ok (.ldc_w 278, 3) := by decide +kernel
theorem dX8_restore_20 : decode cX8_restore 20 = .ok (.invokespecial 88, 3) := by decide +kernel
theorem dX8_restore_23 : decode cX8_restore 23 = .ok (.athrow, 1) := by decide +kernel
theorem dX8_restore_24 : decode cX8_restore 24 = .ok (.aload_n 0, 1) := by decide +kernel
theorem dX8_restore_25 : decode cX8_restore 25 = .ok (.getfield 19, 3) := by decide +kernel
theorem dX8_restore_28 : decode cX8_restore 28 = .ok (.aload_n 0, 1) := by decide +kernel
theorem dX8_restore_29 : decode cX8_restore 29 = .ok (.getfield 33, 3) := by decide +kernel
theorem dX8_restore_32 : decode cX8_restore 32 = .ok (.iload_n 1, 1) := by decide +kernel
theorem dX8_restore_33 : decode cX8_restore 33 = .ok (.aaload, 1) := by decide +kernel
theorem dX8_restore_34 : decode cX8_restore 34 = .ok (.invokevirtual 105, 3) := by decide +kernel
theorem dX8_restore_37 : decode cX8_restore 37 = .ok (.aload_n 0, 1) := by decide +kernel
theorem dX8_restore_38 : decode cX8_restore 38 = .ok (.getfield 29, 3) := by decide +kernel
theorem dX8_restore_41 : decode cX8_restore 41 = .ok (.invokevirtual 109, 3) := by decide +kernel
theorem dX8_restore_44 : decode cX8_restore 44 = .ok (.aload_n 0, 1) := by decide +kernel
theorem dX8_restore_45 : decode cX8_restore 45 = .ok (.getfield 19, 3) := by decide +kernel
theorem dX8_restore_48 : decode cX8_restore 48 = .ok (.getfield 119, 3) := by decide +kernel
theorem dX8_restore_51 : decode cX8_restore 51 = .ok (.ireturn, 1) := by decide +kernel
theorem dX8_needHouse_0 : decode cX8_needHouse 0 = .ok (.aload_n 0, 1) := by decide +kernel
theorem dX8_needHouse_1 : decode cX8_needHouse 1 = .ok (.getfield 19, 3) := by decide +kernel
theorem dX8_needHouse_4 : decode cX8_needHouse 4 = .ok (.iload_n 1, 1) := by decide +kernel
theorem dX8_needHouse_5 : decode cX8_needHouse 5 = .ok (.invokevirtual 280, 3) := by decide +kernel
theorem dX8_needHouse_8 : decode cX8_needHouse 8 = .ok (.ifCond .ne 14, 3) := by decide +kernel
theorem dX8_needHouse_11 : decode cX8_needHouse 11 = .ok (.new 283, 3) := by decide +kernel
theorem dX8_needHouse_14 : decode cX8_needHouse 14 = .ok (.dup, 1) := by decide +kernel
theorem dX8_needHouse_15 : decode cX8_needHouse 15 = .ok (.ldc_w 285, 3) := by decide +kernel
theorem dX8_needHouse_18 : decode cX8_needHouse 18 = .ok (.invokespecial 287, 3) := by decide +kernel
theorem dX8_needHouse_21 : decode cX8_needHouse 21 = .ok (.athrow, 1) := by decide +kernel
theorem dX8_needHouse_22 : decode cX8_needHouse 22 = .ok (.return_, 1) := by decide +kernel
theorem dX8_needVegetable_0 : decode cX8_needVegetable 0 = .ok (.aload_n 0, 1) := by decide +kernel
theorem dX8_needVegetable_1 : decode cX8_needVegetable 1 = .ok (.getfield 19, 3) := by decide +kernel
theorem dX8_needVegetable_4 : decode cX8_needVegetable 4 = .ok (.iload_n 1, 1) := by decide +kernel
theorem dX8_needVegetable_5 : decode cX8_needVegetable 5 = .ok (.invokevirtual 288, 3) := by decide +kernel
theorem dX8_needVegetable_8 : decode cX8_needVegetable 8 = .ok (.ifCond .ne 14, 3) := by decide +kernel
theorem dX8_needVegetable_11 : decode cX8_needVegetable 11 = .ok (.new 283, 3) := by decide +kernel
theorem dX8_needVegetable_14 : decode cX8_needVegetable 14 = .ok (.dup, 1) := by decide +kernel
theorem dX8_needVegetable_15 : decode cX8_needVegetable 15 = .ok (.ldc_w 291, 3) := by decide +kernel
theorem dX8_needVegetable_18 : decode cX8_needVegetable 18 = .ok (.invokespecial 287, 3) := by decide +kernel
theorem dX8_needVegetable_21 : decode cX8_needVegetable 21 = .ok (.athrow, 1) := by decide +kernel
theorem dX8_needVegetable_22 : decode cX8_needVegetable 22 = .ok (.return_, 1) := by decide +kernel
theorem dX8_needSlot_0 : decode cX8_needSlot 0 = .ok (.iload_n 0, 1) := by decide +kernel
theorem dX8_needSlot_1 : decode cX8_needSlot 1 = .ok (.ifCond .lt 8, 3) := by decide +kernel
theorem dX8_needSlot_4 : decode cX8_needSlot 4 = .ok (.iload_n 0, 1) := by decide +kernel
theorem dX8_needSlot_5 : decode cX8_needSlot 5 = .ok (.iconst 2, 1) := by decide +kernel
theorem dX8_needSlot_6 : decode cX8_needSlot 6 = .ok (.if_icmp .lt 14, 3) := by decide +kernel
theorem dX8_needSlot_9 : decode cX8_needSlot 9 = .ok (.new 283, 3) := by decide +kernel
theorem dX8_needSlot_12 : decode cX8_needSlot 12 = .ok (.dup, 1) := by decide +kernel
theorem dX8_needSlot_13 : decode cX8_needSlot 13 = .ok (.ldc_w 293, 3) := by decide +kernel
theorem dX8_needSlot_16 : decode cX8_needSlot 16 = .ok (.invokespecial 287, 3) := by decide +kernel
theorem dX8_needSlot_19 : decode cX8_needSlot 19 = .ok (.athrow, 1) := by decide +kernel
theorem dX8_needSlot_20 : decode cX8_needSlot 20 = .ok (.return_, 1) := by decide +kernel
theorem dX8_needWithin_0 : decode cX8_needWithin 0 = .ok (.iload_n 0, 1) := by decide +kernel
theorem dX8_needWithin_1 : decode cX8_needWithin 1 = .ok (.iload_n 1, 1) := by decide +kernel
theorem dX8_needWithin_2 : decode cX8_needWithin 2 = .ok (.if_icmp .lt 8, 3) := by decide +kernel
theorem dX8_needWithin_5 : decode cX8_needWithin 5 = .ok (.iload_n 0, 1) := by decide +kernel
theorem dX8_needWithin_6 : decode cX8_needWithin 6 = .ok (.iload_n 2, 1) := by decide +kernel
theorem dX8_needWithin_7 : decode cX8_needWithin 7 = .ok (.if_icmp .le 14, 3) := by decide +kernel
theorem dX8_needWithin_10 : decode cX8_needWithin 10 = .ok (.new 143, 3) := by decide +kernel
theorem dX8_needWithin_13 : decode cX8_needWithin 13 = .ok (.dup, 1) := by decide +kernel
theorem dX8_needWithin_14 : decode cX8_needWithin 14 = .ok (.ldc_w 295, 3) := by decide +kernel
theorem dX8_needWithin_17 : decode cX8_needWithin 17 = .ok (.invokespecial 147, 3) := by decide +kernel
theorem dX8_needWithin_20 : decode cX8_needWithin 20 = .ok (.athrow, 1) := by decide +kernel
theorem dX8_needWithin_21 : decode cX8_needWithin 21 = .ok (.return_, 1) := by decide +kernel
theorem dX8_fondestOf_0 : decode cX8_fondestOf 0 = .ok (.aload_n 0, 1) := by decide +kernel
theorem dX8_fondestOf_1 : decode cX8_fondestOf 1 = .ok (.getfield 51, 3) := by decide +kernel
theorem dX8_fondestOf_4 : decode cX8_fondestOf 4 = .ok (.invokevirtual 241, 3) := by decide +kernel
theorem dX8_fondestOf_7 : decode cX8_fondestOf 7 = .ok (.iconst 0, 1) := by decide +kernel
theorem dX8_fondestOf_8 : decode cX8_fondestOf 8 = .ok (.istore_n 2, 1) := by decide +kernel
theorem dX8_fondestOf_9 : decode cX8_fondestOf 9 = .ok (.iload_n 2, 1) := by decide +kernel
theorem dX8_fondestOf_10 : decode cX8_fondestOf 10 = .ok (.aload_n 0, 1) := by decide +kernel
theorem dX8_fondestOf_11 : decode cX8_fondestOf 11 = .ok (.getfield 19, 3) := by decide +kernel
theorem dX8_fondestOf_14 : decode cX8_fondestOf 14 = .ok (.getfield 112, 3) := by decide +kernel
theorem dX8_fondestOf_17 : decode cX8_fondestOf 17 = .ok (.if_icmp .ge 30, 3) := by decide +kernel
theorem dX8_fondestOf_20 : decode cX8_fondestOf 20 = .ok (.aload_n 0, 1) := by decide +kernel
theorem dX8_fondestOf_21 : decode cX8_fondestOf 21 = .ok (.getfield 51, 3) := by decide +kernel
theorem dX8_fondestOf_24 : decode cX8_fondestOf 24 = .ok (.iload_n 2, 1) := by decide +kernel
theorem dX8_fondestOf_25 : decode cX8_fondestOf 25 = .ok (.aload_n 0, 1) := by decide +kernel
theorem dX8_fondestOf_26 : decode cX8_fondestOf 26 = .ok (.getfield 19, 3) := by decide +kernel
theorem dX8_fondestOf_29 : decode cX8_fondestOf 29 = .ok (.getfield 201, 3) := by decide +kernel
theorem dX8_fondestOf_32 : decode cX8_fondestOf 32 = .ok (.iload_n 2, 1) := by decide +kernel
theorem dX8_fondestOf_33 : decode cX8_fondestOf 33 = .ok (.iload_n 1, 1) := by decide +kernel
theorem dX8_fondestOf_34 : decode cX8_fondestOf 34 = .ok (.invokestatic 197, 3) := by decide +kernel
theorem dX8_fondestOf_37 : decode cX8_fondestOf 37 = .ok (.iaload, 1) := by decide +kernel
theorem dX8_fondestOf_38 : decode cX8_fondestOf 38 = .ok (.invokevirtual 247, 3) := by decide +kernel
theorem dX8_fondestOf_41 : decode cX8_fondestOf 41 = .ok (.iinc 2 1, 3) := by decide +kernel
theorem dX8_fondestOf_44 : decode cX8_fondestOf 44 = .ok (.goto (-35), 3) := by decide +kernel
theorem dX8_fondestOf_47 : decode cX8_fondestOf 47 = .ok (.aload_n 0, 1) := by decide +kernel
theorem dX8_fondestOf_48 : decode cX8_fondestOf 48 = .ok (.getfield 51, 3) := by decide +kernel
theorem dX8_fondestOf_51 : decode cX8_fondestOf 51 = .ok (.invokevirtual 250, 3) := by decide +kernel
theorem dX8_fondestOf_54 : decode cX8_fondestOf 54 = .ok (.ireturn, 1) := by decide +kernel
theorem dX8_happinessWithout_0 : decode cX8_happinessWithout 0 = .ok (.aload_n 0, 1) := by decide +kernel
theorem dX8_happinessWithout_1 : decode cX8_happinessWithout 1 = .ok (.getfield 23, 3) := by decide +kernel
theorem dX8_happinessWithout_4 : decode cX8_happinessWithout 4 = .ok (.aload_n 0, 1) := by decide +kernel
theorem dX8_happinessWithout_5 : decode cX8_happinessWithout 5 = .ok (.getfield 19, 3) := by decide +kernel
theorem dX8_happinessWithout_8 : decode cX8_happinessWithout 8 = .ok (.invokevirtual 105, 3) := by decide +kernel
theorem dX8_happinessWithout_11 : decode cX8_happinessWithout 11 = .ok (.aload_n 0, 1) := by decide +kernel
theorem dX8_happinessWithout_12 : decode cX8_happinessWithout 12 = .ok (.getfield 23, 3) := by decide +kernel
theorem dX8_happinessWithout_15 : decode cX8_happinessWithout 15 = .ok (.getfield 162, 3) := by decide +kernel
theorem dX8_happinessWithout_18 : decode cX8_happinessWithout 18 = .ok (.iload_n 1, 1) := by decide +kernel
theorem dX8_happinessWithout_19 : decode cX8_happinessWithout 19 = .ok (.iconst 1, 1) := by decide +kernel
theorem dX8_happinessWithout_20 : decode cX8_happinessWithout 20 = .ok (.iastore, 1) := by decide +kernel
theorem dX8_happinessWithout_21 : decode cX8_happinessWithout 21 = .ok (.aload_n 0, 1) := by decide +kernel
theorem dX8_happinessWithout_22 : decode cX8_happinessWithout 22 = .ok (.getfield 44, 3) := by decide +kernel
theorem dX8_happinessWithout_25 : decode cX8_happinessWithout 25 = .ok (.aload_n 0, 1) := by decide +kernel
theorem dX8_happinessWithout_26 : decode cX8_happinessWithout 26 = .ok (.getfield 23, 3) := by decide +kernel
theorem dX8_happinessWithout_29 : decode cX8_happinessWithout 29 = .ok (.invokevirtual 223, 3) := by decide +kernel
theorem dX8_happinessWithout_32 : decode cX8_happinessWithout 32 = .ok (.aload_n 0, 1) := by decide +kernel
theorem dX8_happinessWithout_33 : decode cX8_happinessWithout 33 = .ok (.getfield 23, 3) := by decide +kernel
theorem dX8_happinessWithout_36 : decode cX8_happinessWithout 36 = .ok (.invokevirtual 297, 3) := by decide +kernel
theorem dX8_happinessWithout_39 : decode cX8_happinessWithout 39 = .ok (.ireturn, 1) := by decide +kernel
theorem dX8_happinessWithMore_0 : decode cX8_happinessWithMore 0 = .ok (.aload_n 0, 1) := by decide +kernel
theorem dX8_happinessWithMore_1 : decode cX8_happinessWithMore 1 = .ok (.getfield 23, 3) := by decide +kernel
theorem dX8_happinessWithMore_4 : decode cX8_happinessWithMore 4 = .ok (.aload_n 0, 1) := by decide +kernel
theorem dX8_happinessWithMore_5 : decode cX8_happinessWithMore 5 = .ok (.getfield 19, 3) := by decide +kernel
theorem dX8_happinessWithMore_8 : decode cX8_happinessWithMore 8 = .ok (.invokevirtual 105, 3) := by decide +kernel
theorem dX8_happinessWithMore_11 : decode cX8_happinessWithMore 11 = .ok (.aload_n 0, 1) := by decide +kernel
theorem dX8_happinessWithMore_12 : decode cX8_happinessWithMore 12 = .ok (.getfield 23, 3) := by decide +kernel
theorem dX8_happinessWithMore_15 : decode cX8_happinessWithMore 15 = .ok (.getfield 180, 3) := by decide +kernel
theorem dX8_happinessWithMore_18 : decode cX8_happinessWithMore 18 = .ok (.iload_n 1, 1) := by decide +kernel
theorem dX8_happinessWithMore_19 : decode cX8_happinessWithMore 19 = .ok (.dup2, 1) := by decide +kernel
theorem dX8_happinessWithMore_20 : decode cX8_happinessWithMore 20 = .ok (.iaload, 1) := by decide +kernel
theorem dX8_happinessWithMore_21 : decode cX8_happinessWithMore 21 = .ok (.iconst 1, 1) := by decide +kernel
theorem dX8_happinessWithMore_22 : decode cX8_happinessWithMore 22 = .ok (.iadd, 1) := by decide +kernel
theorem dX8_happinessWithMore_23 : decode cX8_happinessWithMore 23 = .ok (.iastore, 1) := by decide +kernel
theorem dX8_happinessWithMore_24 : decode cX8_happinessWithMore 24 = .ok (.aload_n 0, 1) := by decide +kernel
theorem dX8_happinessWithMore_25 : decode cX8_happinessWithMore 25 = .ok (.getfield 44, 3) := by decide +kernel
theorem dX8_happinessWithMore_28 : decode cX8_happinessWithMore 28 = .ok (.aload_n 0, 1) := by decide +kernel
theorem dX8_happinessWithMore_29 : decode cX8_happinessWithMore 29 = .ok (.getfield 23, 3) := by decide +kernel
theorem dX8_happinessWithMore_32 : decode cX8_happinessWithMore 32 = .ok (.invokevirtual 223, 3) := by decide +kernel
theorem dX8_happinessWithMore_35 : decode cX8_happinessWithMore 35 = .ok (.aload_n 0, 1) := by decide +kernel
theorem dX8_happinessWithMore_36 : decode cX8_happinessWithMore 36 = .ok (.getfield 23, 3) := by decide +kernel
theorem dX8_happinessWithMore_39 : decode cX8_happinessWithMore 39 = .ok (.invokevirtual 297, 3) := by decide +kernel
theorem dX8_happinessWithMore_42 : decode cX8_happinessWithMore 42 = .ok (.ireturn, 1) := by decide +kernel
theorem dX8_cell_0 : decode cX8_cell 0 = .ok (.iload_n 0, 1) := by decide +kernel
theorem dX8_cell_1 : decode cX8_cell 1 = .ok (.iconst 5, 1) := by decide +kernel
theorem dX8_cell_2 : decode cX8_cell 2 = .ok (.imul, 1) := by decide +kernel
theorem dX8_cell_3 : decode cX8_cell 3 = .ok (.iload_n 1, 1) := by decide +kernel
theorem dX8_cell_4 : decode cX8_cell 4 = .ok (.iadd, 1) := by decide +kernel
theorem dX8_cell_5 : decode cX8_cell 5 = .ok (.ireturn, 1) := by decide +kernel
theorem dJ9_max_7cf53_0 : decode cJ9_max_7cf53 0 = .ok (.iload_n 0, 1) := by decide +kernel
theorem dJ9_max_7cf53_1 : decode cJ9_max_7cf53 1 = .ok (.iload_n 1, 1) := by decide +kernel
theorem dJ9_max_7cf53_2 : decode cJ9_max_7cf53 2 = .ok (.if_icmp .lt 7, 3) := by decide +kernel
theorem dJ9_max_7cf53_5 : decode cJ9_max_7cf53 5 = .ok (.iload_n 0, 1) := by decide +kernel
theorem dJ9_max_7cf53_6 : decode cJ9_max_7cf53 6 = .ok (.goto 4, 3) := by decide +kernel
theorem dJ9_max_7cf53_9 : decode cJ9_max_7cf53 9 = .ok (.iload_n 1, 1) := by decide +kernel
theorem dJ9_max_7cf53_10 : decode cJ9_max_7cf53 10 = .ok (.ireturn, 1) := by decide +kernel
theorem dJ9_min_7cf53_0 : decode cJ9_min_7cf53 0 = .ok (.iload_n 0, 1) := by decide +kernel
theorem dJ9_min_7cf53_1 : decode cJ9_min_7cf53 1 = .ok (.iload_n 1, 1) := by decide +kernel
theorem dJ9_min_7cf53_2 : decode cJ9_min_7cf53 2 = .ok (.if_icmp .gt 7, 3) := by decide +kernel
theorem dJ9_min_7cf53_5 : decode cJ9_min_7cf53 5 = .ok (.iload_n 0, 1) := by decide +kernel
theorem dJ9_min_7cf53_6 : decode cJ9_min_7cf53 6 = .ok (.goto 4, 3) := by decide +kernel
theorem dJ9_min_7cf53_9 : decode cJ9_min_7cf53 9 = .ok (.iload_n 1, 1) := by decide +kernel
theorem dJ9_min_7cf53_10 : decode cJ9_min_7cf53 10 = .ok (.ireturn, 1) := by decide +kernel
theorem dJ7_fill_53178_0 : decode cJ7_fill_53178 0 = .ok (.iconst 0, 1) := by decide +kernel
theorem dJ7_fill_53178_1 : decode cJ7_fill_53178 1 = .ok (.istore_n 2, 1) := by decide +kernel
theorem dJ7_fill_53178_2 : decode cJ7_fill_53178 2 = .ok (.aload_n 0, 1) := by decide +kernel
theorem dJ7_fill_53178_3 : decode cJ7_fill_53178 3 = .ok (.arraylength, 1) := by decide +kernel
theorem dJ7_fill_53178_4 : decode cJ7_fill_53178 4 = .ok (.istore_n 3, 1) := by decide +kernel
theorem dJ7_fill_53178_5 : decode cJ7_fill_53178 5 = .ok (.iload_n 2, 1) := by decide +kernel
theorem dJ7_fill_53178_6 : decode cJ7_fill_53178 6 = .ok (.iload_n 3, 1) := by decide +kernel
theorem dJ7_fill_53178_7 : decode cJ7_fill_53178 7 = .ok (.if_icmp .ge 13, 3) := by decide +kernel
theorem dJ7_fill_53178_10 : decode cJ7_fill_53178 10 = .ok (.aload_n 0, 1) := by decide +kernel
theorem dJ7_fill_53178_11 : decode cJ7_fill_53178 11 = .ok (.iload_n 2, 1) := by decide +kernel
theorem dJ7_fill_53178_12 : decode cJ7_fill_53178 12 = .ok (.iload_n 1, 1) := by decide +kernel
theorem dJ7_fill_53178_13 : decode cJ7_fill_53178 13 = .ok (.iastore, 1) := by decide +kernel
theorem dJ7_fill_53178_14 : decode cJ7_fill_53178 14 = .ok (.iinc 2 1, 3) := by decide +kernel
theorem dJ7_fill_53178_17 : decode cJ7_fill_53178 17 = .ok (.goto (-12), 3) := by decide +kernel
theorem dJ7_fill_53178_20 : decode cJ7_fill_53178 20 = .ok (.return_, 1) := by decide +kernel
