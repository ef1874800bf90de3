theorem d_RK_begin_0 : decode b_RK_begin 0 = .ok (.aload_n 0, 1) := by decide +kernel
theorem d_RK_begin_1 : decode b_RK_begin 1 = .ok (.iconst 0, 1) := by decide +kernel
theorem d_RK_begin_2 : decode b_RK_begin 2 = .ok (.putfield 24, 3) := by decide +kernel
theorem d_RK_begin_5 : decode b_RK_begin 5 = .ok (.aload_n 0, 1) := by decide +kernel
theorem d_RK_begin_6 : decode b_RK_begin 6 = .ok (.iload_n 1, 1) := by decide +kernel
theorem d_RK_begin_7 : decode b_RK_begin 7 = .ok (.bipush 20, 2) := by decide +kernel
theorem d_RK_begin_9 : decode b_RK_begin 9 = .ok (.invokestatic 28, 3) := by decide +kernel
theorem d_RK_begin_12 : decode b_RK_begin 12 = .ok (.putfield 34, 3) := by decide +kernel
theorem d_RK_begin_15 : decode b_RK_begin 15 = .ok (.return_, 1) := by decide +kernel
theorem d_RK_isFull_0 : decode b_RK_isFull 0 = .ok (.aload_n 0, 1) := by decide +kernel
theorem d_RK_isFull_1 : decode b_RK_isFull 1 = .ok (.getfield 24, 3) := by decide +kernel
theorem d_RK_isFull_4 : decode b_RK_isFull 4 = .ok (.aload_n 0, 1) := by decide +kernel
theorem d_RK_isFull_5 : decode b_RK_isFull 5 = .ok (.getfield 34, 3) := by decide +kernel
theorem d_RK_isFull_8 : decode b_RK_isFull 8 = .ok (.if_icmp .lt 7, 3) := by decide +kernel
theorem d_RK_isFull_11 : decode b_RK_isFull 11 = .ok (.iconst 1, 1) := by decide +kernel
theorem d_RK_isFull_12 : decode b_RK_isFull 12 = .ok (.goto 4, 3) := by decide +kernel
theorem d_RK_isFull_15 : decode b_RK_isFull 15 = .ok (.iconst 0, 1) := by decide +kernel
theorem d_RK_isFull_16 : decode b_RK_isFull 16 = .ok (.ireturn, 1) := by decide +kernel
theorem d_RK_leastNumber_0 : decode b_RK_leastNumber 0 = .ok (.aload_n 0, 1) := by decide +kernel
theorem d_RK_leastNumber_1 : decode b_RK_leastNumber 1 = .ok (.getfield 24, 3) := by decide +kernel
theorem d_RK_leastNumber_4 : decode b_RK_leastNumber 4 = .ok (.ifCond .le 17, 3) := by decide +kernel
theorem d_RK_leastNumber_7 : decode b_RK_leastNumber 7 = .ok (.aload_n 0, 1) := by decide +kernel
theorem d_RK_leastNumber_8 : decode b_RK_leastNumber 8 = .ok (.getfield 15, 3) := by decide +kernel
theorem d_RK_leastNumber_11 : decode b_RK_leastNumber 11 = .ok (.aload_n 0, 1) := by decide +kernel
theorem d_RK_leastNumber_12 : decode b_RK_leastNumber 12 = .ok (.getfield 24, 3) := by decide +kernel
theorem d_RK_leastNumber_15 : decode b_RK_leastNumber 15 = .ok (.iconst 1, 1) := by decide +kernel
theorem d_RK_leastNumber_16 : decode b_RK_leastNumber 16 = .ok (.isub, 1) := by decide +kernel
theorem d_RK_leastNumber_17 : decode b_RK_leastNumber 17 = .ok (.iaload, 1) := by decide +kernel
theorem d_RK_leastNumber_18 : decode b_RK_leastNumber 18 = .ok (.goto 4, 3) := by decide +kernel
theorem d_RK_leastNumber_21 : decode b_RK_leastNumber 21 = .ok (.iconst 0, 1) := by decide +kernel
theorem d_RK_leastNumber_22 : decode b_RK_leastNumber 22 = .ok (.ireturn, 1) := by decide +kernel
theorem d_RK_offer_0 : decode b_RK_offer 0 = .ok (.aload_n 0, 1) := by decide +kernel
theorem d_RK_offer_1 : decode b_RK_offer 1 = .ok (.getfield 24, 3) := by decide +kernel
theorem d_RK_offer_4 : decode b_RK_offer 4 = .ok (.istore 5, 2) := by decide +kernel
theorem d_RK_offer_6 : decode b_RK_offer 6 = .ok (.aload_n 0, 1) := by decide +kernel
theorem d_RK_offer_7 : decode b_RK_offer 7 = .ok (.invokevirtual 37, 3) := by decide +kernel
theorem d_RK_offer_10 : decode b_RK_offer 10 = .ok (.ifCond .eq 28, 3) := by decide +kernel
theorem d_RK_offer_13 : decode b_RK_offer 13 = .ok (.aload_n 0, 1) := by decide +kernel
theorem d_RK_offer_14 : decode b_RK_offer 14 = .ok (.getfield 24, 3) := by decide +kernel
theorem d_RK_offer_17 : decode b_RK_offer 17 = .ok (.iconst 1, 1) := by decide +kernel
theorem d_RK_offer_18 : decode b_RK_offer 18 = .ok (.isub, 1) := by decide +kernel
theorem d_RK_offer_19 : decode b_RK_offer 19 = .ok (.istore 5, 2) := by decide +kernel
theorem d_RK_offer_21 : decode b_RK_offer 21 = .ok (.iload 5, 2) := by decide +kernel
theorem d_RK_offer_23 : decode b_RK_offer 23 = .ok (.ifCond .lt 14, 3) := by decide +kernel
theorem d_RK_offer_26 : decode b_RK_offer 26 = .ok (.aload_n 0, 1) := by decide +kernel
theorem d_RK_offer_27 : decode b_RK_offer 27 = .ok (.iload_n 2, 1) := by decide +kernel
theorem d_RK_offer_28 : decode b_RK_offer 28 = .ok (.iload_n 1, 1) := by decide +kernel
theorem d_RK_offer_29 : decode b_RK_offer 29 = .ok (.iload 5, 2) := by decide +kernel
theorem d_RK_offer_31 : decode b_RK_offer 31 = .ok (.invokevirtual 41, 3) := by decide +kernel
theorem d_RK_offer_34 : decode b_RK_offer 34 = .ok (.ifCond .ne 14, 3) := by decide +kernel
theorem d_RK_offer_37 : decode b_RK_offer 37 = .ok (.return_, 1) := by decide +kernel
theorem d_RK_offer_38 : decode b_RK_offer 38 = .ok (.aload_n 0, 1) := by decide +kernel
theorem d_RK_offer_39 : decode b_RK_offer 39 = .ok (.dup, 1) := by decide +kernel
theorem d_RK_offer_40 : decode b_RK_offer 40 = .ok (.getfield 24, 3) := by decide +kernel
theorem d_RK_offer_43 : decode b_RK_offer 43 = .ok (.iconst 1, 1) := by decide +kernel
theorem d_RK_offer_44 : decode b_RK_offer 44 = .ok (.iadd, 1) := by decide +kernel
theorem d_RK_offer_45 : decode b_RK_offer 45 = .ok (.putfield 24, 3) := by decide +kernel
theorem d_RK_offer_48 : decode b_RK_offer 48 = .ok (.aload_n 0, 1) := by decide +kernel
theorem d_RK_offer_49 : decode b_RK_offer 49 = .ok (.getfield 9, 3) := by decide +kernel
theorem d_RK_offer_52 : decode b_RK_offer 52 = .ok (.iload 5, 2) := by decide +kernel
theorem d_RK_offer_54 : decode b_RK_offer 54 = .ok (.iload_n 1, 1) := by decide +kernel
theorem d_RK_offer_55 : decode b_RK_offer 55 = .ok (.iastore, 1) := by decide +kernel
theorem d_RK_offer_56 : decode b_RK_offer 56 = .ok (.aload_n 0, 1) := by decide +kernel
theorem d_RK_offer_57 : decode b_RK_offer 57 = .ok (.getfield 15, 3) := by decide +kernel
theorem d_RK_offer_60 : decode b_RK_offer 60 = .ok (.iload 5, 2) := by decide +kernel
theorem d_RK_offer_62 : decode b_RK_offer 62 = .ok (.iload_n 2, 1) := by decide +kernel
theorem d_RK_offer_63 : decode b_RK_offer 63 = .ok (.iastore, 1) := by decide +kernel
theorem d_RK_offer_64 : decode b_RK_offer 64 = .ok (.aload_n 0, 1) := by decide +kernel
theorem d_RK_offer_65 : decode b_RK_offer 65 = .ok (.getfield 18, 3) := by decide +kernel
theorem d_RK_offer_68 : decode b_RK_offer 68 = .ok (.iload 5, 2) := by decide +kernel
theorem d_RK_offer_70 : decode b_RK_offer 70 = .ok (.iload_n 3, 1) := by decide +kernel
theorem d_RK_offer_71 : decode b_RK_offer 71 = .ok (.iastore, 1) := by decide +kernel
theorem d_RK_offer_72 : decode b_RK_offer 72 = .ok (.aload_n 0, 1) := by decide +kernel
theorem d_RK_offer_73 : decode b_RK_offer 73 = .ok (.getfield 21, 3) := by decide +kernel
theorem d_RK_offer_76 : decode b_RK_offer 76 = .ok (.iload 5, 2) := by decide +kernel
theorem d_RK_offer_78 : decode b_RK_offer 78 = .ok (.iload 4, 2) := by decide +kernel
theorem d_RK_offer_80 : decode b_RK_offer 80 = .ok (.iastore, 1) := by decide +kernel
theorem d_RK_offer_81 : decode b_RK_offer 81 = .ok (.aload_n 0, 1) := by decide +kernel
theorem d_RK_offer_82 : decode b_RK_offer 82 = .ok (.iload 5, 2) := by decide +kernel
theorem d_RK_offer_84 : decode b_RK_offer 84 = .ok (.invokevirtual 45, 3) := by decide +kernel
theorem d_RK_offer_87 : decode b_RK_offer 87 = .ok (.return_, 1) := by decide +kernel
theorem d_RK_rescore_0 : decode b_RK_rescore 0 = .ok (.iload_n 1, 1) := by decide +kernel
theorem d_RK_rescore_1 : decode b_RK_rescore 1 = .ok (.aload_n 0, 1) := by decide +kernel
theorem d_RK_rescore_2 : decode b_RK_rescore 2 = .ok (.getfield 24, 3) := by decide +kernel
theorem d_RK_rescore_5 : decode b_RK_rescore 5 = .ok (.invokestatic 28, 3) := by decide +kernel
theorem d_RK_rescore_8 : decode b_RK_rescore 8 = .ok (.istore 4, 2) := by decide +kernel
theorem d_RK_rescore_10 : decode b_RK_rescore 10 = .ok (.iconst 0, 1) := by decide +kernel
theorem d_RK_rescore_11 : decode b_RK_rescore 11 = .ok (.istore 5, 2) := by decide +kernel
theorem d_RK_rescore_13 : decode b_RK_rescore 13 = .ok (.iload 5, 2) := by decide +kernel
theorem d_RK_rescore_15 : decode b_RK_rescore 15 = .ok (.iload 4, 2) := by decide +kernel
theorem d_RK_rescore_17 : decode b_RK_rescore 17 = .ok (.if_icmp .ge 42, 3) := by decide +kernel
theorem d_RK_rescore_20 : decode b_RK_rescore 20 = .ok (.aload_n 0, 1) := by decide +kernel
theorem d_RK_rescore_21 : decode b_RK_rescore 21 = .ok (.getfield 15, 3) := by decide +kernel
theorem d_RK_rescore_24 : decode b_RK_rescore 24 = .ok (.iload 5, 2) := by decide +kernel
theorem d_RK_rescore_26 : decode b_RK_rescore 26 = .ok (.dup2, 1) := by decide +kernel
theorem d_RK_rescore_27 : decode b_RK_rescore 27 = .ok (.iaload, 1) := by decide +kernel
theorem d_RK_rescore_28 : decode b_RK_rescore 28 = .ok (.iload_n 2, 1) := by decide +kernel
theorem d_RK_rescore_29 : decode b_RK_rescore 29 = .ok (.iload_n 3, 1) := by decide +kernel
theorem d_RK_rescore_30 : decode b_RK_rescore 30 = .ok (.ifCond .eq 13, 3) := by decide +kernel
theorem d_RK_rescore_33 : decode b_RK_rescore 33 = .ok (.aload_n 0, 1) := by decide +kernel
theorem d_RK_rescore_34 : decode b_RK_rescore 34 = .ok (.getfield 18, 3) := by decide +kernel
theorem d_RK_rescore_37 : decode b_RK_rescore 37 = .ok (.iload 5, 2) := by decide +kernel
theorem d_RK_rescore_39 : decode b_RK_rescore 39 = .ok (.iaload, 1) := by decide +kernel
theorem d_RK_rescore_40 : decode b_RK_rescore 40 = .ok (.goto 10, 3) := by decide +kernel
theorem d_RK_rescore_43 : decode b_RK_rescore 43 = .ok (.aload_n 0, 1) := by decide +kernel
theorem d_RK_rescore_44 : decode b_RK_rescore 44 = .ok (.getfield 21, 3) := by decide +kernel
theorem d_RK_rescore_47 : decode b_RK_rescore 47 = .ok (.iload 5, 2) := by decide +kernel
theorem d_RK_rescore_49 : decode b_RK_rescore 49 = .ok (.iaload, 1) := by decide +kernel
theorem d_RK_rescore_50 : decode b_RK_rescore 50 = .ok (.imul, 1) := by decide +kernel
theorem d_RK_rescore_51 : decode b_RK_rescore 51 = .ok (.iadd, 1) := by decide +kernel
theorem d_RK_rescore_52 : decode b_RK_rescore 52 = .ok (.iastore, 1) := by decide +kernel
theorem d_RK_rescore_53 : decode b_RK_rescore 53 = .ok (.iinc 5 1, 3) := by decide +kernel
theorem d_RK_rescore_56 : decode b_RK_rescore 56 = .ok (.goto (-43), 3) := by decide +kernel
theorem d_RK_rescore_59 : decode b_RK_rescore 59 = .ok (.iconst 1, 1) := by decide +kernel
theorem d_RK_rescore_60 : decode b_RK_rescore 60 = .ok (.istore 5, 2) := by decide +kernel
theorem d_RK_rescore_62 : decode b_RK_rescore 62 = .ok (.iload 5, 2) := by decide +kernel
theorem d_RK_rescore_64 : decode b_RK_rescore 64 = .ok (.iload 4, 2) := by decide +kernel
theorem d_RK_rescore_66 : decode b_RK_rescore 66 = .ok (.if_icmp .ge 15, 3) := by decide +kernel
theorem d_RK_rescore_69 : decode b_RK_rescore 69 = .ok (.aload_n 0, 1) := by decide +kernel
theorem d_RK_rescore_70 : decode b_RK_rescore 70 = .ok (.iload 5, 2) := by decide +kernel
theorem d_RK_rescore_72 : decode b_RK_rescore 72 = .ok (.invokevirtual 45, 3) := by decide +kernel
theorem d_RK_rescore_75 : decode b_RK_rescore 75 = .ok (.iinc 5 1, 3) := by decide +kernel
theorem d_RK_rescore_78 : decode b_RK_rescore 78 = .ok (.goto (-16), 3) := by decide +kernel
theorem d_RK_rescore_81 : decode b_RK_rescore 81 = .ok (.iload 4, 2) := by decide +kernel
theorem d_RK_rescore_83 : decode b_RK_rescore 83 = .ok (.ireturn, 1) := by decide +kernel
theorem d_RK_rise_0 : decode b_RK_rise 0 = .ok (.iload_n 1, 1) := by decide +kernel
theorem d_RK_rise_1 : decode b_RK_rise 1 = .ok (.istore_n 2, 1) := by decide +kernel
theorem d_RK_rise_2 : decode b_RK_rise 2 = .ok (.iload_n 2, 1) := by decide +kernel
theorem d_RK_rise_3 : decode b_RK_rise 3 = .ok (.ifCond .le 63, 3) := by decide +kernel
theorem d_RK_rise_6 : decode b_RK_rise 6 = .ok (.aload_n 0, 1) := by decide +kernel
theorem d_RK_rise_7 : decode b_RK_rise 7 = .ok (.aload_n 0, 1) := by decide +kernel
theorem d_RK_rise_8 : decode b_RK_rise 8 = .ok (.getfield 15, 3) := by decide +kernel
theorem d_RK_rise_11 : decode b_RK_rise 11 = .ok (.iload_n 2, 1) := by decide +kernel
theorem d_RK_rise_12 : decode b_RK_rise 12 = .ok (.iaload, 1) := by decide +kernel
theorem d_RK_rise_13 : decode b_RK_rise 13 = .ok (.aload_n 0, 1) := by decide +kernel
theorem d_RK_rise_14 : decode b_RK_rise 14 = .ok (.getfield 9, 3) := by decide +kernel
theorem d_RK_rise_17 : decode b_RK_rise 17 = .ok (.iload_n 2, 1) := by decide +kernel
theorem d_RK_rise_18 : decode b_RK_rise 18 = .ok (.iaload, 1) := by decide +kernel
theorem d_RK_rise_19 : decode b_RK_rise 19 = .ok (.iload_n 2, 1) := by decide +kernel
theorem d_RK_rise_20 : decode b_RK_rise 20 = .ok (.iconst 1, 1) := by decide +kernel
theorem d_RK_rise_21 : decode b_RK_rise 21 = .ok (.isub, 1) := by decide +kernel
theorem d_RK_rise_22 : decode b_RK_rise 22 = .ok (.invokevirtual 41, 3) := by decide +kernel
theorem d_RK_rise_25 : decode b_RK_rise 25 = .ok (.ifCond .eq 41, 3) := by decide +kernel
theorem d_RK_rise_28 : decode b_RK_rise 28 = .ok (.aload_n 0, 1) := by decide +kernel
theorem d_RK_rise_29 : decode b_RK_rise 29 = .ok (.getfield 9, 3) := by decide +kernel
theorem d_RK_rise_32 : decode b_RK_rise 32 = .ok (.iload_n 2, 1) := by decide +kernel
theorem d_RK_rise_33 : decode b_RK_rise 33 = .ok (.invokestatic 49, 3) := by decide +kernel
theorem d_RK_rise_36 : decode b_RK_rise 36 = .ok (.aload_n 0, 1) := by decide +kernel
theorem d_RK_rise_37 : decode b_RK_rise 37 = .ok (.getfield 15, 3) := by decide +kernel
theorem d_RK_rise_40 : decode b_RK_rise 40 = .ok (.iload_n 2, 1) := by decide +kernel
theorem d_RK_rise_41 : decode b_RK_rise 41 = .ok (.invokestatic 49, 3) := by decide +kernel
theorem d_RK_rise_44 : decode b_RK_rise 44 = .ok (.aload_n 0, 1) := by decide +kernel
theorem d_RK_rise_45 : decode b_RK_rise 45 = .ok (.getfield 18, 3) := by decide +kernel
theorem d_RK_rise_48 : decode b_RK_rise 48 = .ok (.iload_n 2, 1) := by decide +kernel
theorem d_RK_rise_49 : decode b_RK_rise 49 = .ok (.invokestatic 49, 3) := by decide +kernel
theorem d_RK_rise_52 : decode b_RK_rise 52 = .ok (.aload_n 0, 1) := by decide +kernel
theorem d_RK_rise_53 : decode b_RK_rise 53 = .ok (.getfield 21, 3) := by decide +kernel
theorem d_RK_rise_56 : decode b_RK_rise 56 = .ok (.iload_n 2, 1) := by decide +kernel
theorem d_RK_rise_57 : decode b_RK_rise 57 = .ok (.invokestatic 49, 3) := by decide +kernel
theorem d_RK_rise_60 : decode b_RK_rise 60 = .ok (.iinc 2 (-1), 3) := by decide +kernel
theorem d_RK_rise_63 : decode b_RK_rise 63 = .ok (.goto (-61), 3) := by decide +kernel
theorem d_RK_rise_66 : decode b_RK_rise 66 = .ok (.return_, 1) := by decide +kernel
theorem d_RK_isAhead_0 : decode b_RK_isAhead 0 = .ok (.iload_n 1, 1) := by decide +kernel
theorem d_RK_isAhead_1 : decode b_RK_isAhead 1 = .ok (.aload_n 0, 1) := by decide +kernel
theorem d_RK_isAhead_2 : decode b_RK_isAhead 2 = .ok (.getfield 15, 3) := by decide +kernel
theorem d_RK_isAhead_5 : decode b_RK_isAhead 5 = .ok (.iload_n 3, 1) := by decide +kernel
theorem d_RK_isAhead_6 : decode b_RK_isAhead 6 = .ok (.iaload, 1) := by decide +kernel
theorem d_RK_isAhead_7 : decode b_RK_isAhead 7 = .ok (.if_icmp .gt 23, 3) := by decide +kernel
theorem d_RK_isAhead_10 : decode b_RK_isAhead 10 = .ok (.iload_n 1, 1) := by decide +kernel
theorem d_RK_isAhead_11 : decode b_RK_isAhead 11 = .ok (.aload_n 0, 1) := by decide +kernel
theorem d_RK_isAhead_12 : decode b_RK_isAhead 12 = .ok (.getfield 15, 3) := by decide +kernel
theorem d_RK_isAhead_15 : decode b_RK_isAhead 15 = .ok (.iload_n 3, 1) := by decide +kernel
theorem d_RK_isAhead_16 : decode b_RK_isAhead 16 = .ok (.iaload, 1) := by decide +kernel
theorem d_RK_isAhead_17 : decode b_RK_isAhead 17 = .ok (.if_icmp .ne 17, 3) := by decide +kernel
theorem d_RK_isAhead_20 : decode b_RK_isAhead 20 = .ok (.iload_n 2, 1) := by decide +kernel
theorem d_RK_isAhead_21 : decode b_RK_isAhead 21 = .ok (.aload_n 0, 1) := by decide +kernel
theorem d_RK_isAhead_22 : decode b_RK_isAhead 22 = .ok (.getfield 9, 3) := by decide +kernel
theorem d_RK_isAhead_25 : decode b_RK_isAhead 25 = .ok (.iload_n 3, 1) := by decide +kernel
theorem d_RK_isAhead_26 : decode b_RK_isAhead 26 = .ok (.iaload, 1) := by decide +kernel
theorem d_RK_isAhead_27 : decode b_RK_isAhead 27 = .ok (.if_icmp .ge 7, 3) := by decide +kernel
theorem d_RK_isAhead_30 : decode b_RK_isAhead 30 = .ok (.iconst 1, 1) := by decide +kernel
theorem d_RK_isAhead_31 : decode b_RK_isAhead 31 = .ok (.goto 4, 3) := by decide +kernel
theorem d_RK_isAhead_34 : decode b_RK_isAhead 34 = .ok (.iconst 0, 1) := by decide +kernel
theorem d_RK_isAhead_35 : decode b_RK_isAhead 35 = .ok (.ireturn, 1) := by decide +kernel
theorem d_RK_swap_0 : decode b_RK_swap 0 = .ok (.aload_n 0, 1) := by decide +kernel
theorem d_RK_swap_1 : decode b_RK_swap 1 = .ok (.iload_n 1, 1) := by decide +kernel
theorem d_RK_swap_2 : decode b_RK_swap 2 = .ok (.iaload, 1) := by decide +kernel
theorem d_RK_swap_3 : decode b_RK_swap 3 = .ok (.istore_n 2, 1) := by decide +kernel
theorem d_RK_swap_4 : decode b_RK_swap 4 = .ok (.aload_n 0, 1) := by decide +kernel
theorem d_RK_swap_5 : decode b_RK_swap 5 = .ok (.iload_n 1, 1) := by decide +kernel
theorem d_RK_swap_6 : decode b_RK_swap 6 = .ok (.aload_n 0, 1) := by decide +kernel
theorem d_RK_swap_7 : decode b_RK_swap 7 = .ok (.iload_n 1, 1) := by decide +kernel
theorem d_RK_swap_8 : decode b_RK_swap 8 = .ok (.iconst 1, 1) := by decide +kernel
theorem d_RK_swap_9 : decode b_RK_swap 9 = .ok (.isub, 1) := by decide +kernel
theorem d_RK_swap_10 : decode b_RK_swap 10 = .ok (.iaload, 1) := by decide +kernel
theorem d_RK_swap_11 : decode b_RK_swap 11 = .ok (.iastore, 1) := by decide +kernel
theorem d_RK_swap_12 : decode b_RK_swap 12 = .ok (.aload_n 0, 1) := by decide +kernel
theorem d_RK_swap_13 : decode b_RK_swap 13 = .ok (.iload_n 1, 1) := by decide +kernel
theorem d_RK_swap_14 : decode b_RK_swap 14 = .ok (.iconst 1, 1) := by decide +kernel
theorem d_RK_swap_15 : decode b_RK_swap 15 = .ok (.isub, 1) := by decide +kernel
theorem d_RK_swap_16 : decode b_RK_swap 16 = .ok (.iload_n 2, 1) := by decide +kernel
theorem d_RK_swap_17 : decode b_RK_swap 17 = .ok (.iastore, 1) := by decide +kernel
theorem d_RK_swap_18 : decode b_RK_swap 18 = .ok (.return_, 1) := by decide +kernel
theorem d_SL_init_0 : decode b_SL_init 0 = .ok (.aload_n 0, 1) := by decide +kernel
theorem d_SL_init_1 : decode b_SL_init 1 = .ok (.invokespecial 3, 3) := by decide +kernel
theorem d_SL_init_4 : decode b_SL_init 4 = .ok (.aload_n 0, 1) := by decide +kernel
theorem d_SL_init_5 : decode b_SL_init 5 = .ok (.bipush 120, 2) := by decide +kernel
theorem d_SL_init_7 : decode b_SL_init 7 = .ok (.newarray .int, 2) := by decide +kernel
theorem d_SL_init_9 : decode b_SL_init 9 = .ok (.putfield 9, 3) := by decide +kernel
theorem d_SL_init_12 : decode b_SL_init 12 = .ok (.aload_n 0, 1) := by decide +kernel
theorem d_SL_init_13 : decode b_SL_init 13 = .ok (.sipush 512, 3) := by decide +kernel
theorem d_SL_init_16 : decode b_SL_init 16 = .ok (.newarray .int, 2) := by decide +kernel
theorem d_SL_init_18 : decode b_SL_init 18 = .ok (.putfield 15, 3) := by decide +kernel
theorem d_SL_init_21 : decode b_SL_init 21 = .ok (.return_, 1) := by decide +kernel
theorem d_SL_put_0 : decode b_SL_put 0 = .ok (.aload_n 0, 1) := by decide +kernel
theorem d_SL_put_1 : decode b_SL_put 1 = .ok (.getfield 15, 3) := by decide +kernel
theorem d_SL_put_4 : decode b_SL_put 4 = .ok (.iload_n 1, 1) := by decide +kernel
theorem d_SL_put_5 : decode b_SL_put 5 = .ok (.iaload, 1) := by decide +kernel
theorem d_SL_put_6 : decode b_SL_put 6 = .ok (.ifCond .ne 59, 3) := by decide +kernel
theorem d_SL_put_9 : decode b_SL_put 9 = .ok (.aload_n 0, 1) := by decide +kernel
theorem d_SL_put_10 : decode b_SL_put 10 = .ok (.getfield 18, 3) := by decide +kernel
theorem d_SL_put_13 : decode b_SL_put 13 = .ok (.bipush 120, 2) := by decide +kernel
theorem d_SL_put_15 : decode b_SL_put 15 = .ok (.if_icmp .lt 5, 3) := by decide +kernel
theorem d_SL_put_18 : decode b_SL_put 18 = .ok (.iconst 0, 1) := by decide +kernel
theorem d_SL_put_19 : decode b_SL_put 19 = .ok (.ireturn, 1) := by decide +kernel
theorem d_SL_put_20 : decode b_SL_put 20 = .ok (.aload_n 0, 1) := by decide +kernel
theorem d_SL_put_21 : decode b_SL_put 21 = .ok (.iconst 0, 1) := by decide +kernel
theorem d_SL_put_22 : decode b_SL_put 22 = .ok (.iload_n 1, 1) := by decide +kernel
theorem d_SL_put_23 : decode b_SL_put 23 = .ok (.invokevirtual 22, 3) := by decide +kernel
theorem d_SL_put_26 : decode b_SL_put 26 = .ok (.istore_n 3, 1) := by decide +kernel
theorem d_SL_put_27 : decode b_SL_put 27 = .ok (.aload_n 0, 1) := by decide +kernel
theorem d_SL_put_28 : decode b_SL_put 28 = .ok (.getfield 9, 3) := by decide +kernel
theorem d_SL_put_31 : decode b_SL_put 31 = .ok (.iload_n 3, 1) := by decide +kernel
theorem d_SL_put_32 : decode b_SL_put 32 = .ok (.aload_n 0, 1) := by decide +kernel
theorem d_SL_put_33 : decode b_SL_put 33 = .ok (.getfield 9, 3) := by decide +kernel
theorem d_SL_put_36 : decode b_SL_put 36 = .ok (.iload_n 3, 1) := by decide +kernel
theorem d_SL_put_37 : decode b_SL_put 37 = .ok (.iconst 1, 1) := by decide +kernel
theorem d_SL_put_38 : decode b_SL_put 38 = .ok (.iadd, 1) := by decide +kernel
theorem d_SL_put_39 : decode b_SL_put 39 = .ok (.aload_n 0, 1) := by decide +kernel
theorem d_SL_put_40 : decode b_SL_put 40 = .ok (.getfield 18, 3) := by decide +kernel
theorem d_SL_put_43 : decode b_SL_put 43 = .ok (.iload_n 3, 1) := by decide +kernel
theorem d_SL_put_44 : decode b_SL_put 44 = .ok (.isub, 1) := by decide +kernel
theorem d_SL_put_45 : decode b_SL_put 45 = .ok (.invokestatic 26, 3) := by decide +kernel
theorem d_SL_put_48 : decode b_SL_put 48 = .ok (.aload_n 0, 1) := by decide +kernel
theorem d_SL_put_49 : decode b_SL_put 49 = .ok (.getfield 9, 3) := by decide +kernel
theorem d_SL_put_52 : decode b_SL_put 52 = .ok (.iload_n 3, 1) := by decide +kernel
theorem d_SL_put_53 : decode b_SL_put 53 = .ok (.iload_n 1, 1) := by decide +kernel
theorem d_SL_put_54 : decode b_SL_put 54 = .ok (.iastore, 1) := by decide +kernel
theorem d_SL_put_55 : decode b_SL_put 55 = .ok (.aload_n 0, 1) := by decide +kernel
theorem d_SL_put_56 : decode b_SL_put 56 = .ok (.dup, 1) := by decide +kernel
theorem d_SL_put_57 : decode b_SL_put 57 = .ok (.getfield 18, 3) := by decide +kernel
theorem d_SL_put_60 : decode b_SL_put 60 = .ok (.iconst 1, 1) := by decide +kernel
theorem d_SL_put_61 : decode b_SL_put 61 = .ok (.iadd, 1) := by decide +kernel
theorem d_SL_put_62 : decode b_SL_put 62 = .ok (.putfield 18, 3) := by decide +kernel
theorem d_SL_put_65 : decode b_SL_put 65 = .ok (.aload_n 0, 1) := by decide +kernel
theorem d_SL_put_66 : decode b_SL_put 66 = .ok (.getfield 15, 3) := by decide +kernel
theorem d_SL_put_69 : decode b_SL_put 69 = .ok (.iload_n 1, 1) := by decide +kernel
theorem d_SL_put_70 : decode b_SL_put 70 = .ok (.iload_n 2, 1) := by decide +kernel
theorem d_SL_put_71 : decode b_SL_put 71 = .ok (.iastore, 1) := by decide +kernel
theorem d_SL_put_72 : decode b_SL_put 72 = .ok (.iconst 1, 1) := by decide +kernel
theorem d_SL_put_73 : decode b_SL_put 73 = .ok (.ireturn, 1) := by decide +kernel
theorem d_SL_drop_0 : decode b_SL_drop 0 = .ok (.aload_n 0, 1) := by decide +kernel
theorem d_SL_drop_1 : decode b_SL_drop 1 = .ok (.getfield 15, 3) := by decide +kernel
theorem d_SL_drop_4 : decode b_SL_drop 4 = .ok (.iload_n 1, 1) := by decide +kernel
theorem d_SL_drop_5 : decode b_SL_drop 5 = .ok (.iaload, 1) := by decide +kernel
theorem d_SL_drop_6 : decode b_SL_drop 6 = .ok (.ifCond .ne 5, 3) := by decide +kernel
theorem d_SL_drop_9 : decode b_SL_drop 9 = .ok (.iconst 0, 1) := by decide +kernel
theorem d_SL_drop_10 : decode b_SL_drop 10 = .ok (.ireturn, 1) := by decide +kernel
theorem d_SL_drop_11 : decode b_SL_drop 11 = .ok (.aload_n 0, 1) := by decide +kernel
theorem d_SL_drop_12 : decode b_SL_drop 12 = .ok (.iconst 0, 1) := by decide +kernel
theorem d_SL_drop_13 : decode b_SL_drop 13 = .ok (.iload_n 1, 1) := by decide +kernel
theorem d_SL_drop_14 : decode b_SL_drop 14 = .ok (.invokevirtual 22, 3) := by decide +kernel
theorem d_SL_drop_17 : decode b_SL_drop 17 = .ok (.istore_n 2, 1) := by decide +kernel
theorem d_SL_drop_18 : decode b_SL_drop 18 = .ok (.aload_n 0, 1) := by decide +kernel
theorem d_SL_drop_19 : decode b_SL_drop 19 = .ok (.getfield 9, 3) := by decide +kernel
theorem d_SL_drop_22 : decode b_SL_drop 22 = .ok (.iload_n 2, 1) := by decide +kernel
theorem d_SL_drop_23 : decode b_SL_drop 23 = .ok (.iconst 1, 1) := by decide +kernel
theorem d_SL_drop_24 : decode b_SL_drop 24 = .ok (.iadd, 1) := by decide +kernel
theorem d_SL_drop_25 : decode b_SL_drop 25 = .ok (.aload_n 0, 1) := by decide +kernel
theorem d_SL_drop_26 : decode b_SL_drop 26 = .ok (.getfield 9, 3) := by decide +kernel
theorem d_SL_drop_29 : decode b_SL_drop 29 = .ok (.iload_n 2, 1) := by decide +kernel
theorem d_SL_drop_30 : decode b_SL_drop 30 = .ok (.aload_n 0, 1) := by decide +kernel
theorem d_SL_drop_31 : decode b_SL_drop 31 = .ok (.getfield 18, 3) := by decide +kernel
theorem d_SL_drop_34 : decode b_SL_drop 34 = .ok (.iload_n 2, 1) := by decide +kernel
theorem d_SL_drop_35 : decode b_SL_drop 35 = .ok (.isub, 1) := by decide +kernel
theorem d_SL_drop_36 : decode b_SL_drop 36 = .ok (.iconst 1, 1) := by decide +kernel
theorem d_SL_drop_37 : decode b_SL_drop 37 = .ok (.isub, 1) := by decide +kernel
theorem d_SL_drop_38 : decode b_SL_drop 38 = .ok (.invokestatic 26, 3) := by decide +kernel
theorem d_SL_drop_41 : decode b_SL_drop 41 = .ok (.aload_n 0, 1) := by decide +kernel
theorem d_SL_drop_42 : decode b_SL_drop 42 = .ok (.dup, 1) := by decide +kernel
theorem d_SL_drop_43 : decode b_SL_drop 43 = .ok (.getfield 18, 3) := by decide +kernel
theorem d_SL_drop_46 : decode b_SL_drop 46 = .ok (.iconst 1, 1) := by decide +kernel
theorem d_SL_drop_47 : decode b_SL_drop 47 = .ok (.isub, 1) := by decide +kernel
theorem d_SL_drop_48 : decode b_SL_drop 48 = .ok (.putfield 18, 3) := by decide +kernel
theorem d_SL_drop_51 : decode b_SL_drop 51 = .ok (.aload_n 0, 1) := by decide +kernel
theorem d_SL_drop_52 : decode b_SL_drop 52 = .ok (.getfield 15, 3) := by decide +kernel
theorem d_SL_drop_55 : decode b_SL_drop 55 = .ok (.iload_n 1, 1) := by decide +kernel
theorem d_SL_drop_56 : decode b_SL_drop 56 = .ok (.iconst 0, 1) := by decide +kernel
theorem d_SL_drop_57 : decode b_SL_drop 57 = .ok (.iastore, 1) := by decide +kernel
theorem d_SL_drop_58 : decode b_SL_drop 58 = .ok (.iconst 1, 1) := by decide +kernel
theorem d_SL_drop_59 : decode b_SL_drop 59 = .ok (.ireturn, 1) := by decide +kernel
theorem d_SL_firstFrom_0 : decode b_SL_firstFrom 0 = .ok (.iload_n 1, 1) := by decide +kernel
theorem d_SL_firstFrom_1 : decode b_SL_firstFrom 1 = .ok (.istore_n 3, 1) := by decide +kernel
theorem d_SL_firstFrom_2 : decode b_SL_firstFrom 2 = .ok (.iload_n 3, 1) := by decide +kernel
theorem d_SL_firstFrom_3 : decode b_SL_firstFrom 3 = .ok (.aload_n 0, 1) := by decide +kernel
theorem d_SL_firstFrom_4 : decode b_SL_firstFrom 4 = .ok (.getfield 18, 3) := by decide +kernel
theorem d_SL_firstFrom_7 : decode b_SL_firstFrom 7 = .ok (.if_icmp .ge 19, 3) := by decide +kernel
theorem d_SL_firstFrom_10 : decode b_SL_firstFrom 10 = .ok (.aload_n 0, 1) := by decide +kernel
theorem d_SL_firstFrom_11 : decode b_SL_firstFrom 11 = .ok (.getfield 9, 3) := by decide +kernel
theorem d_SL_firstFrom_14 : decode b_SL_firstFrom 14 = .ok (.iload_n 3, 1) := by decide +kernel
theorem d_SL_firstFrom_15 : decode b_SL_firstFrom 15 = .ok (.iaload, 1) := by decide +kernel
theorem d_SL_firstFrom_16 : decode b_SL_firstFrom 16 = .ok (.iload_n 2, 1) := by decide +kernel
theorem d_SL_firstFrom_17 : decode b_SL_firstFrom 17 = .ok (.if_icmp .ge 9, 3) := by decide +kernel
theorem d_SL_firstFrom_20 : decode b_SL_firstFrom 20 = .ok (.iinc 3 1, 3) := by decide +kernel
theorem d_SL_firstFrom_23 : decode b_SL_firstFrom 23 = .ok (.goto (-21), 3) := by decide +kernel
theorem d_SL_firstFrom_26 : decode b_SL_firstFrom 26 = .ok (.iload_n 3, 1) := by decide +kernel
theorem d_SL_firstFrom_27 : decode b_SL_firstFrom 27 = .ok (.ireturn, 1) := by decide +kernel
theorem d_SL_objectAt_0 : decode b_SL_objectAt 0 = .ok (.iload_n 1, 1) := by decide +kernel
theorem d_SL_objectAt_1 : decode b_SL_objectAt 1 = .ok (.ifCond .lt 20, 3) := by decide +kernel
theorem d_SL_objectAt_4 : decode b_SL_objectAt 4 = .ok (.iload_n 1, 1) := by decide +kernel
theorem d_SL_objectAt_5 : decode b_SL_objectAt 5 = .ok (.aload_n 0, 1) := by decide +kernel
theorem d_SL_objectAt_6 : decode b_SL_objectAt 6 = .ok (.getfield 18, 3) := by decide +kernel
theorem d_SL_objectAt_9 : decode b_SL_objectAt 9 = .ok (.if_icmp .ge 12, 3) := by decide +kernel
theorem d_SL_objectAt_12 : decode b_SL_objectAt 12 = .ok (.aload_n 0, 1) := by decide +kernel
theorem d_SL_objectAt_13 : decode b_SL_objectAt 13 = .ok (.getfield 9, 3) := by decide +kernel
theorem d_SL_objectAt_16 : decode b_SL_objectAt 16 = .ok (.iload_n 1, 1) := by decide +kernel
theorem d_SL_objectAt_17 : decode b_SL_objectAt 17 = .ok (.iaload, 1) := by decide +kernel
theorem d_SL_objectAt_18 : decode b_SL_objectAt 18 = .ok (.goto 6, 3) := by decide +kernel
theorem d_SL_objectAt_21 : decode b_SL_objectAt 21 = .ok (.sipush 512, 3) := by decide +kernel
theorem d_SL_objectAt_24 : decode b_SL_objectAt 24 = .ok (.ireturn, 1) := by decide +kernel
theorem d_SL_blocks_0 : decode b_SL_blocks 0 = .ok (.aload_n 0, 1) := by decide +kernel
theorem d_SL_blocks_1 : decode b_SL_blocks 1 = .ok (.getfield 18, 3) := by decide +kernel
theorem d_SL_blocks_4 : decode b_SL_blocks 4 = .ok (.bipush 8, 2) := by decide +kernel
theorem d_SL_blocks_6 : decode b_SL_blocks 6 = .ok (.iadd, 1) := by decide +kernel
theorem d_SL_blocks_7 : decode b_SL_blocks 7 = .ok (.iconst 1, 1) := by decide +kernel
theorem d_SL_blocks_8 : decode b_SL_blocks 8 = .ok (.isub, 1) := by decide +kernel
theorem d_SL_blocks_9 : decode b_SL_blocks 9 = .ok (.bipush 8, 2) := by decide +kernel
theorem d_SL_blocks_11 : decode b_SL_blocks 11 = .ok (.idiv, 1) := by decide +kernel
theorem d_SL_blocks_12 : decode b_SL_blocks 12 = .ok (.ireturn, 1) := by decide +kernel
theorem d_SL_greatest_0 : decode b_SL_greatest 0 = .ok (.aload_n 0, 1) := by decide +kernel
theorem d_SL_greatest_1 : decode b_SL_greatest 1 = .ok (.iconst 0, 1) := by decide +kernel
theorem d_SL_greatest_2 : decode b_SL_greatest 2 = .ok (.aload_n 0, 1) := by decide +kernel
theorem d_SL_greatest_3 : decode b_SL_greatest 3 = .ok (.getfield 18, 3) := by decide +kernel
theorem d_SL_greatest_6 : decode b_SL_greatest 6 = .ok (.invokevirtual 32, 3) := by decide +kernel
theorem d_SL_greatest_9 : decode b_SL_greatest 9 = .ok (.ireturn, 1) := by decide +kernel
theorem d_SL_greatestOfBlock_0 : decode b_SL_greatestOfBlock 0 = .ok (.aload_n 0, 1) := by decide +kernel
theorem d_SL_greatestOfBlock_1 : decode b_SL_greatestOfBlock 1 = .ok (.iload_n 1, 1) := by decide +kernel
theorem d_SL_greatestOfBlock_2 : decode b_SL_greatestOfBlock 2 = .ok (.bipush 8, 2) := by decide +kernel
theorem d_SL_greatestOfBlock_4 : decode b_SL_greatestOfBlock 4 = .ok (.imul, 1) := by decide +kernel
theorem d_SL_greatestOfBlock_5 : decode b_SL_greatestOfBlock 5 = .ok (.aload_n 0, 1) := by decide +kernel
theorem d_SL_greatestOfBlock_6 : decode b_SL_greatestOfBlock 6 = .ok (.iload_n 1, 1) := by decide +kernel
theorem d_SL_greatestOfBlock_7 : decode b_SL_greatestOfBlock 7 = .ok (.invokevirtual 35, 3) := by decide +kernel
theorem d_SL_greatestOfBlock_10 : decode b_SL_greatestOfBlock 10 = .ok (.invokevirtual 32, 3) := by decide +kernel
theorem d_SL_greatestOfBlock_13 : decode b_SL_greatestOfBlock 13 = .ok (.ireturn, 1) := by decide +kernel
theorem d_SL_lastOfBlock_0 : decode b_SL_lastOfBlock 0 = .ok (.aload_n 0, 1) := by decide +kernel
theorem d_SL_lastOfBlock_1 : decode b_SL_lastOfBlock 1 = .ok (.aload_n 0, 1) := by decide +kernel
theorem d_SL_lastOfBlock_2 : decode b_SL_lastOfBlock 2 = .ok (.iload_n 1, 1) := by decide +kernel
theorem d_SL_lastOfBlock_3 : decode b_SL_lastOfBlock 3 = .ok (.invokevirtual 35, 3) := by decide +kernel
theorem d_SL_lastOfBlock_6 : decode b_SL_lastOfBlock 6 = .ok (.iconst 1, 1) := by decide +kernel
theorem d_SL_lastOfBlock_7 : decode b_SL_lastOfBlock 7 = .ok (.isub, 1) := by decide +kernel
theorem d_SL_lastOfBlock_8 : decode b_SL_lastOfBlock 8 = .ok (.invokevirtual 39, 3) := by decide +kernel
theorem d_SL_lastOfBlock_11 : decode b_SL_lastOfBlock 11 = .ok (.ireturn, 1) := by decide +kernel
theorem d_SL_blockEnd_0 : decode b_SL_blockEnd 0 = .ok (.iload_n 1, 1) := by decide +kernel
theorem d_SL_blockEnd_1 : decode b_SL_blockEnd 1 = .ok (.bipush 8, 2) := by decide +kernel
theorem d_SL_blockEnd_3 : decode b_SL_blockEnd 3 = .ok (.imul, 1) := by decide +kernel
theorem d_SL_blockEnd_4 : decode b_SL_blockEnd 4 = .ok (.bipush 8, 2) := by decide +kernel
theorem d_SL_blockEnd_6 : decode b_SL_blockEnd 6 = .ok (.iadd, 1) := by decide +kernel
theorem d_SL_blockEnd_7 : decode b_SL_blockEnd 7 = .ok (.aload_n 0, 1) := by decide +kernel
theorem d_SL_blockEnd_8 : decode b_SL_blockEnd 8 = .ok (.getfield 18, 3) := by decide +kernel
theorem d_SL_blockEnd_11 : decode b_SL_blockEnd 11 = .ok (.invokestatic 42, 3) := by decide +kernel
theorem d_SL_blockEnd_14 : decode b_SL_blockEnd 14 = .ok (.ireturn, 1) := by decide +kernel
theorem d_SL_greatestBetween_0 : decode b_SL_greatestBetween 0 = .ok (.iconst 0, 1) := by decide +kernel
theorem d_SL_greatestBetween_1 : decode b_SL_greatestBetween 1 = .ok (.istore_n 3, 1) := by decide +kernel
theorem d_SL_greatestBetween_2 : decode b_SL_greatestBetween 2 = .ok (.iload_n 1, 1) := by decide +kernel
theorem d_SL_greatestBetween_3 : decode b_SL_greatestBetween 3 = .ok (.istore 4, 2) := by decide +kernel
theorem d_SL_greatestBetween_5 : decode b_SL_greatestBetween 5 = .ok (.iload 4, 2) := by decide +kernel
theorem d_SL_greatestBetween_7 : decode b_SL_greatestBetween 7 = .ok (.iload_n 2, 1) := by decide +kernel
theorem d_SL_greatestBetween_8 : decode b_SL_greatestBetween 8 = .ok (.if_icmp .ge 26, 3) := by decide +kernel
theorem d_SL_greatestBetween_11 : decode b_SL_greatestBetween 11 = .ok (.iload_n 3, 1) := by decide +kernel
theorem d_SL_greatestBetween_12 : decode b_SL_greatestBetween 12 = .ok (.aload_n 0, 1) := by decide +kernel
theorem d_SL_greatestBetween_13 : decode b_SL_greatestBetween 13 = .ok (.getfield 15, 3) := by decide +kernel
theorem d_SL_greatestBetween_16 : decode b_SL_greatestBetween 16 = .ok (.aload_n 0, 1) := by decide +kernel
theorem d_SL_greatestBetween_17 : decode b_SL_greatestBetween 17 = .ok (.getfield 9, 3) := by decide +kernel
theorem d_SL_greatestBetween_20 : decode b_SL_greatestBetween 20 = .ok (.iload 4, 2) := by decide +kernel
theorem d_SL_greatestBetween_22 : decode b_SL_greatestBetween 22 = .ok (.iaload, 1) := by decide +kernel
theorem d_SL_greatestBetween_23 : decode b_SL_greatestBetween 23 = .ok (.iaload, 1) := by decide +kernel
theorem d_SL_greatestBetween_24 : decode b_SL_greatestBetween 24 = .ok (.invokestatic 47, 3) := by decide +kernel
theorem d_SL_greatestBetween_27 : decode b_SL_greatestBetween 27 = .ok (.istore_n 3, 1) := by decide +kernel
theorem d_SL_greatestBetween_28 : decode b_SL_greatestBetween 28 = .ok (.iinc 4 1, 3) := by decide +kernel
theorem d_SL_greatestBetween_31 : decode b_SL_greatestBetween 31 = .ok (.goto (-26), 3) := by decide +kernel
theorem d_SL_greatestBetween_34 : decode b_SL_greatestBetween 34 = .ok (.iload_n 3, 1) := by decide +kernel
theorem d_SL_greatestBetween_35 : decode b_SL_greatestBetween 35 = .ok (.ireturn, 1) := by decide +kernel
