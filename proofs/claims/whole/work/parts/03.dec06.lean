theorem d_MD_key_0 : decode b_MD_key 0 = .ok (.aload_n 0, 1) := by decide +kernel
theorem d_MD_key_1 : decode b_MD_key 1 = .ok (.iconst 0, 1) := by decide +kernel
theorem d_MD_key_2 : decode b_MD_key 2 = .ok (.putfield 1, 3) := by decide +kernel
theorem d_MD_key_5 : decode b_MD_key 5 = .ok (.iload_n 1, 1) := by decide +kernel
theorem d_MD_key_6 : decode b_MD_key 6 = .ok (.iconst 0, 1) := by decide +kernel
theorem d_MD_key_7 : decode b_MD_key 7 = .ok (.sipush 511, 3) := by decide +kernel
theorem d_MD_key_10 : decode b_MD_key 10 = .ok (.invokestatic 51, 3) := by decide +kernel
theorem d_MD_key_13 : decode b_MD_key 13 = .ok (.ifCond .eq 16, 3) := by decide +kernel
theorem d_MD_key_16 : decode b_MD_key 16 = .ok (.iload_n 2, 1) := by decide +kernel
theorem d_MD_key_17 : decode b_MD_key 17 = .ok (.sipush (-1000), 3) := by decide +kernel
theorem d_MD_key_20 : decode b_MD_key 20 = .ok (.sipush 1000, 3) := by decide +kernel
theorem d_MD_key_23 : decode b_MD_key 23 = .ok (.invokestatic 51, 3) := by decide +kernel
theorem d_MD_key_26 : decode b_MD_key 26 = .ok (.ifCond .ne 5, 3) := by decide +kernel
theorem d_MD_key_29 : decode b_MD_key 29 = .ok (.iconst (-1), 1) := by decide +kernel
theorem d_MD_key_30 : decode b_MD_key 30 = .ok (.ireturn, 1) := by decide +kernel
theorem d_MD_key_31 : decode b_MD_key 31 = .ok (.aload_n 0, 1) := by decide +kernel
theorem d_MD_key_32 : decode b_MD_key 32 = .ok (.getfield 17, 3) := by decide +kernel
theorem d_MD_key_35 : decode b_MD_key 35 = .ok (.iload_n 1, 1) := by decide +kernel
theorem d_MD_key_36 : decode b_MD_key 36 = .ok (.iaload, 1) := by decide +kernel
theorem d_MD_key_37 : decode b_MD_key 37 = .ok (.istore_n 3, 1) := by decide +kernel
theorem d_MD_key_38 : decode b_MD_key 38 = .ok (.aload_n 0, 1) := by decide +kernel
theorem d_MD_key_39 : decode b_MD_key 39 = .ok (.getfield 17, 3) := by decide +kernel
theorem d_MD_key_42 : decode b_MD_key 42 = .ok (.iload_n 1, 1) := by decide +kernel
theorem d_MD_key_43 : decode b_MD_key 43 = .ok (.iload_n 2, 1) := by decide +kernel
theorem d_MD_key_44 : decode b_MD_key 44 = .ok (.iastore, 1) := by decide +kernel
theorem d_MD_key_45 : decode b_MD_key 45 = .ok (.iload_n 3, 1) := by decide +kernel
theorem d_MD_key_46 : decode b_MD_key 46 = .ok (.sipush 1000, 3) := by decide +kernel
theorem d_MD_key_49 : decode b_MD_key 49 = .ok (.iadd, 1) := by decide +kernel
theorem d_MD_key_50 : decode b_MD_key 50 = .ok (.ireturn, 1) := by decide +kernel
theorem d_MD_topOf_0 : decode b_MD_topOf 0 = .ok (.iconst 0, 1) := by decide +kernel
theorem d_MD_topOf_1 : decode b_MD_topOf 1 = .ok (.istore 4, 2) := by decide +kernel
theorem d_MD_topOf_3 : decode b_MD_topOf 3 = .ok (.iconst 0, 1) := by decide +kernel
theorem d_MD_topOf_4 : decode b_MD_topOf 4 = .ok (.istore 5, 2) := by decide +kernel
theorem d_MD_topOf_6 : decode b_MD_topOf 6 = .ok (.iconst 0, 1) := by decide +kernel
theorem d_MD_topOf_7 : decode b_MD_topOf 7 = .ok (.istore 6, 2) := by decide +kernel
theorem d_MD_topOf_9 : decode b_MD_topOf 9 = .ok (.iload 6, 2) := by decide +kernel
theorem d_MD_topOf_11 : decode b_MD_topOf 11 = .ok (.sipush 512, 3) := by decide +kernel
theorem d_MD_topOf_14 : decode b_MD_topOf 14 = .ok (.if_icmp .ge 60, 3) := by decide +kernel
theorem d_MD_topOf_17 : decode b_MD_topOf 17 = .ok (.aload_n 0, 1) := by decide +kernel
theorem d_MD_topOf_18 : decode b_MD_topOf 18 = .ok (.iload_n 1, 1) := by decide +kernel
theorem d_MD_topOf_19 : decode b_MD_topOf 19 = .ok (.iload 6, 2) := by decide +kernel
theorem d_MD_topOf_21 : decode b_MD_topOf 21 = .ok (.invokevirtual 47, 3) := by decide +kernel
theorem d_MD_topOf_24 : decode b_MD_topOf 24 = .ok (.ifCond .le 44, 3) := by decide +kernel
theorem d_MD_topOf_27 : decode b_MD_topOf 27 = .ok (.iload 5, 2) := by decide +kernel
theorem d_MD_topOf_29 : decode b_MD_topOf 29 = .ok (.iload_n 2, 1) := by decide +kernel
theorem d_MD_topOf_30 : decode b_MD_topOf 30 = .ok (.if_icmp .lt 31, 3) := by decide +kernel
theorem d_MD_topOf_33 : decode b_MD_topOf 33 = .ok (.iload 5, 2) := by decide +kernel
theorem d_MD_topOf_35 : decode b_MD_topOf 35 = .ok (.iload_n 3, 1) := by decide +kernel
theorem d_MD_topOf_36 : decode b_MD_topOf 36 = .ok (.if_icmp .ge 25, 3) := by decide +kernel
theorem d_MD_topOf_39 : decode b_MD_topOf 39 = .ok (.aload_n 0, 1) := by decide +kernel
theorem d_MD_topOf_40 : decode b_MD_topOf 40 = .ok (.iload_n 1, 1) := by decide +kernel
theorem d_MD_topOf_41 : decode b_MD_topOf 41 = .ok (.iload 6, 2) := by decide +kernel
theorem d_MD_topOf_43 : decode b_MD_topOf 43 = .ok (.invokevirtual 47, 3) := by decide +kernel
theorem d_MD_topOf_46 : decode b_MD_topOf 46 = .ok (.iload 4, 2) := by decide +kernel
theorem d_MD_topOf_48 : decode b_MD_topOf 48 = .ok (.if_icmp .le 13, 3) := by decide +kernel
theorem d_MD_topOf_51 : decode b_MD_topOf 51 = .ok (.aload_n 0, 1) := by decide +kernel
theorem d_MD_topOf_52 : decode b_MD_topOf 52 = .ok (.iload_n 1, 1) := by decide +kernel
theorem d_MD_topOf_53 : decode b_MD_topOf 53 = .ok (.iload 6, 2) := by decide +kernel
theorem d_MD_topOf_55 : decode b_MD_topOf 55 = .ok (.invokevirtual 47, 3) := by decide +kernel
theorem d_MD_topOf_58 : decode b_MD_topOf 58 = .ok (.goto 5, 3) := by decide +kernel
theorem d_MD_topOf_61 : decode b_MD_topOf 61 = .ok (.iload 4, 2) := by decide +kernel
theorem d_MD_topOf_63 : decode b_MD_topOf 63 = .ok (.istore 4, 2) := by decide +kernel
theorem d_MD_topOf_65 : decode b_MD_topOf 65 = .ok (.iinc 5 1, 3) := by decide +kernel
theorem d_MD_topOf_68 : decode b_MD_topOf 68 = .ok (.iinc 6 1, 3) := by decide +kernel
theorem d_MD_topOf_71 : decode b_MD_topOf 71 = .ok (.goto (-62), 3) := by decide +kernel
theorem d_MD_topOf_74 : decode b_MD_topOf 74 = .ok (.iload 4, 2) := by decide +kernel
theorem d_MD_topOf_76 : decode b_MD_topOf 76 = .ok (.ireturn, 1) := by decide +kernel
theorem d_MD_top_0 : decode b_MD_top 0 = .ok (.aload_n 0, 1) := by decide +kernel
theorem d_MD_top_1 : decode b_MD_top 1 = .ok (.iconst 0, 1) := by decide +kernel
theorem d_MD_top_2 : decode b_MD_top 2 = .ok (.putfield 1, 3) := by decide +kernel
theorem d_MD_top_5 : decode b_MD_top 5 = .ok (.iload_n 1, 1) := by decide +kernel
theorem d_MD_top_6 : decode b_MD_top 6 = .ok (.iconst 0, 1) := by decide +kernel
theorem d_MD_top_7 : decode b_MD_top 7 = .ok (.bipush 11, 2) := by decide +kernel
theorem d_MD_top_9 : decode b_MD_top 9 = .ok (.invokestatic 51, 3) := by decide +kernel
theorem d_MD_top_12 : decode b_MD_top 12 = .ok (.ifCond .eq 30, 3) := by decide +kernel
theorem d_MD_top_15 : decode b_MD_top 15 = .ok (.iload_n 2, 1) := by decide +kernel
theorem d_MD_top_16 : decode b_MD_top 16 = .ok (.iconst (-1), 1) := by decide +kernel
theorem d_MD_top_17 : decode b_MD_top 17 = .ok (.if_icmp .lt 25, 3) := by decide +kernel
theorem d_MD_top_20 : decode b_MD_top 20 = .ok (.iload_n 2, 1) := by decide +kernel
theorem d_MD_top_21 : decode b_MD_top 21 = .ok (.bipush 120, 2) := by decide +kernel
theorem d_MD_top_23 : decode b_MD_top 23 = .ok (.if_icmp .gt 19, 3) := by decide +kernel
theorem d_MD_top_26 : decode b_MD_top 26 = .ok (.iload_n 2, 1) := by decide +kernel
theorem d_MD_top_27 : decode b_MD_top 27 = .ok (.ifCond .lt 17, 3) := by decide +kernel
theorem d_MD_top_30 : decode b_MD_top 30 = .ok (.bipush 8, 2) := by decide +kernel
theorem d_MD_top_32 : decode b_MD_top 32 = .ok (.iload_n 2, 1) := by decide +kernel
theorem d_MD_top_33 : decode b_MD_top 33 = .ok (.imul, 1) := by decide +kernel
theorem d_MD_top_34 : decode b_MD_top 34 = .ok (.aload_n 0, 1) := by decide +kernel
theorem d_MD_top_35 : decode b_MD_top 35 = .ok (.iload_n 1, 1) := by decide +kernel
theorem d_MD_top_36 : decode b_MD_top 36 = .ok (.invokevirtual 55, 3) := by decide +kernel
theorem d_MD_top_39 : decode b_MD_top 39 = .ok (.if_icmp .lt 5, 3) := by decide +kernel
theorem d_MD_top_42 : decode b_MD_top 42 = .ok (.iconst (-1), 1) := by decide +kernel
theorem d_MD_top_43 : decode b_MD_top 43 = .ok (.ireturn, 1) := by decide +kernel
theorem d_MD_top_44 : decode b_MD_top 44 = .ok (.iload_n 2, 1) := by decide +kernel
theorem d_MD_top_45 : decode b_MD_top 45 = .ok (.ifCond .ge 14, 3) := by decide +kernel
theorem d_MD_top_48 : decode b_MD_top 48 = .ok (.aload_n 0, 1) := by decide +kernel
theorem d_MD_top_49 : decode b_MD_top 49 = .ok (.iload_n 1, 1) := by decide +kernel
theorem d_MD_top_50 : decode b_MD_top 50 = .ok (.iconst 0, 1) := by decide +kernel
theorem d_MD_top_51 : decode b_MD_top 51 = .ok (.bipush 120, 2) := by decide +kernel
theorem d_MD_top_53 : decode b_MD_top 53 = .ok (.invokevirtual 59, 3) := by decide +kernel
theorem d_MD_top_56 : decode b_MD_top 56 = .ok (.goto 19, 3) := by decide +kernel
theorem d_MD_top_59 : decode b_MD_top 59 = .ok (.aload_n 0, 1) := by decide +kernel
theorem d_MD_top_60 : decode b_MD_top 60 = .ok (.iload_n 1, 1) := by decide +kernel
theorem d_MD_top_61 : decode b_MD_top 61 = .ok (.bipush 8, 2) := by decide +kernel
theorem d_MD_top_63 : decode b_MD_top 63 = .ok (.iload_n 2, 1) := by decide +kernel
theorem d_MD_top_64 : decode b_MD_top 64 = .ok (.imul, 1) := by decide +kernel
theorem d_MD_top_65 : decode b_MD_top 65 = .ok (.bipush 8, 2) := by decide +kernel
theorem d_MD_top_67 : decode b_MD_top 67 = .ok (.iload_n 2, 1) := by decide +kernel
theorem d_MD_top_68 : decode b_MD_top 68 = .ok (.imul, 1) := by decide +kernel
theorem d_MD_top_69 : decode b_MD_top 69 = .ok (.bipush 8, 2) := by decide +kernel
theorem d_MD_top_71 : decode b_MD_top 71 = .ok (.iadd, 1) := by decide +kernel
theorem d_MD_top_72 : decode b_MD_top 72 = .ok (.invokevirtual 59, 3) := by decide +kernel
theorem d_MD_top_75 : decode b_MD_top 75 = .ok (.ireturn, 1) := by decide +kernel
theorem d_MD_ask_0 : decode b_MD_ask 0 = .ok (.aload_n 0, 1) := by decide +kernel
theorem d_MD_ask_1 : decode b_MD_ask 1 = .ok (.iconst 0, 1) := by decide +kernel
theorem d_MD_ask_2 : decode b_MD_ask 2 = .ok (.putfield 1, 3) := by decide +kernel
theorem d_MD_ask_5 : decode b_MD_ask 5 = .ok (.iload_n 1, 1) := by decide +kernel
theorem d_MD_ask_6 : decode b_MD_ask 6 = .ok (.iconst 0, 1) := by decide +kernel
theorem d_MD_ask_7 : decode b_MD_ask 7 = .ok (.bipush 11, 2) := by decide +kernel
theorem d_MD_ask_9 : decode b_MD_ask 9 = .ok (.invokestatic 51, 3) := by decide +kernel
theorem d_MD_ask_12 : decode b_MD_ask 12 = .ok (.ifCond .eq 22, 3) := by decide +kernel
theorem d_MD_ask_15 : decode b_MD_ask 15 = .ok (.iload_n 2, 1) := by decide +kernel
theorem d_MD_ask_16 : decode b_MD_ask 16 = .ok (.iconst 0, 1) := by decide +kernel
theorem d_MD_ask_17 : decode b_MD_ask 17 = .ok (.iconst 3, 1) := by decide +kernel
theorem d_MD_ask_18 : decode b_MD_ask 18 = .ok (.invokestatic 51, 3) := by decide +kernel
theorem d_MD_ask_21 : decode b_MD_ask 21 = .ok (.ifCond .eq 13, 3) := by decide +kernel
theorem d_MD_ask_24 : decode b_MD_ask 24 = .ok (.iload_n 3, 1) := by decide +kernel
theorem d_MD_ask_25 : decode b_MD_ask 25 = .ok (.iconst 1, 1) := by decide +kernel
theorem d_MD_ask_26 : decode b_MD_ask 26 = .ok (.bipush 9, 2) := by decide +kernel
theorem d_MD_ask_28 : decode b_MD_ask 28 = .ok (.invokestatic 51, 3) := by decide +kernel
theorem d_MD_ask_31 : decode b_MD_ask 31 = .ok (.ifCond .ne 5, 3) := by decide +kernel
theorem d_MD_ask_34 : decode b_MD_ask 34 = .ok (.iconst (-1), 1) := by decide +kernel
theorem d_MD_ask_35 : decode b_MD_ask 35 = .ok (.ireturn, 1) := by decide +kernel
theorem d_MD_ask_36 : decode b_MD_ask 36 = .ok (.bipush 10, 2) := by decide +kernel
theorem d_MD_ask_38 : decode b_MD_ask 38 = .ok (.aload_n 0, 1) := by decide +kernel
theorem d_MD_ask_39 : decode b_MD_ask 39 = .ok (.getfield 23, 3) := by decide +kernel
theorem d_MD_ask_42 : decode b_MD_ask 42 = .ok (.iload_n 1, 1) := by decide +kernel
theorem d_MD_ask_43 : decode b_MD_ask 43 = .ok (.iaload, 1) := by decide +kernel
theorem d_MD_ask_44 : decode b_MD_ask 44 = .ok (.imul, 1) := by decide +kernel
theorem d_MD_ask_45 : decode b_MD_ask 45 = .ok (.aload_n 0, 1) := by decide +kernel
theorem d_MD_ask_46 : decode b_MD_ask 46 = .ok (.getfield 20, 3) := by decide +kernel
theorem d_MD_ask_49 : decode b_MD_ask 49 = .ok (.iload_n 1, 1) := by decide +kernel
theorem d_MD_ask_50 : decode b_MD_ask 50 = .ok (.iaload, 1) := by decide +kernel
theorem d_MD_ask_51 : decode b_MD_ask 51 = .ok (.iadd, 1) := by decide +kernel
theorem d_MD_ask_52 : decode b_MD_ask 52 = .ok (.istore 4, 2) := by decide +kernel
theorem d_MD_ask_54 : decode b_MD_ask 54 = .ok (.aload_n 0, 1) := by decide +kernel
theorem d_MD_ask_55 : decode b_MD_ask 55 = .ok (.getfield 20, 3) := by decide +kernel
theorem d_MD_ask_58 : decode b_MD_ask 58 = .ok (.iload_n 1, 1) := by decide +kernel
theorem d_MD_ask_59 : decode b_MD_ask 59 = .ok (.iload_n 2, 1) := by decide +kernel
theorem d_MD_ask_60 : decode b_MD_ask 60 = .ok (.iastore, 1) := by decide +kernel
theorem d_MD_ask_61 : decode b_MD_ask 61 = .ok (.aload_n 0, 1) := by decide +kernel
theorem d_MD_ask_62 : decode b_MD_ask 62 = .ok (.getfield 23, 3) := by decide +kernel
theorem d_MD_ask_65 : decode b_MD_ask 65 = .ok (.iload_n 1, 1) := by decide +kernel
theorem d_MD_ask_66 : decode b_MD_ask 66 = .ok (.iload_n 3, 1) := by decide +kernel
theorem d_MD_ask_67 : decode b_MD_ask 67 = .ok (.iastore, 1) := by decide +kernel
theorem d_MD_ask_68 : decode b_MD_ask 68 = .ok (.iload 4, 2) := by decide +kernel
theorem d_MD_ask_70 : decode b_MD_ask 70 = .ok (.ireturn, 1) := by decide +kernel
theorem d_MD_isAsked_0 : decode b_MD_isAsked 0 = .ok (.aload_n 0, 1) := by decide +kernel
theorem d_MD_isAsked_1 : decode b_MD_isAsked 1 = .ok (.getfield 20, 3) := by decide +kernel
theorem d_MD_isAsked_4 : decode b_MD_isAsked 4 = .ok (.iload_n 1, 1) := by decide +kernel
theorem d_MD_isAsked_5 : decode b_MD_isAsked 5 = .ok (.iaload, 1) := by decide +kernel
theorem d_MD_isAsked_6 : decode b_MD_isAsked 6 = .ok (.iconst 1, 1) := by decide +kernel
theorem d_MD_isAsked_7 : decode b_MD_isAsked 7 = .ok (.if_icmp .eq 13, 3) := by decide +kernel
theorem d_MD_isAsked_10 : decode b_MD_isAsked 10 = .ok (.aload_n 0, 1) := by decide +kernel
theorem d_MD_isAsked_11 : decode b_MD_isAsked 11 = .ok (.getfield 20, 3) := by decide +kernel
theorem d_MD_isAsked_14 : decode b_MD_isAsked 14 = .ok (.iload_n 1, 1) := by decide +kernel
theorem d_MD_isAsked_15 : decode b_MD_isAsked 15 = .ok (.iaload, 1) := by decide +kernel
theorem d_MD_isAsked_16 : decode b_MD_isAsked 16 = .ok (.iconst 2, 1) := by decide +kernel
theorem d_MD_isAsked_17 : decode b_MD_isAsked 17 = .ok (.if_icmp .ne 7, 3) := by decide +kernel
theorem d_MD_isAsked_20 : decode b_MD_isAsked 20 = .ok (.iconst 1, 1) := by decide +kernel
theorem d_MD_isAsked_21 : decode b_MD_isAsked 21 = .ok (.goto 4, 3) := by decide +kernel
theorem d_MD_isAsked_24 : decode b_MD_isAsked 24 = .ok (.iconst 0, 1) := by decide +kernel
theorem d_MD_isAsked_25 : decode b_MD_isAsked 25 = .ok (.ireturn, 1) := by decide +kernel
theorem d_MD_wanted_0 : decode b_MD_wanted 0 = .ok (.aload_n 0, 1) := by decide +kernel
theorem d_MD_wanted_1 : decode b_MD_wanted 1 = .ok (.iconst 0, 1) := by decide +kernel
theorem d_MD_wanted_2 : decode b_MD_wanted 2 = .ok (.putfield 1, 3) := by decide +kernel
theorem d_MD_wanted_5 : decode b_MD_wanted 5 = .ok (.iload_n 1, 1) := by decide +kernel
theorem d_MD_wanted_6 : decode b_MD_wanted 6 = .ok (.iconst 1, 1) := by decide +kernel
theorem d_MD_wanted_7 : decode b_MD_wanted 7 = .ok (.bipush 20, 2) := by decide +kernel
theorem d_MD_wanted_9 : decode b_MD_wanted 9 = .ok (.invokestatic 51, 3) := by decide +kernel
theorem d_MD_wanted_12 : decode b_MD_wanted 12 = .ok (.ifCond .ne 5, 3) := by decide +kernel
theorem d_MD_wanted_15 : decode b_MD_wanted 15 = .ok (.iconst (-1), 1) := by decide +kernel
theorem d_MD_wanted_16 : decode b_MD_wanted 16 = .ok (.ireturn, 1) := by decide +kernel
theorem d_MD_wanted_17 : decode b_MD_wanted 17 = .ok (.aload_n 0, 1) := by decide +kernel
theorem d_MD_wanted_18 : decode b_MD_wanted 18 = .ok (.getfield 26, 3) := by decide +kernel
theorem d_MD_wanted_21 : decode b_MD_wanted 21 = .ok (.istore_n 2, 1) := by decide +kernel
theorem d_MD_wanted_22 : decode b_MD_wanted 22 = .ok (.aload_n 0, 1) := by decide +kernel
theorem d_MD_wanted_23 : decode b_MD_wanted 23 = .ok (.iload_n 1, 1) := by decide +kernel
theorem d_MD_wanted_24 : decode b_MD_wanted 24 = .ok (.putfield 26, 3) := by decide +kernel
theorem d_MD_wanted_27 : decode b_MD_wanted 27 = .ok (.iload_n 2, 1) := by decide +kernel
theorem d_MD_wanted_28 : decode b_MD_wanted 28 = .ok (.ireturn, 1) := by decide +kernel
theorem d_MD_place_0 : decode b_MD_place 0 = .ok (.aload_n 0, 1) := by decide +kernel
theorem d_MD_place_1 : decode b_MD_place 1 = .ok (.iconst 0, 1) := by decide +kernel
theorem d_MD_place_2 : decode b_MD_place 2 = .ok (.putfield 1, 3) := by decide +kernel
theorem d_MD_place_5 : decode b_MD_place 5 = .ok (.iload_n 1, 1) := by decide +kernel
theorem d_MD_place_6 : decode b_MD_place 6 = .ok (.iconst (-1), 1) := by decide +kernel
theorem d_MD_place_7 : decode b_MD_place 7 = .ok (.if_icmp .eq 27, 3) := by decide +kernel
theorem d_MD_place_10 : decode b_MD_place 10 = .ok (.iload_n 1, 1) := by decide +kernel
theorem d_MD_place_11 : decode b_MD_place 11 = .ok (.iconst 0, 1) := by decide +kernel
theorem d_MD_place_12 : decode b_MD_place 12 = .ok (.sipush 10800, 3) := by decide +kernel
theorem d_MD_place_15 : decode b_MD_place 15 = .ok (.invokestatic 51, 3) := by decide +kernel
theorem d_MD_place_18 : decode b_MD_place 18 = .ok (.ifCond .eq 14, 3) := by decide +kernel
theorem d_MD_place_21 : decode b_MD_place 21 = .ok (.iload_n 2, 1) := by decide +kernel
theorem d_MD_place_22 : decode b_MD_place 22 = .ok (.iconst 0, 1) := by decide +kernel
theorem d_MD_place_23 : decode b_MD_place 23 = .ok (.sipush 511, 3) := by decide +kernel
theorem d_MD_place_26 : decode b_MD_place 26 = .ok (.invokestatic 51, 3) := by decide +kernel
theorem d_MD_place_29 : decode b_MD_place 29 = .ok (.ifCond .ne 5, 3) := by decide +kernel
theorem d_MD_place_32 : decode b_MD_place 32 = .ok (.iconst (-1), 1) := by decide +kernel
theorem d_MD_place_33 : decode b_MD_place 33 = .ok (.ireturn, 1) := by decide +kernel
theorem d_MD_place_34 : decode b_MD_place 34 = .ok (.aload_n 0, 1) := by decide +kernel
theorem d_MD_place_35 : decode b_MD_place 35 = .ok (.getfield 29, 3) := by decide +kernel
theorem d_MD_place_38 : decode b_MD_place 38 = .ok (.ifCond .ge 7, 3) := by decide +kernel
theorem d_MD_place_41 : decode b_MD_place 41 = .ok (.iconst 0, 1) := by decide +kernel
theorem d_MD_place_42 : decode b_MD_place 42 = .ok (.goto 4, 3) := by decide +kernel
theorem d_MD_place_45 : decode b_MD_place 45 = .ok (.iconst 1, 1) := by decide +kernel
theorem d_MD_place_46 : decode b_MD_place 46 = .ok (.istore_n 3, 1) := by decide +kernel
theorem d_MD_place_47 : decode b_MD_place 47 = .ok (.aload_n 0, 1) := by decide +kernel
theorem d_MD_place_48 : decode b_MD_place 48 = .ok (.iload_n 1, 1) := by decide +kernel
theorem d_MD_place_49 : decode b_MD_place 49 = .ok (.putfield 29, 3) := by decide +kernel
theorem d_MD_place_52 : decode b_MD_place 52 = .ok (.aload_n 0, 1) := by decide +kernel
theorem d_MD_place_53 : decode b_MD_place 53 = .ok (.iload_n 2, 1) := by decide +kernel
theorem d_MD_place_54 : decode b_MD_place 54 = .ok (.putfield 63, 3) := by decide +kernel
theorem d_MD_place_57 : decode b_MD_place 57 = .ok (.iload_n 3, 1) := by decide +kernel
theorem d_MD_place_58 : decode b_MD_place 58 = .ok (.ireturn, 1) := by decide +kernel
theorem d_MD_isFit_0 : decode b_MD_isFit 0 = .ok (.iconst 0, 1) := by decide +kernel
theorem d_MD_isFit_1 : decode b_MD_isFit 1 = .ok (.istore_n 2, 1) := by decide +kernel
theorem d_MD_isFit_2 : decode b_MD_isFit 2 = .ok (.iconst 0, 1) := by decide +kernel
theorem d_MD_isFit_3 : decode b_MD_isFit 3 = .ok (.istore_n 3, 1) := by decide +kernel
theorem d_MD_isFit_4 : decode b_MD_isFit 4 = .ok (.iload_n 3, 1) := by decide +kernel
theorem d_MD_isFit_5 : decode b_MD_isFit 5 = .ok (.bipush 12, 2) := by decide +kernel
theorem d_MD_isFit_7 : decode b_MD_isFit 7 = .ok (.if_icmp .ge 80, 3) := by decide +kernel
theorem d_MD_isFit_10 : decode b_MD_isFit 10 = .ok (.aload_n 0, 1) := by decide +kernel
theorem d_MD_isFit_11 : decode b_MD_isFit 11 = .ok (.iload_n 3, 1) := by decide +kernel
theorem d_MD_isFit_12 : decode b_MD_isFit 12 = .ok (.iload_n 1, 1) := by decide +kernel
theorem d_MD_isFit_13 : decode b_MD_isFit 13 = .ok (.invokevirtual 47, 3) := by decide +kernel
theorem d_MD_isFit_16 : decode b_MD_isFit 16 = .ok (.ifCond .le 7, 3) := by decide +kernel
theorem d_MD_isFit_19 : decode b_MD_isFit 19 = .ok (.iconst 1, 1) := by decide +kernel
theorem d_MD_isFit_20 : decode b_MD_isFit 20 = .ok (.goto 4, 3) := by decide +kernel
theorem d_MD_isFit_23 : decode b_MD_isFit 23 = .ok (.iconst 0, 1) := by decide +kernel
theorem d_MD_isFit_24 : decode b_MD_isFit 24 = .ok (.istore 4, 2) := by decide +kernel
theorem d_MD_isFit_26 : decode b_MD_isFit 26 = .ok (.iload 4, 2) := by decide +kernel
theorem d_MD_isFit_28 : decode b_MD_isFit 28 = .ok (.ifCond .eq 13, 3) := by decide +kernel
theorem d_MD_isFit_31 : decode b_MD_isFit 31 = .ok (.aload_n 0, 1) := by decide +kernel
theorem d_MD_isFit_32 : decode b_MD_isFit 32 = .ok (.getfield 20, 3) := by decide +kernel
theorem d_MD_isFit_35 : decode b_MD_isFit 35 = .ok (.iload_n 3, 1) := by decide +kernel
theorem d_MD_isFit_36 : decode b_MD_isFit 36 = .ok (.iaload, 1) := by decide +kernel
theorem d_MD_isFit_37 : decode b_MD_isFit 37 = .ok (.iconst 3, 1) := by decide +kernel
theorem d_MD_isFit_38 : decode b_MD_isFit 38 = .ok (.if_icmp .eq 18, 3) := by decide +kernel
theorem d_MD_isFit_41 : decode b_MD_isFit 41 = .ok (.iload 4, 2) := by decide +kernel
theorem d_MD_isFit_43 : decode b_MD_isFit 43 = .ok (.ifCond .ne 15, 3) := by decide +kernel
theorem d_MD_isFit_46 : decode b_MD_isFit 46 = .ok (.aload_n 0, 1) := by decide +kernel
theorem d_MD_isFit_47 : decode b_MD_isFit 47 = .ok (.getfield 20, 3) := by decide +kernel
theorem d_MD_isFit_50 : decode b_MD_isFit 50 = .ok (.iload_n 3, 1) := by decide +kernel
theorem d_MD_isFit_51 : decode b_MD_isFit 51 = .ok (.iaload, 1) := by decide +kernel
theorem d_MD_isFit_52 : decode b_MD_isFit 52 = .ok (.iconst 2, 1) := by decide +kernel
theorem d_MD_isFit_53 : decode b_MD_isFit 53 = .ok (.if_icmp .ne 5, 3) := by decide +kernel
theorem d_MD_isFit_56 : decode b_MD_isFit 56 = .ok (.iconst 0, 1) := by decide +kernel
theorem d_MD_isFit_57 : decode b_MD_isFit 57 = .ok (.ireturn, 1) := by decide +kernel
theorem d_MD_isFit_58 : decode b_MD_isFit 58 = .ok (.iload_n 2, 1) := by decide +kernel
theorem d_MD_isFit_59 : decode b_MD_isFit 59 = .ok (.ifCond .ne 16, 3) := by decide +kernel
theorem d_MD_isFit_62 : decode b_MD_isFit 62 = .ok (.iload 4, 2) := by decide +kernel
theorem d_MD_isFit_64 : decode b_MD_isFit 64 = .ok (.ifCond .eq 15, 3) := by decide +kernel
theorem d_MD_isFit_67 : decode b_MD_isFit 67 = .ok (.aload_n 0, 1) := by decide +kernel
theorem d_MD_isFit_68 : decode b_MD_isFit 68 = .ok (.iload_n 3, 1) := by decide +kernel
theorem d_MD_isFit_69 : decode b_MD_isFit 69 = .ok (.invokevirtual 66, 3) := by decide +kernel
theorem d_MD_isFit_72 : decode b_MD_isFit 72 = .ok (.ifCond .eq 7, 3) := by decide +kernel
theorem d_MD_isFit_75 : decode b_MD_isFit 75 = .ok (.iconst 1, 1) := by decide +kernel
theorem d_MD_isFit_76 : decode b_MD_isFit 76 = .ok (.goto 4, 3) := by decide +kernel
theorem d_MD_isFit_79 : decode b_MD_isFit 79 = .ok (.iconst 0, 1) := by decide +kernel
theorem d_MD_isFit_80 : decode b_MD_isFit 80 = .ok (.istore_n 2, 1) := by decide +kernel
theorem d_MD_isFit_81 : decode b_MD_isFit 81 = .ok (.iinc 3 1, 3) := by decide +kernel
theorem d_MD_isFit_84 : decode b_MD_isFit 84 = .ok (.goto (-80), 3) := by decide +kernel
theorem d_MD_isFit_87 : decode b_MD_isFit 87 = .ok (.iload_n 2, 1) := by decide +kernel
theorem d_MD_isFit_88 : decode b_MD_isFit 88 = .ok (.ireturn, 1) := by decide +kernel
theorem d_MD_sumOf_0 : decode b_MD_sumOf 0 = .ok (.iconst 0, 1) := by decide +kernel
theorem d_MD_sumOf_1 : decode b_MD_sumOf 1 = .ok (.istore_n 2, 1) := by decide +kernel
theorem d_MD_sumOf_2 : decode b_MD_sumOf 2 = .ok (.iconst 0, 1) := by decide +kernel
theorem d_MD_sumOf_3 : decode b_MD_sumOf 3 = .ok (.istore_n 3, 1) := by decide +kernel
theorem d_MD_sumOf_4 : decode b_MD_sumOf 4 = .ok (.iload_n 3, 1) := by decide +kernel
theorem d_MD_sumOf_5 : decode b_MD_sumOf 5 = .ok (.bipush 12, 2) := by decide +kernel
theorem d_MD_sumOf_7 : decode b_MD_sumOf 7 = .ok (.if_icmp .ge 37, 3) := by decide +kernel
theorem d_MD_sumOf_10 : decode b_MD_sumOf 10 = .ok (.aload_n 0, 1) := by decide +kernel
theorem d_MD_sumOf_11 : decode b_MD_sumOf 11 = .ok (.iload_n 3, 1) := by decide +kernel
theorem d_MD_sumOf_12 : decode b_MD_sumOf 12 = .ok (.invokevirtual 66, 3) := by decide +kernel
theorem d_MD_sumOf_15 : decode b_MD_sumOf 15 = .ok (.ifCond .eq 21, 3) := by decide +kernel
theorem d_MD_sumOf_18 : decode b_MD_sumOf 18 = .ok (.iload_n 2, 1) := by decide +kernel
theorem d_MD_sumOf_19 : decode b_MD_sumOf 19 = .ok (.aload_n 0, 1) := by decide +kernel
theorem d_MD_sumOf_20 : decode b_MD_sumOf 20 = .ok (.getfield 23, 3) := by decide +kernel
theorem d_MD_sumOf_23 : decode b_MD_sumOf 23 = .ok (.iload_n 3, 1) := by decide +kernel
theorem d_MD_sumOf_24 : decode b_MD_sumOf 24 = .ok (.iaload, 1) := by decide +kernel
theorem d_MD_sumOf_25 : decode b_MD_sumOf 25 = .ok (.aload_n 0, 1) := by decide +kernel
theorem d_MD_sumOf_26 : decode b_MD_sumOf 26 = .ok (.iload_n 3, 1) := by decide +kernel
theorem d_MD_sumOf_27 : decode b_MD_sumOf 27 = .ok (.iload_n 1, 1) := by decide +kernel
theorem d_MD_sumOf_28 : decode b_MD_sumOf 28 = .ok (.invokevirtual 47, 3) := by decide +kernel
theorem d_MD_sumOf_31 : decode b_MD_sumOf 31 = .ok (.imul, 1) := by decide +kernel
theorem d_MD_sumOf_32 : decode b_MD_sumOf 32 = .ok (.iadd, 1) := by decide +kernel
theorem d_MD_sumOf_33 : decode b_MD_sumOf 33 = .ok (.goto 4, 3) := by decide +kernel
theorem d_MD_sumOf_36 : decode b_MD_sumOf 36 = .ok (.iload_n 2, 1) := by decide +kernel
theorem d_MD_sumOf_37 : decode b_MD_sumOf 37 = .ok (.istore_n 2, 1) := by decide +kernel
theorem d_MD_sumOf_38 : decode b_MD_sumOf 38 = .ok (.iinc 3 1, 3) := by decide +kernel
theorem d_MD_sumOf_41 : decode b_MD_sumOf 41 = .ok (.goto (-37), 3) := by decide +kernel
theorem d_MD_sumOf_44 : decode b_MD_sumOf 44 = .ok (.iload_n 2, 1) := by decide +kernel
theorem d_MD_sumOf_45 : decode b_MD_sumOf 45 = .ok (.ireturn, 1) := by decide +kernel
theorem d_MD_fits_0 : decode b_MD_fits 0 = .ok (.aload_n 0, 1) := by decide +kernel
theorem d_MD_fits_1 : decode b_MD_fits 1 = .ok (.iconst 0, 1) := by decide +kernel
theorem d_MD_fits_2 : decode b_MD_fits 2 = .ok (.putfield 1, 3) := by decide +kernel
theorem d_MD_fits_5 : decode b_MD_fits 5 = .ok (.iload_n 1, 1) := by decide +kernel
theorem d_MD_fits_6 : decode b_MD_fits 6 = .ok (.iconst 0, 1) := by decide +kernel
theorem d_MD_fits_7 : decode b_MD_fits 7 = .ok (.sipush 511, 3) := by decide +kernel
theorem d_MD_fits_10 : decode b_MD_fits 10 = .ok (.invokestatic 51, 3) := by decide +kernel
theorem d_MD_fits_13 : decode b_MD_fits 13 = .ok (.ifCond .ne 7, 3) := by decide +kernel
theorem d_MD_fits_16 : decode b_MD_fits 16 = .ok (.iconst (-1), 1) := by decide +kernel
theorem d_MD_fits_17 : decode b_MD_fits 17 = .ok (.goto 16, 3) := by decide +kernel
theorem d_MD_fits_20 : decode b_MD_fits 20 = .ok (.aload_n 0, 1) := by decide +kernel
theorem d_MD_fits_21 : decode b_MD_fits 21 = .ok (.iload_n 1, 1) := by decide +kernel
theorem d_MD_fits_22 : decode b_MD_fits 22 = .ok (.invokevirtual 70, 3) := by decide +kernel
theorem d_MD_fits_25 : decode b_MD_fits 25 = .ok (.ifCond .eq 7, 3) := by decide +kernel
theorem d_MD_fits_28 : decode b_MD_fits 28 = .ok (.iconst 1, 1) := by decide +kernel
theorem d_MD_fits_29 : decode b_MD_fits 29 = .ok (.goto 4, 3) := by decide +kernel
theorem d_MD_fits_32 : decode b_MD_fits 32 = .ok (.iconst 0, 1) := by decide +kernel
theorem d_MD_fits_33 : decode b_MD_fits 33 = .ok (.ireturn, 1) := by decide +kernel
theorem d_MD_sum_0 : decode b_MD_sum 0 = .ok (.aload_n 0, 1) := by decide +kernel
theorem d_MD_sum_1 : decode b_MD_sum 1 = .ok (.iconst 0, 1) := by decide +kernel
theorem d_MD_sum_2 : decode b_MD_sum 2 = .ok (.putfield 1, 3) := by decide +kernel
theorem d_MD_sum_5 : decode b_MD_sum 5 = .ok (.iload_n 1, 1) := by decide +kernel
theorem d_MD_sum_6 : decode b_MD_sum 6 = .ok (.iconst 0, 1) := by decide +kernel
theorem d_MD_sum_7 : decode b_MD_sum 7 = .ok (.sipush 511, 3) := by decide +kernel
theorem d_MD_sum_10 : decode b_MD_sum 10 = .ok (.invokestatic 51, 3) := by decide +kernel
theorem d_MD_sum_13 : decode b_MD_sum 13 = .ok (.ifCond .ne 7, 3) := by decide +kernel
theorem d_MD_sum_16 : decode b_MD_sum 16 = .ok (.iconst (-1), 1) := by decide +kernel
theorem d_MD_sum_17 : decode b_MD_sum 17 = .ok (.goto 8, 3) := by decide +kernel
theorem d_MD_sum_20 : decode b_MD_sum 20 = .ok (.aload_n 0, 1) := by decide +kernel
theorem d_MD_sum_21 : decode b_MD_sum 21 = .ok (.iload_n 1, 1) := by decide +kernel
theorem d_MD_sum_22 : decode b_MD_sum 22 = .ok (.invokevirtual 73, 3) := by decide +kernel
theorem d_MD_sum_25 : decode b_MD_sum 25 = .ok (.ireturn, 1) := by decide +kernel
theorem d_MD_total_0 : decode b_MD_total 0 = .ok (.aload_n 0, 1) := by decide +kernel
theorem d_MD_total_1 : decode b_MD_total 1 = .ok (.iconst 0, 1) := by decide +kernel
theorem d_MD_total_2 : decode b_MD_total 2 = .ok (.putfield 1, 3) := by decide +kernel
theorem d_MD_total_5 : decode b_MD_total 5 = .ok (.iload_n 1, 1) := by decide +kernel
theorem d_MD_total_6 : decode b_MD_total 6 = .ok (.iconst 1, 1) := by decide +kernel
theorem d_MD_total_7 : decode b_MD_total 7 = .ok (.sipush 512, 3) := by decide +kernel
theorem d_MD_total_10 : decode b_MD_total 10 = .ok (.invokestatic 51, 3) := by decide +kernel
theorem d_MD_total_13 : decode b_MD_total 13 = .ok (.ifCond .ne 5, 3) := by decide +kernel
theorem d_MD_total_16 : decode b_MD_total 16 = .ok (.iconst (-1), 1) := by decide +kernel
theorem d_MD_total_17 : decode b_MD_total 17 = .ok (.ireturn, 1) := by decide +kernel
theorem d_MD_total_18 : decode b_MD_total 18 = .ok (.iconst 0, 1) := by decide +kernel
theorem d_MD_total_19 : decode b_MD_total 19 = .ok (.istore_n 2, 1) := by decide +kernel
theorem d_MD_total_20 : decode b_MD_total 20 = .ok (.iconst 0, 1) := by decide +kernel
theorem d_MD_total_21 : decode b_MD_total 21 = .ok (.istore_n 3, 1) := by decide +kernel
theorem d_MD_total_22 : decode b_MD_total 22 = .ok (.iload_n 3, 1) := by decide +kernel
theorem d_MD_total_23 : decode b_MD_total 23 = .ok (.sipush 512, 3) := by decide +kernel
theorem d_MD_total_26 : decode b_MD_total 26 = .ok (.if_icmp .ge 30, 3) := by decide +kernel
theorem d_MD_total_29 : decode b_MD_total 29 = .ok (.iload_n 2, 1) := by decide +kernel
theorem d_MD_total_30 : decode b_MD_total 30 = .ok (.iload_n 1, 1) := by decide +kernel
theorem d_MD_total_31 : decode b_MD_total 31 = .ok (.if_icmp .ge 17, 3) := by decide +kernel
theorem d_MD_total_34 : decode b_MD_total 34 = .ok (.aload_n 0, 1) := by decide +kernel
theorem d_MD_total_35 : decode b_MD_total 35 = .ok (.iload_n 3, 1) := by decide +kernel
theorem d_MD_total_36 : decode b_MD_total 36 = .ok (.invokevirtual 70, 3) := by decide +kernel
theorem d_MD_total_39 : decode b_MD_total 39 = .ok (.ifCond .eq 9, 3) := by decide +kernel
theorem d_MD_total_42 : decode b_MD_total 42 = .ok (.iload_n 2, 1) := by decide +kernel
theorem d_MD_total_43 : decode b_MD_total 43 = .ok (.iconst 1, 1) := by decide +kernel
theorem d_MD_total_44 : decode b_MD_total 44 = .ok (.iadd, 1) := by decide +kernel
theorem d_MD_total_45 : decode b_MD_total 45 = .ok (.goto 4, 3) := by decide +kernel
theorem d_MD_total_48 : decode b_MD_total 48 = .ok (.iload_n 2, 1) := by decide +kernel
theorem d_MD_total_49 : decode b_MD_total 49 = .ok (.istore_n 2, 1) := by decide +kernel
theorem d_MD_total_50 : decode b_MD_total 50 = .ok (.iinc 3 1, 3) := by decide +kernel
theorem d_MD_total_53 : decode b_MD_total 53 = .ok (.goto (-31), 3) := by decide +kernel
theorem d_MD_total_56 : decode b_MD_total 56 = .ok (.iload_n 2, 1) := by decide +kernel
theorem d_MD_total_57 : decode b_MD_total 57 = .ok (.ireturn, 1) := by decide +kernel
