theorem d_SF_init_0 : decode b_SF_init 0 = .ok (.aload_n 0, 1) := by decide +kernel
theorem d_SF_init_1 : decode b_SF_init 1 = .ok (.invokespecial 3, 3) := by decide +kernel
theorem d_SF_init_4 : decode b_SF_init 4 = .ok (.aload_n 0, 1) := by decide +kernel
theorem d_SF_init_5 : decode b_SF_init 5 = .ok (.bipush 12, 2) := by decide +kernel
theorem d_SF_init_7 : decode b_SF_init 7 = .ok (.anewarray 9, 3) := by decide +kernel
theorem d_SF_init_10 : decode b_SF_init 10 = .ok (.putfield 11, 3) := by decide +kernel
theorem d_SF_init_13 : decode b_SF_init 13 = .ok (.aload_n 0, 1) := by decide +kernel
theorem d_SF_init_14 : decode b_SF_init 14 = .ok (.sipush 512, 3) := by decide +kernel
theorem d_SF_init_17 : decode b_SF_init 17 = .ok (.newarray .int, 2) := by decide +kernel
theorem d_SF_init_19 : decode b_SF_init 19 = .ok (.putfield 17, 3) := by decide +kernel
theorem d_SF_init_22 : decode b_SF_init 22 = .ok (.iconst 0, 1) := by decide +kernel
theorem d_SF_init_23 : decode b_SF_init 23 = .ok (.istore_n 1, 1) := by decide +kernel
theorem d_SF_init_24 : decode b_SF_init 24 = .ok (.iload_n 1, 1) := by decide +kernel
theorem d_SF_init_25 : decode b_SF_init 25 = .ok (.bipush 12, 2) := by decide +kernel
theorem d_SF_init_27 : decode b_SF_init 27 = .ok (.if_icmp .ge 22, 3) := by decide +kernel
theorem d_SF_init_30 : decode b_SF_init 30 = .ok (.aload_n 0, 1) := by decide +kernel
theorem d_SF_init_31 : decode b_SF_init 31 = .ok (.getfield 11, 3) := by decide +kernel
theorem d_SF_init_34 : decode b_SF_init 34 = .ok (.iload_n 1, 1) := by decide +kernel
theorem d_SF_init_35 : decode b_SF_init 35 = .ok (.new 9, 3) := by decide +kernel
theorem d_SF_init_38 : decode b_SF_init 38 = .ok (.dup, 1) := by decide +kernel
theorem d_SF_init_39 : decode b_SF_init 39 = .ok (.invokespecial 21, 3) := by decide +kernel
theorem d_SF_init_42 : decode b_SF_init 42 = .ok (.aastore, 1) := by decide +kernel
theorem d_SF_init_43 : decode b_SF_init 43 = .ok (.iinc 1 1, 3) := by decide +kernel
theorem d_SF_init_46 : decode b_SF_init 46 = .ok (.goto (-22), 3) := by decide +kernel
theorem d_SF_init_49 : decode b_SF_init 49 = .ok (.return_, 1) := by decide +kernel
theorem d_SF_has_0 : decode b_SF_has 0 = .ok (.iconst 0, 1) := by decide +kernel
theorem d_SF_has_1 : decode b_SF_has 1 = .ok (.istore_n 2, 1) := by decide +kernel
theorem d_SF_has_2 : decode b_SF_has 2 = .ok (.iload_n 2, 1) := by decide +kernel
theorem d_SF_has_3 : decode b_SF_has 3 = .ok (.bipush 12, 2) := by decide +kernel
theorem d_SF_has_5 : decode b_SF_has 5 = .ok (.if_icmp .ge 25, 3) := by decide +kernel
theorem d_SF_has_8 : decode b_SF_has 8 = .ok (.aload_n 0, 1) := by decide +kernel
theorem d_SF_has_9 : decode b_SF_has 9 = .ok (.getfield 11, 3) := by decide +kernel
theorem d_SF_has_12 : decode b_SF_has 12 = .ok (.iload_n 2, 1) := by decide +kernel
theorem d_SF_has_13 : decode b_SF_has 13 = .ok (.aaload, 1) := by decide +kernel
theorem d_SF_has_14 : decode b_SF_has 14 = .ok (.getfield 22, 3) := by decide +kernel
theorem d_SF_has_17 : decode b_SF_has 17 = .ok (.iload_n 1, 1) := by decide +kernel
theorem d_SF_has_18 : decode b_SF_has 18 = .ok (.iaload, 1) := by decide +kernel
theorem d_SF_has_19 : decode b_SF_has 19 = .ok (.ifCond .le 5, 3) := by decide +kernel
theorem d_SF_has_22 : decode b_SF_has 22 = .ok (.iconst 1, 1) := by decide +kernel
theorem d_SF_has_23 : decode b_SF_has 23 = .ok (.ireturn, 1) := by decide +kernel
theorem d_SF_has_24 : decode b_SF_has 24 = .ok (.iinc 2 1, 3) := by decide +kernel
theorem d_SF_has_27 : decode b_SF_has 27 = .ok (.goto (-25), 3) := by decide +kernel
theorem d_SF_has_30 : decode b_SF_has 30 = .ok (.iconst 0, 1) := by decide +kernel
theorem d_SF_has_31 : decode b_SF_has 31 = .ok (.ireturn, 1) := by decide +kernel
theorem d_SF_objectsInSomeList_0 : decode b_SF_objectsInSomeList 0 = .ok (.iconst 0, 1) := by decide +kernel
theorem d_SF_objectsInSomeList_1 : decode b_SF_objectsInSomeList 1 = .ok (.istore_n 1, 1) := by decide +kernel
theorem d_SF_objectsInSomeList_2 : decode b_SF_objectsInSomeList 2 = .ok (.iconst 0, 1) := by decide +kernel
theorem d_SF_objectsInSomeList_3 : decode b_SF_objectsInSomeList 3 = .ok (.istore_n 2, 1) := by decide +kernel
theorem d_SF_objectsInSomeList_4 : decode b_SF_objectsInSomeList 4 = .ok (.iload_n 2, 1) := by decide +kernel
theorem d_SF_objectsInSomeList_5 : decode b_SF_objectsInSomeList 5 = .ok (.sipush 512, 3) := by decide +kernel
theorem d_SF_objectsInSomeList_8 : decode b_SF_objectsInSomeList 8 = .ok (.if_icmp .ge 20, 3) := by decide +kernel
theorem d_SF_objectsInSomeList_11 : decode b_SF_objectsInSomeList 11 = .ok (.aload_n 0, 1) := by decide +kernel
theorem d_SF_objectsInSomeList_12 : decode b_SF_objectsInSomeList 12 = .ok (.iload_n 2, 1) := by decide +kernel
theorem d_SF_objectsInSomeList_13 : decode b_SF_objectsInSomeList 13 = .ok (.invokevirtual 25, 3) := by decide +kernel
theorem d_SF_objectsInSomeList_16 : decode b_SF_objectsInSomeList 16 = .ok (.ifCond .eq 6, 3) := by decide +kernel
theorem d_SF_objectsInSomeList_19 : decode b_SF_objectsInSomeList 19 = .ok (.iinc 1 1, 3) := by decide +kernel
theorem d_SF_objectsInSomeList_22 : decode b_SF_objectsInSomeList 22 = .ok (.iinc 2 1, 3) := by decide +kernel
theorem d_SF_objectsInSomeList_25 : decode b_SF_objectsInSomeList 25 = .ok (.goto (-21), 3) := by decide +kernel
theorem d_SF_objectsInSomeList_28 : decode b_SF_objectsInSomeList 28 = .ok (.iload_n 1, 1) := by decide +kernel
theorem d_SF_objectsInSomeList_29 : decode b_SF_objectsInSomeList 29 = .ok (.ireturn, 1) := by decide +kernel
theorem d_SF_greatestKeyBetween_0 : decode b_SF_greatestKeyBetween 0 = .ok (.sipush (-1001), 3) := by decide +kernel
theorem d_SF_greatestKeyBetween_3 : decode b_SF_greatestKeyBetween 3 = .ok (.istore_n 3, 1) := by decide +kernel
theorem d_SF_greatestKeyBetween_4 : decode b_SF_greatestKeyBetween 4 = .ok (.iload_n 1, 1) := by decide +kernel
theorem d_SF_greatestKeyBetween_5 : decode b_SF_greatestKeyBetween 5 = .ok (.istore 4, 2) := by decide +kernel
theorem d_SF_greatestKeyBetween_7 : decode b_SF_greatestKeyBetween 7 = .ok (.iload 4, 2) := by decide +kernel
theorem d_SF_greatestKeyBetween_9 : decode b_SF_greatestKeyBetween 9 = .ok (.iload_n 2, 1) := by decide +kernel
theorem d_SF_greatestKeyBetween_10 : decode b_SF_greatestKeyBetween 10 = .ok (.if_icmp .ge 37, 3) := by decide +kernel
theorem d_SF_greatestKeyBetween_13 : decode b_SF_greatestKeyBetween 13 = .ok (.aload_n 0, 1) := by decide +kernel
theorem d_SF_greatestKeyBetween_14 : decode b_SF_greatestKeyBetween 14 = .ok (.getfield 17, 3) := by decide +kernel
theorem d_SF_greatestKeyBetween_17 : decode b_SF_greatestKeyBetween 17 = .ok (.iload 4, 2) := by decide +kernel
theorem d_SF_greatestKeyBetween_19 : decode b_SF_greatestKeyBetween 19 = .ok (.iaload, 1) := by decide +kernel
theorem d_SF_greatestKeyBetween_20 : decode b_SF_greatestKeyBetween 20 = .ok (.iload_n 3, 1) := by decide +kernel
theorem d_SF_greatestKeyBetween_21 : decode b_SF_greatestKeyBetween 21 = .ok (.if_icmp .le 20, 3) := by decide +kernel
theorem d_SF_greatestKeyBetween_24 : decode b_SF_greatestKeyBetween 24 = .ok (.aload_n 0, 1) := by decide +kernel
theorem d_SF_greatestKeyBetween_25 : decode b_SF_greatestKeyBetween 25 = .ok (.iload 4, 2) := by decide +kernel
theorem d_SF_greatestKeyBetween_27 : decode b_SF_greatestKeyBetween 27 = .ok (.invokevirtual 25, 3) := by decide +kernel
theorem d_SF_greatestKeyBetween_30 : decode b_SF_greatestKeyBetween 30 = .ok (.ifCond .eq 11, 3) := by decide +kernel
theorem d_SF_greatestKeyBetween_33 : decode b_SF_greatestKeyBetween 33 = .ok (.aload_n 0, 1) := by decide +kernel
theorem d_SF_greatestKeyBetween_34 : decode b_SF_greatestKeyBetween 34 = .ok (.getfield 17, 3) := by decide +kernel
theorem d_SF_greatestKeyBetween_37 : decode b_SF_greatestKeyBetween 37 = .ok (.iload 4, 2) := by decide +kernel
theorem d_SF_greatestKeyBetween_39 : decode b_SF_greatestKeyBetween 39 = .ok (.iaload, 1) := by decide +kernel
theorem d_SF_greatestKeyBetween_40 : decode b_SF_greatestKeyBetween 40 = .ok (.istore_n 3, 1) := by decide +kernel
theorem d_SF_greatestKeyBetween_41 : decode b_SF_greatestKeyBetween 41 = .ok (.iinc 4 1, 3) := by decide +kernel
theorem d_SF_greatestKeyBetween_44 : decode b_SF_greatestKeyBetween 44 = .ok (.goto (-37), 3) := by decide +kernel
theorem d_SF_greatestKeyBetween_47 : decode b_SF_greatestKeyBetween 47 = .ok (.iload_n 3, 1) := by decide +kernel
theorem d_SF_greatestKeyBetween_48 : decode b_SF_greatestKeyBetween 48 = .ok (.ireturn, 1) := by decide +kernel
theorem d_BE_init_0 : decode b_BE_init 0 = .ok (.aload_n 0, 1) := by decide +kernel
theorem d_BE_init_1 : decode b_BE_init 1 = .ok (.invokespecial 3, 3) := by decide +kernel
theorem d_BE_init_4 : decode b_BE_init 4 = .ok (.new 9, 3) := by decide +kernel
theorem d_BE_init_7 : decode b_BE_init 7 = .ok (.dup, 1) := by decide +kernel
theorem d_BE_init_8 : decode b_BE_init 8 = .ok (.invokespecial 11, 3) := by decide +kernel
theorem d_BE_init_11 : decode b_BE_init 11 = .ok (.astore_n 1, 1) := by decide +kernel
theorem d_BE_init_12 : decode b_BE_init 12 = .ok (.new 12, 3) := by decide +kernel
theorem d_BE_init_15 : decode b_BE_init 15 = .ok (.dup, 1) := by decide +kernel
theorem d_BE_init_16 : decode b_BE_init 16 = .ok (.aload_n 1, 1) := by decide +kernel
theorem d_BE_init_17 : decode b_BE_init 17 = .ok (.invokespecial 14, 3) := by decide +kernel
theorem d_BE_init_20 : decode b_BE_init 20 = .ok (.astore_n 2, 1) := by decide +kernel
theorem d_BE_init_21 : decode b_BE_init 21 = .ok (.new 17, 3) := by decide +kernel
theorem d_BE_init_24 : decode b_BE_init 24 = .ok (.dup, 1) := by decide +kernel
theorem d_BE_init_25 : decode b_BE_init 25 = .ok (.invokespecial 19, 3) := by decide +kernel
theorem d_BE_init_28 : decode b_BE_init 28 = .ok (.astore_n 3, 1) := by decide +kernel
theorem d_BE_init_29 : decode b_BE_init 29 = .ok (.aload_n 0, 1) := by decide +kernel
theorem d_BE_init_30 : decode b_BE_init 30 = .ok (.aload_n 1, 1) := by decide +kernel
theorem d_BE_init_31 : decode b_BE_init 31 = .ok (.putfield 20, 3) := by decide +kernel
theorem d_BE_init_34 : decode b_BE_init 34 = .ok (.aload_n 0, 1) := by decide +kernel
theorem d_BE_init_35 : decode b_BE_init 35 = .ok (.aload_n 2, 1) := by decide +kernel
theorem d_BE_init_36 : decode b_BE_init 36 = .ok (.putfield 24, 3) := by decide +kernel
theorem d_BE_init_39 : decode b_BE_init 39 = .ok (.aload_n 0, 1) := by decide +kernel
theorem d_BE_init_40 : decode b_BE_init 40 = .ok (.aload_n 3, 1) := by decide +kernel
theorem d_BE_init_41 : decode b_BE_init 41 = .ok (.putfield 28, 3) := by decide +kernel
theorem d_BE_init_44 : decode b_BE_init 44 = .ok (.aload_n 0, 1) := by decide +kernel
theorem d_BE_init_45 : decode b_BE_init 45 = .ok (.new 32, 3) := by decide +kernel
theorem d_BE_init_48 : decode b_BE_init 48 = .ok (.dup, 1) := by decide +kernel
theorem d_BE_init_49 : decode b_BE_init 49 = .ok (.aload_n 1, 1) := by decide +kernel
theorem d_BE_init_50 : decode b_BE_init 50 = .ok (.aload_n 2, 1) := by decide +kernel
theorem d_BE_init_51 : decode b_BE_init 51 = .ok (.aload_n 3, 1) := by decide +kernel
theorem d_BE_init_52 : decode b_BE_init 52 = .ok (.invokespecial 34, 3) := by decide +kernel
theorem d_BE_init_55 : decode b_BE_init 55 = .ok (.putfield 37, 3) := by decide +kernel
theorem d_BE_init_58 : decode b_BE_init 58 = .ok (.aload_n 0, 1) := by decide +kernel
theorem d_BE_init_59 : decode b_BE_init 59 = .ok (.new 41, 3) := by decide +kernel
theorem d_BE_init_62 : decode b_BE_init 62 = .ok (.dup, 1) := by decide +kernel
theorem d_BE_init_63 : decode b_BE_init 63 = .ok (.aload_n 1, 1) := by decide +kernel
theorem d_BE_init_64 : decode b_BE_init 64 = .ok (.aload_n 2, 1) := by decide +kernel
theorem d_BE_init_65 : decode b_BE_init 65 = .ok (.aload_n 3, 1) := by decide +kernel
theorem d_BE_init_66 : decode b_BE_init 66 = .ok (.invokespecial 43, 3) := by decide +kernel
theorem d_BE_init_69 : decode b_BE_init 69 = .ok (.putfield 44, 3) := by decide +kernel
theorem d_BE_init_72 : decode b_BE_init 72 = .ok (.return_, 1) := by decide +kernel
theorem d_BE_entry_0 : decode b_BE_entry 0 = .ok (.iload_n 1, 1) := by decide +kernel
theorem d_BE_entry_1 : decode b_BE_entry 1 = .ok (.invokestatic 48, 3) := by decide +kernel
theorem d_BE_entry_4 : decode b_BE_entry 4 = .ok (.ifCond .eq 20, 3) := by decide +kernel
theorem d_BE_entry_7 : decode b_BE_entry 7 = .ok (.iload_n 2, 1) := by decide +kernel
theorem d_BE_entry_8 : decode b_BE_entry 8 = .ok (.invokestatic 52, 3) := by decide +kernel
theorem d_BE_entry_11 : decode b_BE_entry 11 = .ok (.ifCond .eq 13, 3) := by decide +kernel
theorem d_BE_entry_14 : decode b_BE_entry 14 = .ok (.iload_n 3, 1) := by decide +kernel
theorem d_BE_entry_15 : decode b_BE_entry 15 = .ok (.iconst 1, 1) := by decide +kernel
theorem d_BE_entry_16 : decode b_BE_entry 16 = .ok (.bipush 100, 2) := by decide +kernel
theorem d_BE_entry_18 : decode b_BE_entry 18 = .ok (.invokestatic 55, 3) := by decide +kernel
theorem d_BE_entry_21 : decode b_BE_entry 21 = .ok (.ifCond .ne 5, 3) := by decide +kernel
theorem d_BE_entry_24 : decode b_BE_entry 24 = .ok (.iconst (-1), 1) := by decide +kernel
theorem d_BE_entry_25 : decode b_BE_entry 25 = .ok (.ireturn, 1) := by decide +kernel
theorem d_BE_entry_26 : decode b_BE_entry 26 = .ok (.aload_n 0, 1) := by decide +kernel
theorem d_BE_entry_27 : decode b_BE_entry 27 = .ok (.getfield 20, 3) := by decide +kernel
theorem d_BE_entry_30 : decode b_BE_entry 30 = .ok (.getfield 59, 3) := by decide +kernel
theorem d_BE_entry_33 : decode b_BE_entry 33 = .ok (.iload_n 1, 1) := by decide +kernel
theorem d_BE_entry_34 : decode b_BE_entry 34 = .ok (.aaload, 1) := by decide +kernel
theorem d_BE_entry_35 : decode b_BE_entry 35 = .ok (.astore 4, 2) := by decide +kernel
theorem d_BE_entry_37 : decode b_BE_entry 37 = .ok (.aload 4, 2) := by decide +kernel
theorem d_BE_entry_39 : decode b_BE_entry 39 = .ok (.iload_n 2, 1) := by decide +kernel
theorem d_BE_entry_40 : decode b_BE_entry 40 = .ok (.iload_n 3, 1) := by decide +kernel
theorem d_BE_entry_41 : decode b_BE_entry 41 = .ok (.invokevirtual 63, 3) := by decide +kernel
theorem d_BE_entry_44 : decode b_BE_entry 44 = .ok (.ifCond .eq 11, 3) := by decide +kernel
theorem d_BE_entry_47 : decode b_BE_entry 47 = .ok (.aload 4, 2) := by decide +kernel
theorem d_BE_entry_49 : decode b_BE_entry 49 = .ok (.getfield 69, 3) := by decide +kernel
theorem d_BE_entry_52 : decode b_BE_entry 52 = .ok (.goto 5, 3) := by decide +kernel
theorem d_BE_entry_55 : decode b_BE_entry 55 = .ok (.bipush (-3), 2) := by decide +kernel
theorem d_BE_entry_57 : decode b_BE_entry 57 = .ok (.ireturn, 1) := by decide +kernel
theorem d_BE_lose_0 : decode b_BE_lose 0 = .ok (.iload_n 1, 1) := by decide +kernel
theorem d_BE_lose_1 : decode b_BE_lose 1 = .ok (.invokestatic 48, 3) := by decide +kernel
theorem d_BE_lose_4 : decode b_BE_lose 4 = .ok (.ifCond .eq 10, 3) := by decide +kernel
theorem d_BE_lose_7 : decode b_BE_lose 7 = .ok (.iload_n 2, 1) := by decide +kernel
theorem d_BE_lose_8 : decode b_BE_lose 8 = .ok (.invokestatic 52, 3) := by decide +kernel
theorem d_BE_lose_11 : decode b_BE_lose 11 = .ok (.ifCond .ne 5, 3) := by decide +kernel
theorem d_BE_lose_14 : decode b_BE_lose 14 = .ok (.iconst (-1), 1) := by decide +kernel
theorem d_BE_lose_15 : decode b_BE_lose 15 = .ok (.ireturn, 1) := by decide +kernel
theorem d_BE_lose_16 : decode b_BE_lose 16 = .ok (.aload_n 0, 1) := by decide +kernel
theorem d_BE_lose_17 : decode b_BE_lose 17 = .ok (.getfield 20, 3) := by decide +kernel
theorem d_BE_lose_20 : decode b_BE_lose 20 = .ok (.getfield 59, 3) := by decide +kernel
theorem d_BE_lose_23 : decode b_BE_lose 23 = .ok (.iload_n 1, 1) := by decide +kernel
theorem d_BE_lose_24 : decode b_BE_lose 24 = .ok (.aaload, 1) := by decide +kernel
theorem d_BE_lose_25 : decode b_BE_lose 25 = .ok (.astore_n 3, 1) := by decide +kernel
theorem d_BE_lose_26 : decode b_BE_lose 26 = .ok (.aload_n 3, 1) := by decide +kernel
theorem d_BE_lose_27 : decode b_BE_lose 27 = .ok (.iload_n 2, 1) := by decide +kernel
theorem d_BE_lose_28 : decode b_BE_lose 28 = .ok (.invokevirtual 73, 3) := by decide +kernel
theorem d_BE_lose_31 : decode b_BE_lose 31 = .ok (.ifCond .eq 10, 3) := by decide +kernel
theorem d_BE_lose_34 : decode b_BE_lose 34 = .ok (.aload_n 3, 1) := by decide +kernel
theorem d_BE_lose_35 : decode b_BE_lose 35 = .ok (.getfield 69, 3) := by decide +kernel
theorem d_BE_lose_38 : decode b_BE_lose 38 = .ok (.goto 4, 3) := by decide +kernel
theorem d_BE_lose_41 : decode b_BE_lose 41 = .ok (.iconst (-1), 1) := by decide +kernel
theorem d_BE_lose_42 : decode b_BE_lose 42 = .ok (.ireturn, 1) := by decide +kernel
theorem d_BE_key_0 : decode b_BE_key 0 = .ok (.iload_n 1, 1) := by decide +kernel
theorem d_BE_key_1 : decode b_BE_key 1 = .ok (.invokestatic 52, 3) := by decide +kernel
theorem d_BE_key_4 : decode b_BE_key 4 = .ok (.ifCond .eq 16, 3) := by decide +kernel
theorem d_BE_key_7 : decode b_BE_key 7 = .ok (.iload_n 2, 1) := by decide +kernel
theorem d_BE_key_8 : decode b_BE_key 8 = .ok (.sipush (-1000), 3) := by decide +kernel
theorem d_BE_key_11 : decode b_BE_key 11 = .ok (.sipush 1000, 3) := by decide +kernel
theorem d_BE_key_14 : decode b_BE_key 14 = .ok (.invokestatic 55, 3) := by decide +kernel
theorem d_BE_key_17 : decode b_BE_key 17 = .ok (.ifCond .ne 5, 3) := by decide +kernel
theorem d_BE_key_20 : decode b_BE_key 20 = .ok (.iconst (-1), 1) := by decide +kernel
theorem d_BE_key_21 : decode b_BE_key 21 = .ok (.ireturn, 1) := by decide +kernel
theorem d_BE_key_22 : decode b_BE_key 22 = .ok (.aload_n 0, 1) := by decide +kernel
theorem d_BE_key_23 : decode b_BE_key 23 = .ok (.getfield 20, 3) := by decide +kernel
theorem d_BE_key_26 : decode b_BE_key 26 = .ok (.getfield 76, 3) := by decide +kernel
theorem d_BE_key_29 : decode b_BE_key 29 = .ok (.iload_n 1, 1) := by decide +kernel
theorem d_BE_key_30 : decode b_BE_key 30 = .ok (.iaload, 1) := by decide +kernel
theorem d_BE_key_31 : decode b_BE_key 31 = .ok (.istore_n 3, 1) := by decide +kernel
theorem d_BE_key_32 : decode b_BE_key 32 = .ok (.aload_n 0, 1) := by decide +kernel
theorem d_BE_key_33 : decode b_BE_key 33 = .ok (.getfield 20, 3) := by decide +kernel
theorem d_BE_key_36 : decode b_BE_key 36 = .ok (.getfield 76, 3) := by decide +kernel
theorem d_BE_key_39 : decode b_BE_key 39 = .ok (.iload_n 1, 1) := by decide +kernel
theorem d_BE_key_40 : decode b_BE_key 40 = .ok (.iload_n 2, 1) := by decide +kernel
theorem d_BE_key_41 : decode b_BE_key 41 = .ok (.iastore, 1) := by decide +kernel
theorem d_BE_key_42 : decode b_BE_key 42 = .ok (.iload_n 3, 1) := by decide +kernel
theorem d_BE_key_43 : decode b_BE_key 43 = .ok (.sipush 1000, 3) := by decide +kernel
theorem d_BE_key_46 : decode b_BE_key 46 = .ok (.iadd, 1) := by decide +kernel
theorem d_BE_key_47 : decode b_BE_key 47 = .ok (.ireturn, 1) := by decide +kernel
theorem d_BE_top_0 : decode b_BE_top 0 = .ok (.iload_n 1, 1) := by decide +kernel
theorem d_BE_top_1 : decode b_BE_top 1 = .ok (.invokestatic 48, 3) := by decide +kernel
theorem d_BE_top_4 : decode b_BE_top 4 = .ok (.ifCond .ne 5, 3) := by decide +kernel
theorem d_BE_top_7 : decode b_BE_top 7 = .ok (.iconst (-1), 1) := by decide +kernel
theorem d_BE_top_8 : decode b_BE_top 8 = .ok (.ireturn, 1) := by decide +kernel
theorem d_BE_top_9 : decode b_BE_top 9 = .ok (.aload_n 0, 1) := by decide +kernel
theorem d_BE_top_10 : decode b_BE_top 10 = .ok (.getfield 20, 3) := by decide +kernel
theorem d_BE_top_13 : decode b_BE_top 13 = .ok (.getfield 59, 3) := by decide +kernel
theorem d_BE_top_16 : decode b_BE_top 16 = .ok (.iload_n 1, 1) := by decide +kernel
theorem d_BE_top_17 : decode b_BE_top 17 = .ok (.aaload, 1) := by decide +kernel
theorem d_BE_top_18 : decode b_BE_top 18 = .ok (.astore_n 3, 1) := by decide +kernel
theorem d_BE_top_19 : decode b_BE_top 19 = .ok (.iload_n 2, 1) := by decide +kernel
theorem d_BE_top_20 : decode b_BE_top 20 = .ok (.iconst (-1), 1) := by decide +kernel
theorem d_BE_top_21 : decode b_BE_top 21 = .ok (.if_icmp .ne 8, 3) := by decide +kernel
theorem d_BE_top_24 : decode b_BE_top 24 = .ok (.aload_n 3, 1) := by decide +kernel
theorem d_BE_top_25 : decode b_BE_top 25 = .ok (.invokevirtual 80, 3) := by decide +kernel
theorem d_BE_top_28 : decode b_BE_top 28 = .ok (.ireturn, 1) := by decide +kernel
theorem d_BE_top_29 : decode b_BE_top 29 = .ok (.iload_n 2, 1) := by decide +kernel
theorem d_BE_top_30 : decode b_BE_top 30 = .ok (.iconst 0, 1) := by decide +kernel
theorem d_BE_top_31 : decode b_BE_top 31 = .ok (.aload_n 3, 1) := by decide +kernel
theorem d_BE_top_32 : decode b_BE_top 32 = .ok (.invokevirtual 84, 3) := by decide +kernel
theorem d_BE_top_35 : decode b_BE_top 35 = .ok (.iconst 1, 1) := by decide +kernel
theorem d_BE_top_36 : decode b_BE_top 36 = .ok (.isub, 1) := by decide +kernel
theorem d_BE_top_37 : decode b_BE_top 37 = .ok (.invokestatic 55, 3) := by decide +kernel
theorem d_BE_top_40 : decode b_BE_top 40 = .ok (.ifCond .eq 11, 3) := by decide +kernel
theorem d_BE_top_43 : decode b_BE_top 43 = .ok (.aload_n 3, 1) := by decide +kernel
theorem d_BE_top_44 : decode b_BE_top 44 = .ok (.iload_n 2, 1) := by decide +kernel
theorem d_BE_top_45 : decode b_BE_top 45 = .ok (.invokevirtual 87, 3) := by decide +kernel
theorem d_BE_top_48 : decode b_BE_top 48 = .ok (.goto 4, 3) := by decide +kernel
theorem d_BE_top_51 : decode b_BE_top 51 = .ok (.iconst (-1), 1) := by decide +kernel
theorem d_BE_top_52 : decode b_BE_top 52 = .ok (.ireturn, 1) := by decide +kernel
theorem d_BE_ask_0 : decode b_BE_ask 0 = .ok (.iload_n 1, 1) := by decide +kernel
theorem d_BE_ask_1 : decode b_BE_ask 1 = .ok (.invokestatic 48, 3) := by decide +kernel
theorem d_BE_ask_4 : decode b_BE_ask 4 = .ok (.ifCond .eq 22, 3) := by decide +kernel
theorem d_BE_ask_7 : decode b_BE_ask 7 = .ok (.iload_n 2, 1) := by decide +kernel
theorem d_BE_ask_8 : decode b_BE_ask 8 = .ok (.iconst 0, 1) := by decide +kernel
theorem d_BE_ask_9 : decode b_BE_ask 9 = .ok (.iconst 3, 1) := by decide +kernel
theorem d_BE_ask_10 : decode b_BE_ask 10 = .ok (.invokestatic 55, 3) := by decide +kernel
theorem d_BE_ask_13 : decode b_BE_ask 13 = .ok (.ifCond .eq 13, 3) := by decide +kernel
theorem d_BE_ask_16 : decode b_BE_ask 16 = .ok (.iload_n 3, 1) := by decide +kernel
theorem d_BE_ask_17 : decode b_BE_ask 17 = .ok (.iconst 1, 1) := by decide +kernel
theorem d_BE_ask_18 : decode b_BE_ask 18 = .ok (.bipush 9, 2) := by decide +kernel
theorem d_BE_ask_20 : decode b_BE_ask 20 = .ok (.invokestatic 55, 3) := by decide +kernel
theorem d_BE_ask_23 : decode b_BE_ask 23 = .ok (.ifCond .ne 5, 3) := by decide +kernel
theorem d_BE_ask_26 : decode b_BE_ask 26 = .ok (.iconst (-1), 1) := by decide +kernel
theorem d_BE_ask_27 : decode b_BE_ask 27 = .ok (.ireturn, 1) := by decide +kernel
theorem d_BE_ask_28 : decode b_BE_ask 28 = .ok (.bipush 10, 2) := by decide +kernel
theorem d_BE_ask_30 : decode b_BE_ask 30 = .ok (.aload_n 0, 1) := by decide +kernel
theorem d_BE_ask_31 : decode b_BE_ask 31 = .ok (.getfield 24, 3) := by decide +kernel
theorem d_BE_ask_34 : decode b_BE_ask 34 = .ok (.getfield 91, 3) := by decide +kernel
theorem d_BE_ask_37 : decode b_BE_ask 37 = .ok (.iload_n 1, 1) := by decide +kernel
theorem d_BE_ask_38 : decode b_BE_ask 38 = .ok (.iaload, 1) := by decide +kernel
theorem d_BE_ask_39 : decode b_BE_ask 39 = .ok (.imul, 1) := by decide +kernel
theorem d_BE_ask_40 : decode b_BE_ask 40 = .ok (.aload_n 0, 1) := by decide +kernel
theorem d_BE_ask_41 : decode b_BE_ask 41 = .ok (.getfield 24, 3) := by decide +kernel
theorem d_BE_ask_44 : decode b_BE_ask 44 = .ok (.getfield 94, 3) := by decide +kernel
theorem d_BE_ask_47 : decode b_BE_ask 47 = .ok (.iload_n 1, 1) := by decide +kernel
theorem d_BE_ask_48 : decode b_BE_ask 48 = .ok (.iaload, 1) := by decide +kernel
theorem d_BE_ask_49 : decode b_BE_ask 49 = .ok (.iadd, 1) := by decide +kernel
theorem d_BE_ask_50 : decode b_BE_ask 50 = .ok (.istore 4, 2) := by decide +kernel
theorem d_BE_ask_52 : decode b_BE_ask 52 = .ok (.aload_n 0, 1) := by decide +kernel
theorem d_BE_ask_53 : decode b_BE_ask 53 = .ok (.getfield 24, 3) := by decide +kernel
theorem d_BE_ask_56 : decode b_BE_ask 56 = .ok (.getfield 94, 3) := by decide +kernel
theorem d_BE_ask_59 : decode b_BE_ask 59 = .ok (.iload_n 1, 1) := by decide +kernel
theorem d_BE_ask_60 : decode b_BE_ask 60 = .ok (.iload_n 2, 1) := by decide +kernel
theorem d_BE_ask_61 : decode b_BE_ask 61 = .ok (.iastore, 1) := by decide +kernel
theorem d_BE_ask_62 : decode b_BE_ask 62 = .ok (.aload_n 0, 1) := by decide +kernel
theorem d_BE_ask_63 : decode b_BE_ask 63 = .ok (.getfield 24, 3) := by decide +kernel
theorem d_BE_ask_66 : decode b_BE_ask 66 = .ok (.getfield 91, 3) := by decide +kernel
theorem d_BE_ask_69 : decode b_BE_ask 69 = .ok (.iload_n 1, 1) := by decide +kernel
theorem d_BE_ask_70 : decode b_BE_ask 70 = .ok (.iload_n 3, 1) := by decide +kernel
theorem d_BE_ask_71 : decode b_BE_ask 71 = .ok (.iastore, 1) := by decide +kernel
theorem d_BE_ask_72 : decode b_BE_ask 72 = .ok (.iload 4, 2) := by decide +kernel
theorem d_BE_ask_74 : decode b_BE_ask 74 = .ok (.ireturn, 1) := by decide +kernel
theorem d_BE_wanted_0 : decode b_BE_wanted 0 = .ok (.iload_n 1, 1) := by decide +kernel
theorem d_BE_wanted_1 : decode b_BE_wanted 1 = .ok (.iconst 1, 1) := by decide +kernel
theorem d_BE_wanted_2 : decode b_BE_wanted 2 = .ok (.bipush 20, 2) := by decide +kernel
theorem d_BE_wanted_4 : decode b_BE_wanted 4 = .ok (.invokestatic 55, 3) := by decide +kernel
theorem d_BE_wanted_7 : decode b_BE_wanted 7 = .ok (.ifCond .ne 5, 3) := by decide +kernel
theorem d_BE_wanted_10 : decode b_BE_wanted 10 = .ok (.iconst (-1), 1) := by decide +kernel
theorem d_BE_wanted_11 : decode b_BE_wanted 11 = .ok (.ireturn, 1) := by decide +kernel
theorem d_BE_wanted_12 : decode b_BE_wanted 12 = .ok (.aload_n 0, 1) := by decide +kernel
theorem d_BE_wanted_13 : decode b_BE_wanted 13 = .ok (.getfield 24, 3) := by decide +kernel
theorem d_BE_wanted_16 : decode b_BE_wanted 16 = .ok (.getfield 97, 3) := by decide +kernel
theorem d_BE_wanted_19 : decode b_BE_wanted 19 = .ok (.istore_n 2, 1) := by decide +kernel
theorem d_BE_wanted_20 : decode b_BE_wanted 20 = .ok (.aload_n 0, 1) := by decide +kernel
theorem d_BE_wanted_21 : decode b_BE_wanted 21 = .ok (.getfield 24, 3) := by decide +kernel
theorem d_BE_wanted_24 : decode b_BE_wanted 24 = .ok (.iload_n 1, 1) := by decide +kernel
theorem d_BE_wanted_25 : decode b_BE_wanted 25 = .ok (.putfield 97, 3) := by decide +kernel
theorem d_BE_wanted_28 : decode b_BE_wanted 28 = .ok (.iload_n 2, 1) := by decide +kernel
theorem d_BE_wanted_29 : decode b_BE_wanted 29 = .ok (.ireturn, 1) := by decide +kernel
theorem d_BE_place_0 : decode b_BE_place 0 = .ok (.iload_n 1, 1) := by decide +kernel
theorem d_BE_place_1 : decode b_BE_place 1 = .ok (.iconst (-1), 1) := by decide +kernel
theorem d_BE_place_2 : decode b_BE_place 2 = .ok (.if_icmp .ne 7, 3) := by decide +kernel
theorem d_BE_place_5 : decode b_BE_place 5 = .ok (.iconst 1, 1) := by decide +kernel
theorem d_BE_place_6 : decode b_BE_place 6 = .ok (.goto 4, 3) := by decide +kernel
theorem d_BE_place_9 : decode b_BE_place 9 = .ok (.iconst 0, 1) := by decide +kernel
theorem d_BE_place_10 : decode b_BE_place 10 = .ok (.istore_n 3, 1) := by decide +kernel
theorem d_BE_place_11 : decode b_BE_place 11 = .ok (.iload_n 3, 1) := by decide +kernel
theorem d_BE_place_12 : decode b_BE_place 12 = .ok (.ifCond .ne 23, 3) := by decide +kernel
theorem d_BE_place_15 : decode b_BE_place 15 = .ok (.iload_n 1, 1) := by decide +kernel
theorem d_BE_place_16 : decode b_BE_place 16 = .ok (.iconst 0, 1) := by decide +kernel
theorem d_BE_place_17 : decode b_BE_place 17 = .ok (.sipush 10800, 3) := by decide +kernel
theorem d_BE_place_20 : decode b_BE_place 20 = .ok (.invokestatic 55, 3) := by decide +kernel
theorem d_BE_place_23 : decode b_BE_place 23 = .ok (.ifCond .eq 10, 3) := by decide +kernel
theorem d_BE_place_26 : decode b_BE_place 26 = .ok (.iload_n 2, 1) := by decide +kernel
theorem d_BE_place_27 : decode b_BE_place 27 = .ok (.invokestatic 52, 3) := by decide +kernel
theorem d_BE_place_30 : decode b_BE_place 30 = .ok (.ifCond .ne 5, 3) := by decide +kernel
theorem d_BE_place_33 : decode b_BE_place 33 = .ok (.iconst (-1), 1) := by decide +kernel
theorem d_BE_place_34 : decode b_BE_place 34 = .ok (.ireturn, 1) := by decide +kernel
theorem d_BE_place_35 : decode b_BE_place 35 = .ok (.aload_n 0, 1) := by decide +kernel
theorem d_BE_place_36 : decode b_BE_place 36 = .ok (.getfield 24, 3) := by decide +kernel
theorem d_BE_place_39 : decode b_BE_place 39 = .ok (.getfield 100, 3) := by decide +kernel
theorem d_BE_place_42 : decode b_BE_place 42 = .ok (.ifCond .eq 7, 3) := by decide +kernel
theorem d_BE_place_45 : decode b_BE_place 45 = .ok (.iconst 1, 1) := by decide +kernel
theorem d_BE_place_46 : decode b_BE_place 46 = .ok (.goto 4, 3) := by decide +kernel
theorem d_BE_place_49 : decode b_BE_place 49 = .ok (.iconst 0, 1) := by decide +kernel
theorem d_BE_place_50 : decode b_BE_place 50 = .ok (.istore 4, 2) := by decide +kernel
theorem d_BE_place_52 : decode b_BE_place 52 = .ok (.aload_n 0, 1) := by decide +kernel
theorem d_BE_place_53 : decode b_BE_place 53 = .ok (.getfield 24, 3) := by decide +kernel
theorem d_BE_place_56 : decode b_BE_place 56 = .ok (.iload_n 3, 1) := by decide +kernel
theorem d_BE_place_57 : decode b_BE_place 57 = .ok (.ifCond .ne 7, 3) := by decide +kernel
theorem d_BE_place_60 : decode b_BE_place 60 = .ok (.iconst 1, 1) := by decide +kernel
theorem d_BE_place_61 : decode b_BE_place 61 = .ok (.goto 4, 3) := by decide +kernel
theorem d_BE_place_64 : decode b_BE_place 64 = .ok (.iconst 0, 1) := by decide +kernel
theorem d_BE_place_65 : decode b_BE_place 65 = .ok (.putfield 100, 3) := by decide +kernel
theorem d_BE_place_68 : decode b_BE_place 68 = .ok (.aload_n 0, 1) := by decide +kernel
theorem d_BE_place_69 : decode b_BE_place 69 = .ok (.getfield 24, 3) := by decide +kernel
theorem d_BE_place_72 : decode b_BE_place 72 = .ok (.iload_n 1, 1) := by decide +kernel
theorem d_BE_place_73 : decode b_BE_place 73 = .ok (.putfield 104, 3) := by decide +kernel
theorem d_BE_place_76 : decode b_BE_place 76 = .ok (.aload_n 0, 1) := by decide +kernel
theorem d_BE_place_77 : decode b_BE_place 77 = .ok (.getfield 24, 3) := by decide +kernel
theorem d_BE_place_80 : decode b_BE_place 80 = .ok (.iload_n 2, 1) := by decide +kernel
theorem d_BE_place_81 : decode b_BE_place 81 = .ok (.putfield 107, 3) := by decide +kernel
theorem d_BE_place_84 : decode b_BE_place 84 = .ok (.iload 4, 2) := by decide +kernel
theorem d_BE_place_86 : decode b_BE_place 86 = .ok (.ireturn, 1) := by decide +kernel
theorem d_BE_fits_0 : decode b_BE_fits 0 = .ok (.iload_n 1, 1) := by decide +kernel
theorem d_BE_fits_1 : decode b_BE_fits 1 = .ok (.invokestatic 52, 3) := by decide +kernel
theorem d_BE_fits_4 : decode b_BE_fits 4 = .ok (.ifCond .ne 5, 3) := by decide +kernel
theorem d_BE_fits_7 : decode b_BE_fits 7 = .ok (.iconst (-1), 1) := by decide +kernel
theorem d_BE_fits_8 : decode b_BE_fits 8 = .ok (.ireturn, 1) := by decide +kernel
theorem d_BE_fits_9 : decode b_BE_fits 9 = .ok (.aload_n 0, 1) := by decide +kernel
theorem d_BE_fits_10 : decode b_BE_fits 10 = .ok (.getfield 24, 3) := by decide +kernel
theorem d_BE_fits_13 : decode b_BE_fits 13 = .ok (.iload_n 1, 1) := by decide +kernel
theorem d_BE_fits_14 : decode b_BE_fits 14 = .ok (.invokevirtual 110, 3) := by decide +kernel
theorem d_BE_fits_17 : decode b_BE_fits 17 = .ok (.ifCond .eq 7, 3) := by decide +kernel
theorem d_BE_fits_20 : decode b_BE_fits 20 = .ok (.iconst 1, 1) := by decide +kernel
theorem d_BE_fits_21 : decode b_BE_fits 21 = .ok (.goto 4, 3) := by decide +kernel
theorem d_BE_fits_24 : decode b_BE_fits 24 = .ok (.iconst 0, 1) := by decide +kernel
theorem d_BE_fits_25 : decode b_BE_fits 25 = .ok (.ireturn, 1) := by decide +kernel
theorem d_BE_sum_0 : decode b_BE_sum 0 = .ok (.iload_n 1, 1) := by decide +kernel
theorem d_BE_sum_1 : decode b_BE_sum 1 = .ok (.invokestatic 52, 3) := by decide +kernel
theorem d_BE_sum_4 : decode b_BE_sum 4 = .ok (.ifCond .eq 14, 3) := by decide +kernel
theorem d_BE_sum_7 : decode b_BE_sum 7 = .ok (.aload_n 0, 1) := by decide +kernel
theorem d_BE_sum_8 : decode b_BE_sum 8 = .ok (.getfield 24, 3) := by decide +kernel
theorem d_BE_sum_11 : decode b_BE_sum 11 = .ok (.iload_n 1, 1) := by decide +kernel
theorem d_BE_sum_12 : decode b_BE_sum 12 = .ok (.invokevirtual 113, 3) := by decide +kernel
theorem d_BE_sum_15 : decode b_BE_sum 15 = .ok (.goto 4, 3) := by decide +kernel
theorem d_BE_sum_18 : decode b_BE_sum 18 = .ok (.iconst (-1), 1) := by decide +kernel
theorem d_BE_sum_19 : decode b_BE_sum 19 = .ok (.ireturn, 1) := by decide +kernel
theorem d_BE_total_0 : decode b_BE_total 0 = .ok (.iload_n 1, 1) := by decide +kernel
theorem d_BE_total_1 : decode b_BE_total 1 = .ok (.iconst 1, 1) := by decide +kernel
theorem d_BE_total_2 : decode b_BE_total 2 = .ok (.sipush 512, 3) := by decide +kernel
theorem d_BE_total_5 : decode b_BE_total 5 = .ok (.invokestatic 55, 3) := by decide +kernel
theorem d_BE_total_8 : decode b_BE_total 8 = .ok (.ifCond .ne 5, 3) := by decide +kernel
theorem d_BE_total_11 : decode b_BE_total 11 = .ok (.iconst (-1), 1) := by decide +kernel
theorem d_BE_total_12 : decode b_BE_total 12 = .ok (.ireturn, 1) := by decide +kernel
theorem d_BE_total_13 : decode b_BE_total 13 = .ok (.iconst 0, 1) := by decide +kernel
theorem d_BE_total_14 : decode b_BE_total 14 = .ok (.istore_n 2, 1) := by decide +kernel
theorem d_BE_total_15 : decode b_BE_total 15 = .ok (.iconst 0, 1) := by decide +kernel
theorem d_BE_total_16 : decode b_BE_total 16 = .ok (.istore_n 3, 1) := by decide +kernel
theorem d_BE_total_17 : decode b_BE_total 17 = .ok (.iload_n 3, 1) := by decide +kernel
theorem d_BE_total_18 : decode b_BE_total 18 = .ok (.sipush 512, 3) := by decide +kernel
theorem d_BE_total_21 : decode b_BE_total 21 = .ok (.if_icmp .ge 28, 3) := by decide +kernel
theorem d_BE_total_24 : decode b_BE_total 24 = .ok (.iload_n 2, 1) := by decide +kernel
theorem d_BE_total_25 : decode b_BE_total 25 = .ok (.iload_n 1, 1) := by decide +kernel
theorem d_BE_total_26 : decode b_BE_total 26 = .ok (.if_icmp .ge 23, 3) := by decide +kernel
theorem d_BE_total_29 : decode b_BE_total 29 = .ok (.aload_n 0, 1) := by decide +kernel
theorem d_BE_total_30 : decode b_BE_total 30 = .ok (.getfield 24, 3) := by decide +kernel
theorem d_BE_total_33 : decode b_BE_total 33 = .ok (.iload_n 3, 1) := by decide +kernel
theorem d_BE_total_34 : decode b_BE_total 34 = .ok (.invokevirtual 110, 3) := by decide +kernel
theorem d_BE_total_37 : decode b_BE_total 37 = .ok (.ifCond .eq 6, 3) := by decide +kernel
theorem d_BE_total_40 : decode b_BE_total 40 = .ok (.iinc 2 1, 3) := by decide +kernel
theorem d_BE_total_43 : decode b_BE_total 43 = .ok (.iinc 3 1, 3) := by decide +kernel
theorem d_BE_total_46 : decode b_BE_total 46 = .ok (.goto (-29), 3) := by decide +kernel
theorem d_BE_total_49 : decode b_BE_total 49 = .ok (.iload_n 2, 1) := by decide +kernel
theorem d_BE_total_50 : decode b_BE_total 50 = .ok (.ireturn, 1) := by decide +kernel
