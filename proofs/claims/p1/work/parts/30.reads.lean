theorem dX6_partyOf_0 : decode cX6_partyOf 0 = .ok (.iload_n 1, 1) := by decide +kernel
theorem dX6_partyOf_1 : decode cX6_partyOf 1 = .ok (.aload_n 0, 1) := by decide +kernel
theorem dX6_partyOf_2 : decode cX6_partyOf 2 = .ok (.getfield 58, 3) := by decide +kernel
theorem dX6_partyOf_5 : decode cX6_partyOf 5 = .ok (.invokestatic 77, 3) := by decide +kernel
theorem dX6_partyOf_8 : decode cX6_partyOf 8 = .ok (.ifCond .eq 21, 3) := by decide +kernel
theorem dX6_partyOf_29 : decode cX6_partyOf 29 = .ok (.aconst_null, 1) := by decide +kernel
theorem dX6_partyOf_30 : decode cX6_partyOf 30 = .ok (.areturn, 1) := by decide +kernel
theorem dX6_canPass_0 : decode cX6_canPass 0 = .ok (.iload_n 1, 1) := by decide +kernel
theorem dX6_canPass_1 : decode cX6_canPass 1 = .ok (.iconst 1, 1) := by decide +kernel
theorem dX6_canPass_2 : decode cX6_canPass 2 = .ok (.if_icmp .lt 25, 3) := by decide +kernel
theorem dX6_canPass_27 : decode cX6_canPass 27 = .ok (.iconst 0, 1) := by decide +kernel
theorem dX6_canPass_28 : decode cX6_canPass 28 = .ok (.ireturn, 1) := by decide +kernel
theorem dX6_canPass_5 : decode cX6_canPass 5 = .ok (.iload_n 1, 1) := by decide +kernel
theorem dX6_canPass_6 : decode cX6_canPass 6 = .ok (.bipush 50, 2) := by decide +kernel
theorem dX6_canPass_8 : decode cX6_canPass 8 = .ok (.if_icmp .gt 19, 3) := by decide +kernel
theorem dX6_canPass_11 : decode cX6_canPass 11 = .ok (.aload_n 0, 1) := by decide +kernel
theorem dX6_canPass_12 : decode cX6_canPass 12 = .ok (.getfield 51, 3) := by decide +kernel
theorem dX6_canPass_15 : decode cX6_canPass 15 = .ok (.iload_n 1, 1) := by decide +kernel
theorem dX6_canPass_16 : decode cX6_canPass 16 = .ok (.iadd, 1) := by decide +kernel
theorem dX6_canPass_17 : decode cX6_canPass 17 = .ok (.sipush 400, 3) := by decide +kernel
theorem dX6_canPass_20 : decode cX6_canPass 20 = .ok (.if_icmp .gt 7, 3) := by decide +kernel
theorem dX6_canPass_23 : decode cX6_canPass 23 = .ok (.iconst 1, 1) := by decide +kernel
theorem dX6_canPass_24 : decode cX6_canPass 24 = .ok (.goto 4, 3) := by decide +kernel
theorem dX0_kept_0 : decode cX0_kept 0 = .ok (.aload_n 0, 1) := by decide +kernel
theorem dX0_kept_1 : decode cX0_kept 1 = .ok (.getfield 15, 3) := by decide +kernel
theorem dX0_kept_4 : decode cX0_kept 4 = .ok (.sipush 600, 3) := by decide +kernel
theorem dX0_kept_7 : decode cX0_kept 7 = .ok (.invokestatic 29, 3) := by decide +kernel
theorem dX0_kept_10 : decode cX0_kept 10 = .ok (.ireturn, 1) := by decide +kernel
theorem dX6_isHungryOfThoseIn_0 : decode cX6_isHungryOfThoseIn 0 = .ok (.iconst 0, 1) := by decide +kernel
theorem dX6_isHungryOfThoseIn_1 : decode cX6_isHungryOfThoseIn 1 = .ok (.istore_n 2, 1) := by decide +kernel
theorem dX6_isHungryOfThoseIn_2 : decode cX6_isHungryOfThoseIn 2 = .ok (.iconst 0, 1) := by decide +kernel
theorem dX6_isHungryOfThoseIn_3 : decode cX6_isHungryOfThoseIn 3 = .ok (.istore_n 3, 1) := by decide +kernel
theorem dX6_isHungryOfThoseIn_4 : decode cX6_isHungryOfThoseIn 4 = .ok (.iload_n 3, 1) := by decide +kernel
theorem dX6_isHungryOfThoseIn_5 : decode cX6_isHungryOfThoseIn 5 = .ok (.aload_n 0, 1) := by decide +kernel
theorem dX6_isHungryOfThoseIn_6 : decode cX6_isHungryOfThoseIn 6 = .ok (.getfield 58, 3) := by decide +kernel
theorem dX6_isHungryOfThoseIn_9 : decode cX6_isHungryOfThoseIn 9 = .ok (.if_icmp .ge 49, 3) := by decide +kernel
theorem dX6_isHungryOfThoseIn_58 : decode cX6_isHungryOfThoseIn 58 = .ok (.iload_n 2, 1) := by decide +kernel
theorem dX6_isHungryOfThoseIn_59 : decode cX6_isHungryOfThoseIn 59 = .ok (.ireturn, 1) := by decide +kernel
theorem dX6_lostParties_0 : decode cX6_lostParties 0 = .ok (.iconst 0, 1) := by decide +kernel
theorem dX6_lostParties_1 : decode cX6_lostParties 1 = .ok (.istore_n 1, 1) := by decide +kernel
theorem dX6_lostParties_2 : decode cX6_lostParties 2 = .ok (.iconst 0, 1) := by decide +kernel
theorem dX6_lostParties_3 : decode cX6_lostParties 3 = .ok (.istore_n 2, 1) := by decide +kernel
theorem dX6_lostParties_4 : decode cX6_lostParties 4 = .ok (.iload_n 2, 1) := by decide +kernel
theorem dX6_lostParties_5 : decode cX6_lostParties 5 = .ok (.aload_n 0, 1) := by decide +kernel
theorem dX6_lostParties_6 : decode cX6_lostParties 6 = .ok (.getfield 58, 3) := by decide +kernel
theorem dX6_lostParties_9 : decode cX6_lostParties 9 = .ok (.if_icmp .ge 35, 3) := by decide +kernel
theorem dX6_lostParties_44 : decode cX6_lostParties 44 = .ok (.iload_n 1, 1) := by decide +kernel
theorem dX6_lostParties_45 : decode cX6_lostParties 45 = .ok (.ireturn, 1) := by decide +kernel
theorem dX6_landed_0 : decode cX6_landed 0 = .ok (.iconst 0, 1) := by decide +kernel
theorem dX6_landed_1 : decode cX6_landed 1 = .ok (.istore_n 1, 1) := by decide +kernel
theorem dX6_landed_2 : decode cX6_landed 2 = .ok (.iconst 0, 1) := by decide +kernel
theorem dX6_landed_3 : decode cX6_landed 3 = .ok (.istore_n 2, 1) := by decide +kernel
theorem dX6_landed_4 : decode cX6_landed 4 = .ok (.iload_n 2, 1) := by decide +kernel
theorem dX6_landed_5 : decode cX6_landed 5 = .ok (.aload_n 0, 1) := by decide +kernel
theorem dX6_landed_6 : decode cX6_landed 6 = .ok (.getfield 55, 3) := by decide +kernel
theorem dX6_landed_9 : decode cX6_landed 9 = .ok (.if_icmp .ge 24, 3) := by decide +kernel
theorem dX6_landed_33 : decode cX6_landed 33 = .ok (.iload_n 1, 1) := by decide +kernel
theorem dX6_landed_34 : decode cX6_landed 34 = .ok (.ireturn, 1) := by decide +kernel
theorem dX6_eaten_0 : decode cX6_eaten 0 = .ok (.iconst 0, 1) := by decide +kernel
theorem dX6_eaten_1 : decode cX6_eaten 1 = .ok (.istore_n 1, 1) := by decide +kernel
theorem dX6_eaten_2 : decode cX6_eaten 2 = .ok (.iconst 0, 1) := by decide +kernel
theorem dX6_eaten_3 : decode cX6_eaten 3 = .ok (.istore_n 2, 1) := by decide +kernel
theorem dX6_eaten_4 : decode cX6_eaten 4 = .ok (.iload_n 2, 1) := by decide +kernel
theorem dX6_eaten_5 : decode cX6_eaten 5 = .ok (.aload_n 0, 1) := by decide +kernel
theorem dX6_eaten_6 : decode cX6_eaten 6 = .ok (.getfield 58, 3) := by decide +kernel
theorem dX6_eaten_9 : decode cX6_eaten 9 = .ok (.if_icmp .ge 27, 3) := by decide +kernel
theorem dX6_eaten_36 : decode cX6_eaten 36 = .ok (.iload_n 1, 1) := by decide +kernel
theorem dX6_eaten_37 : decode cX6_eaten 37 = .ok (.ireturn, 1) := by decide +kernel
theorem dX6_partiesAt_0 : decode cX6_partiesAt 0 = .ok (.iconst 0, 1) := by decide +kernel
theorem dX6_partiesAt_1 : decode cX6_partiesAt 1 = .ok (.istore_n 2, 1) := by decide +kernel
theorem dX6_partiesAt_2 : decode cX6_partiesAt 2 = .ok (.iconst 0, 1) := by decide +kernel
theorem dX6_partiesAt_3 : decode cX6_partiesAt 3 = .ok (.istore_n 3, 1) := by decide +kernel
theorem dX6_partiesAt_4 : decode cX6_partiesAt 4 = .ok (.iload_n 3, 1) := by decide +kernel
theorem dX6_partiesAt_5 : decode cX6_partiesAt 5 = .ok (.aload_n 0, 1) := by decide +kernel
theorem dX6_partiesAt_6 : decode cX6_partiesAt 6 = .ok (.getfield 58, 3) := by decide +kernel
theorem dX6_partiesAt_9 : decode cX6_partiesAt 9 = .ok (.if_icmp .ge 48, 3) := by decide +kernel
theorem dX6_partiesAt_57 : decode cX6_partiesAt 57 = .ok (.iload_n 2, 1) := by decide +kernel
theorem dX6_partiesAt_58 : decode cX6_partiesAt 58 = .ok (.ireturn, 1) := by decide +kernel
theorem dX6_letterAt_0 : decode cX6_letterAt 0 = .ok (.iload_n 1, 1) := by decide +kernel
theorem dX6_letterAt_1 : decode cX6_letterAt 1 = .ok (.bipush 16, 2) := by decide +kernel
theorem dX6_letterAt_3 : decode cX6_letterAt 3 = .ok (.invokestatic 77, 3) := by decide +kernel
theorem dX6_letterAt_6 : decode cX6_letterAt 6 = .ok (.ifCond .eq 12, 3) := by decide +kernel
theorem dX6_letterAt_18 : decode cX6_letterAt 18 = .ok (.iconst (-1), 1) := by decide +kernel
theorem dX6_letterAt_19 : decode cX6_letterAt 19 = .ok (.ireturn, 1) := by decide +kernel
theorem dX6_letterAt_9 : decode cX6_letterAt 9 = .ok (.aload_n 0, 1) := by decide +kernel
theorem dX6_letterAt_10 : decode cX6_letterAt 10 = .ok (.getfield 29, 3) := by decide +kernel
theorem dX6_letterAt_13 : decode cX6_letterAt 13 = .ok (.iload_n 1, 1) := by decide +kernel
theorem dX6_letterAt_14 : decode cX6_letterAt 14 = .ok (.iaload, 1) := by decide +kernel
theorem dX6_letterAt_15 : decode cX6_letterAt 15 = .ok (.goto 4, 3) := by decide +kernel
theorem dX4_firstLot_0 : decode cX4_firstLot 0 = .ok (.iload_n 1, 1) := by decide +kernel
theorem dX4_firstLot_1 : decode cX4_firstLot 1 = .ok (.bipush 22, 2) := by decide +kernel
theorem dX4_firstLot_3 : decode cX4_firstLot 3 = .ok (.invokestatic 49, 3) := by decide +kernel
theorem dX4_firstLot_6 : decode cX4_firstLot 6 = .ok (.ifCond .eq 12, 3) := by decide +kernel
theorem dX4_firstLot_18 : decode cX4_firstLot 18 = .ok (.iconst (-1), 1) := by decide +kernel
theorem dX4_firstLot_19 : decode cX4_firstLot 19 = .ok (.istore_n 2, 1) := by decide +kernel
theorem dX4_firstLot_20 : decode cX4_firstLot 20 = .ok (.iload_n 2, 1) := by decide +kernel
theorem dX4_firstLot_21 : decode cX4_firstLot 21 = .ok (.aload_n 0, 1) := by decide +kernel
theorem dX4_firstLot_22 : decode cX4_firstLot 22 = .ok (.getfield 46, 3) := by decide +kernel
theorem dX4_firstLot_25 : decode cX4_firstLot 25 = .ok (.invokestatic 49, 3) := by decide +kernel
theorem dX4_firstLot_28 : decode cX4_firstLot 28 = .ok (.ifCond .eq 12, 3) := by decide +kernel
theorem dX4_firstLot_40 : decode cX4_firstLot 40 = .ok (.iconst (-1), 1) := by decide +kernel
theorem dX4_firstLot_41 : decode cX4_firstLot 41 = .ok (.ireturn, 1) := by decide +kernel
theorem dX4_firstLot_9 : decode cX4_firstLot 9 = .ok (.aload_n 0, 1) := by decide +kernel
theorem dX4_firstLot_10 : decode cX4_firstLot 10 = .ok (.getfield 9, 3) := by decide +kernel
theorem dX4_firstLot_13 : decode cX4_firstLot 13 = .ok (.iload_n 1, 1) := by decide +kernel
theorem dX4_firstLot_14 : decode cX4_firstLot 14 = .ok (.iaload, 1) := by decide +kernel
theorem dX4_firstLot_15 : decode cX4_firstLot 15 = .ok (.goto 4, 3) := by decide +kernel
theorem dX4_amountIn_0 : decode cX4_amountIn 0 = .ok (.iconst 0, 1) := by decide +kernel
theorem dX4_amountIn_1 : decode cX4_amountIn 1 = .ok (.istore_n 3, 1) := by decide +kernel
theorem dX4_amountIn_2 : decode cX4_amountIn 2 = .ok (.iload_n 1, 1) := by decide +kernel
theorem dX4_amountIn_3 : decode cX4_amountIn 3 = .ok (.istore 4, 2) := by decide +kernel
theorem dX4_amountIn_5 : decode cX4_amountIn 5 = .ok (.iload 4, 2) := by decide +kernel
theorem dX4_amountIn_7 : decode cX4_amountIn 7 = .ok (.iload_n 2, 1) := by decide +kernel
theorem dX4_amountIn_8 : decode cX4_amountIn 8 = .ok (.if_icmp .ge 18, 3) := by decide +kernel
theorem dX4_amountIn_26 : decode cX4_amountIn 26 = .ok (.iload_n 3, 1) := by decide +kernel
theorem dX4_amountIn_27 : decode cX4_amountIn 27 = .ok (.ireturn, 1) := by decide +kernel
theorem dX4_amountIn_11 : decode cX4_amountIn 11 = .ok (.iload_n 3, 1) := by decide +kernel
theorem dX4_amountIn_12 : decode cX4_amountIn 12 = .ok (.aload_n 0, 1) := by decide +kernel
theorem dX4_amountIn_13 : decode cX4_amountIn 13 = .ok (.iload 4, 2) := by decide +kernel
theorem dX4_amountIn_15 : decode cX4_amountIn 15 = .ok (.invokevirtual 53, 3) := by decide +kernel
theorem dX4_amountIn_18 : decode cX4_amountIn 18 = .ok (.iadd, 1) := by decide +kernel
theorem dX4_amountIn_19 : decode cX4_amountIn 19 = .ok (.istore_n 3, 1) := by decide +kernel
theorem dX4_amountIn_20 : decode cX4_amountIn 20 = .ok (.iinc 4 1, 3) := by decide +kernel
theorem dX4_amountIn_23 : decode cX4_amountIn 23 = .ok (.goto (-18), 3) := by decide +kernel
theorem dX6_inStores_0 : decode cX6_inStores 0 = .ok (.aload_n 0, 1) := by decide +kernel
theorem dX6_inStores_1 : decode cX6_inStores 1 = .ok (.getfield 12, 3) := by decide +kernel
theorem dX6_inStores_4 : decode cX6_inStores 4 = .ok (.iconst 0, 1) := by decide +kernel
theorem dX6_inStores_5 : decode cX6_inStores 5 = .ok (.bipush 16, 2) := by decide +kernel
theorem dX6_inStores_7 : decode cX6_inStores 7 = .ok (.invokevirtual 142, 3) := by decide +kernel
theorem dX6_inStores_10 : decode cX6_inStores 10 = .ok (.ireturn, 1) := by decide +kernel
theorem dX6_carried_0 : decode cX6_carried 0 = .ok (.aload_n 0, 1) := by decide +kernel
theorem dX6_carried_1 : decode cX6_carried 1 = .ok (.getfield 12, 3) := by decide +kernel
theorem dX6_carried_4 : decode cX6_carried 4 = .ok (.bipush 16, 2) := by decide +kernel
theorem dX6_carried_6 : decode cX6_carried 6 = .ok (.bipush 22, 2) := by decide +kernel
theorem dX6_carried_8 : decode cX6_carried 8 = .ok (.invokevirtual 142, 3) := by decide +kernel
theorem dX6_carried_11 : decode cX6_carried 11 = .ok (.ireturn, 1) := by decide +kernel
theorem dX0_number_0 : decode cX0_number 0 = .ok (.iload_n 1, 1) := by decide +kernel
theorem dX0_number_1 : decode cX0_number 1 = .ok (.aload_n 0, 1) := by decide +kernel
theorem dX0_number_2 : decode cX0_number 2 = .ok (.invokevirtual 19, 3) := by decide +kernel
theorem dX0_number_5 : decode cX0_number 5 = .ok (.invokestatic 35, 3) := by decide +kernel
theorem dX0_number_8 : decode cX0_number 8 = .ok (.ifCond .eq 26, 3) := by decide +kernel
theorem dX0_number_34 : decode cX0_number 34 = .ok (.iconst (-1), 1) := by decide +kernel
theorem dX0_number_35 : decode cX0_number 35 = .ok (.ireturn, 1) := by decide +kernel
theorem dX7_isCarryOfNeed_0 : decode cX7_isCarryOfNeed 0 = .ok (.iload_n 0, 1) := by decide +kernel
theorem dX7_isCarryOfNeed_1 : decode cX7_isCarryOfNeed 1 = .ok (.iconst 3, 1) := by decide +kernel
theorem dX7_isCarryOfNeed_2 : decode cX7_isCarryOfNeed 2 = .ok (.if_icmp .lt 14, 3) := by decide +kernel
theorem dX7_isCarryOfNeed_16 : decode cX7_isCarryOfNeed 16 = .ok (.iconst 0, 1) := by decide +kernel
theorem dX7_isCarryOfNeed_17 : decode cX7_isCarryOfNeed 17 = .ok (.ireturn, 1) := by decide +kernel
theorem dX7_isCarryOfNeed_5 : decode cX7_isCarryOfNeed 5 = .ok (.iload_n 0, 1) := by decide +kernel
theorem dX7_isCarryOfNeed_6 : decode cX7_isCarryOfNeed 6 = .ok (.sipush 200, 3) := by decide +kernel
theorem dX7_isCarryOfNeed_9 : decode cX7_isCarryOfNeed 9 = .ok (.if_icmp .gt 7, 3) := by decide +kernel
theorem dX7_isCarryOfNeed_12 : decode cX7_isCarryOfNeed 12 = .ok (.iconst 1, 1) := by decide +kernel
theorem dX7_isCarryOfNeed_13 : decode cX7_isCarryOfNeed 13 = .ok (.goto 4, 3) := by decide +kernel
theorem dX7_needBehind_0 : decode cX7_needBehind 0 = .ok (.iconst 1, 1) := by decide +kernel
theorem dX7_needBehind_1 : decode cX7_needBehind 1 = .ok (.iload_n 1, 1) := by decide +kernel
theorem dX7_needBehind_2 : decode cX7_needBehind 2 = .ok (.iconst 2, 1) := by decide +kernel
theorem dX7_needBehind_3 : decode cX7_needBehind 3 = .ok (.isub, 1) := by decide +kernel
theorem dX7_needBehind_4 : decode cX7_needBehind 4 = .ok (.invokestatic 218, 3) := by decide +kernel
theorem dX7_needBehind_7 : decode cX7_needBehind 7 = .ok (.istore_n 2, 1) := by decide +kernel
theorem dX7_needBehind_8 : decode cX7_needBehind 8 = .ok (.iconst 1, 1) := by decide +kernel
theorem dX7_needBehind_9 : decode cX7_needBehind 9 = .ok (.iload_n 0, 1) := by decide +kernel
theorem dX7_needBehind_10 : decode cX7_needBehind 10 = .ok (.iload_n 2, 1) := by decide +kernel
theorem dX7_needBehind_11 : decode cX7_needBehind 11 = .ok (.iadd, 1) := by decide +kernel
theorem dX7_needBehind_12 : decode cX7_needBehind 12 = .ok (.iconst 1, 1) := by decide +kernel
theorem dX7_needBehind_13 : decode cX7_needBehind 13 = .ok (.isub, 1) := by decide +kernel
theorem dX7_needBehind_14 : decode cX7_needBehind 14 = .ok (.iload_n 2, 1) := by decide +kernel
theorem dX7_needBehind_15 : decode cX7_needBehind 15 = .ok (.idiv, 1) := by decide +kernel
theorem dX7_needBehind_16 : decode cX7_needBehind 16 = .ok (.invokestatic 218, 3) := by decide +kernel
theorem dX7_needBehind_19 : decode cX7_needBehind 19 = .ok (.istore_n 3, 1) := by decide +kernel
theorem dX7_needBehind_20 : decode cX7_needBehind 20 = .ok (.iload_n 0, 1) := by decide +kernel
theorem dX7_needBehind_21 : decode cX7_needBehind 21 = .ok (.iconst 2, 1) := by decide +kernel
theorem dX7_needBehind_22 : decode cX7_needBehind 22 = .ok (.iload_n 3, 1) := by decide +kernel
theorem dX7_needBehind_23 : decode cX7_needBehind 23 = .ok (.imul, 1) := by decide +kernel
theorem dX7_needBehind_24 : decode cX7_needBehind 24 = .ok (.iadd, 1) := by decide +kernel
theorem dX7_needBehind_25 : decode cX7_needBehind 25 = .ok (.ireturn, 1) := by decide +kernel
theorem dX7_orders_0 : decode cX7_orders 0 = .ok (.aload_n 0, 1) := by decide +kernel
theorem dX7_orders_1 : decode cX7_orders 1 = .ok (.getfield 30, 3) := by decide +kernel
theorem dX7_orders_4 : decode cX7_orders 4 = .ok (.iload_n 1, 1) := by decide +kernel
theorem dX7_orders_5 : decode cX7_orders 5 = .ok (.invokevirtual 50, 3) := by decide +kernel
theorem dX7_orders_8 : decode cX7_orders 8 = .ok (.astore_n 2, 1) := by decide +kernel
theorem dX7_orders_9 : decode cX7_orders 9 = .ok (.aload_n 2, 1) := by decide +kernel
theorem dX7_orders_10 : decode cX7_orders 10 = .ok (.ifnull 10, 3) := by decide +kernel
theorem dX7_orders_20 : decode cX7_orders 20 = .ok (.bipush (-2), 2) := by decide +kernel
theorem dX7_orders_22 : decode cX7_orders 22 = .ok (.ireturn, 1) := by decide +kernel
theorem dX7_fault_0 : decode cX7_fault 0 = .ok (.iload_n 1, 1) := by decide +kernel
theorem dX7_fault_1 : decode cX7_fault 1 = .ok (.lookupswitch 43 #[(0, 27), (1, 35)], 27) := by decide +kernel
theorem dX7_fault_28 : decode cX7_fault 28 = .ok (.aload_n 0, 1) := by decide +kernel
theorem dX7_fault_29 : decode cX7_fault 29 = .ok (.getfield 16, 3) := by decide +kernel
theorem dX7_fault_32 : decode cX7_fault 32 = .ok (.getfield 64, 3) := by decide +kernel
theorem dX7_fault_35 : decode cX7_fault 35 = .ok (.ireturn, 1) := by decide +kernel
theorem dX7_fault_36 : decode cX7_fault 36 = .ok (.aload_n 0, 1) := by decide +kernel
theorem dX7_fault_37 : decode cX7_fault 37 = .ok (.getfield 16, 3) := by decide +kernel
theorem dX7_fault_40 : decode cX7_fault 40 = .ok (.getfield 78, 3) := by decide +kernel
theorem dX7_fault_43 : decode cX7_fault 43 = .ok (.ireturn, 1) := by decide +kernel
theorem dX7_fault_44 : decode cX7_fault 44 = .ok (.iconst (-1), 1) := by decide +kernel
theorem dX7_fault_45 : decode cX7_fault 45 = .ok (.ireturn, 1) := by decide +kernel
theorem dX7_tell_0 : decode cX7_tell 0 = .ok (.aload_n 0, 1) := by decide +kernel
theorem dX7_tell_1 : decode cX7_tell 1 = .ok (.getfield 30, 3) := by decide +kernel
theorem dX7_tell_4 : decode cX7_tell 4 = .ok (.iload_n 1, 1) := by decide +kernel
theorem dX7_tell_5 : decode cX7_tell 5 = .ok (.invokevirtual 50, 3) := by decide +kernel
theorem dX7_tell_8 : decode cX7_tell 8 = .ok (.astore_n 3, 1) := by decide +kernel
theorem dX7_tell_9 : decode cX7_tell 9 = .ok (.aload_n 3, 1) := by decide +kernel
theorem dX7_tell_10 : decode cX7_tell 10 = .ok (.ifnonnull 5, 3) := by decide +kernel
theorem dX7_tell_13 : decode cX7_tell 13 = .ok (.iconst (-1), 1) := by decide +kernel
theorem dX7_tell_14 : decode cX7_tell 14 = .ok (.ireturn, 1) := by decide +kernel
theorem dX7_camp_0 : decode cX7_camp 0 = .ok (.iload_n 1, 1) := by decide +kernel
theorem dX7_camp_1 : decode cX7_camp 1 = .ok (.bipush 16, 2) := by decide +kernel
theorem dX7_camp_3 : decode cX7_camp 3 = .ok (.invokestatic 156, 3) := by decide +kernel
theorem dX7_camp_6 : decode cX7_camp 6 = .ok (.ifCond .ne 5, 3) := by decide +kernel
theorem dX7_camp_11 : decode cX7_camp 11 = .ok (.iload_n 2, 1) := by decide +kernel
theorem dX7_camp_12 : decode cX7_camp 12 = .ok (.tableswitch 74 0 3 #[32, 44, 53, 62], 32) := by decide +kernel
theorem dX7_camp_86 : decode cX7_camp 86 = .ok (.iconst (-1), 1) := by decide +kernel
theorem dX7_camp_87 : decode cX7_camp 87 = .ok (.ireturn, 1) := by decide +kernel
theorem dX7_camp_44 : decode cX7_camp 44 = .ok (.aload_n 0, 1) := by decide +kernel
theorem dX7_camp_45 : decode cX7_camp 45 = .ok (.getfield 30, 3) := by decide +kernel
theorem dX7_camp_48 : decode cX7_camp 48 = .ok (.getfield 123, 3) := by decide +kernel
theorem dX7_camp_51 : decode cX7_camp 51 = .ok (.iload_n 1, 1) := by decide +kernel
theorem dX7_camp_52 : decode cX7_camp 52 = .ok (.invokevirtual 130, 3) := by decide +kernel
theorem dX7_camp_55 : decode cX7_camp 55 = .ok (.ireturn, 1) := by decide +kernel
theorem dX7_camp_56 : decode cX7_camp 56 = .ok (.aload_n 0, 1) := by decide +kernel
theorem dX7_camp_57 : decode cX7_camp 57 = .ok (.getfield 30, 3) := by decide +kernel
theorem dX7_camp_60 : decode cX7_camp 60 = .ok (.iload_n 1, 1) := by decide +kernel
theorem dX7_camp_61 : decode cX7_camp 61 = .ok (.invokevirtual 160, 3) := by decide +kernel
theorem dX7_camp_64 : decode cX7_camp 64 = .ok (.ireturn, 1) := by decide +kernel
theorem dX7_camp_65 : decode cX7_camp 65 = .ok (.aload_n 0, 1) := by decide +kernel
theorem dX7_camp_66 : decode cX7_camp 66 = .ok (.getfield 30, 3) := by decide +kernel
theorem dX7_camp_69 : decode cX7_camp 69 = .ok (.iload_n 1, 1) := by decide +kernel
theorem dX7_camp_70 : decode cX7_camp 70 = .ok (.invokevirtual 163, 3) := by decide +kernel
theorem dX7_camp_73 : decode cX7_camp 73 = .ok (.ireturn, 1) := by decide +kernel
theorem dX7_camp_74 : decode cX7_camp 74 = .ok (.aload_n 0, 1) := by decide +kernel
theorem dX7_camp_75 : decode cX7_camp 75 = .ok (.getfield 30, 3) := by decide +kernel
theorem dX7_camp_78 : decode cX7_camp 78 = .ok (.getfield 123, 3) := by decide +kernel
theorem dX7_camp_81 : decode cX7_camp 81 = .ok (.iload_n 1, 1) := by decide +kernel
theorem dX7_camp_82 : decode cX7_camp 82 = .ok (.invokevirtual 166, 3) := by decide +kernel
theorem dX7_camp_85 : decode cX7_camp 85 = .ok (.ireturn, 1) := by decide +kernel
theorem dX7_camp_9 : decode cX7_camp 9 = .ok (.iconst (-1), 1) := by decide +kernel
theorem dX7_camp_10 : decode cX7_camp 10 = .ok (.ireturn, 1) := by decide +kernel
theorem dX7_lot_0 : decode cX7_lot 0 = .ok (.iload_n 1, 1) := by decide +kernel
theorem dX7_lot_1 : decode cX7_lot 1 = .ok (.aload_n 0, 1) := by decide +kernel
theorem dX7_lot_2 : decode cX7_lot 2 = .ok (.getfield 30, 3) := by decide +kernel
theorem dX7_lot_5 : decode cX7_lot 5 = .ok (.getfield 169, 3) := by decide +kernel
theorem dX7_lot_8 : decode cX7_lot 8 = .ok (.invokestatic 156, 3) := by decide +kernel
theorem dX7_lot_11 : decode cX7_lot 11 = .ok (.ifCond .ne 5, 3) := by decide +kernel
theorem dX7_lot_14 : decode cX7_lot 14 = .ok (.iconst (-1), 1) := by decide +kernel
theorem dX7_lot_15 : decode cX7_lot 15 = .ok (.ireturn, 1) := by decide +kernel
theorem dX7_line_0 : decode cX7_line 0 = .ok (.aload_n 0, 1) := by decide +kernel
theorem dX7_line_1 : decode cX7_line 1 = .ok (.getfield 30, 3) := by decide +kernel
theorem dX7_line_4 : decode cX7_line 4 = .ok (.getfield 190, 3) := by decide +kernel
theorem dX7_line_7 : decode cX7_line 7 = .ok (.iload_n 1, 1) := by decide +kernel
theorem dX7_line_8 : decode cX7_line 8 = .ok (.iload_n 2, 1) := by decide +kernel
theorem dX7_line_9 : decode cX7_line 9 = .ok (.invokevirtual 194, 3) := by decide +kernel
theorem dX7_line_12 : decode cX7_line 12 = .ok (.ireturn, 1) := by decide +kernel
theorem dX7_count_0 : decode cX7_count 0 = .ok (.iload_n 1, 1) := by decide +kernel
theorem dX7_count_1 : decode cX7_count 1 = .ok (.tableswitch 126 0 8 #[51, 59, 67, 75, 86, 94, 102, 110, 118], 51) := by decide +kernel
theorem dX7_count_127 : decode cX7_count 127 = .ok (.iconst (-1), 1) := by decide +kernel
theorem dX7_count_128 : decode cX7_count 128 = .ok (.ireturn, 1) := by decide +kernel
theorem dX7_count_52 : decode cX7_count 52 = .ok (.aload_n 0, 1) := by decide +kernel
theorem dX7_count_53 : decode cX7_count 53 = .ok (.getfield 30, 3) := by decide +kernel
theorem dX7_count_56 : decode cX7_count 56 = .ok (.getfield 85, 3) := by decide +kernel
theorem dX7_count_59 : decode cX7_count 59 = .ok (.ireturn, 1) := by decide +kernel
theorem dX7_count_60 : decode cX7_count 60 = .ok (.aload_n 0, 1) := by decide +kernel
theorem dX7_count_61 : decode cX7_count 61 = .ok (.getfield 30, 3) := by decide +kernel
theorem dX7_count_64 : decode cX7_count 64 = .ok (.getfield 175, 3) := by decide +kernel
theorem dX7_count_67 : decode cX7_count 67 = .ok (.ireturn, 1) := by decide +kernel
theorem dX7_count_68 : decode cX7_count 68 = .ok (.aload_n 0, 1) := by decide +kernel
theorem dX7_count_69 : decode cX7_count 69 = .ok (.getfield 30, 3) := by decide +kernel
theorem dX7_count_72 : decode cX7_count 72 = .ok (.getfield 169, 3) := by decide +kernel
theorem dX7_count_75 : decode cX7_count 75 = .ok (.ireturn, 1) := by decide +kernel
theorem dX7_count_76 : decode cX7_count 76 = .ok (.aload_n 0, 1) := by decide +kernel
theorem dX7_count_77 : decode cX7_count 77 = .ok (.getfield 30, 3) := by decide +kernel
theorem dX7_count_80 : decode cX7_count 80 = .ok (.getfield 190, 3) := by decide +kernel
theorem dX7_count_83 : decode cX7_count 83 = .ok (.getfield 199, 3) := by decide +kernel
theorem dX7_count_86 : decode cX7_count 86 = .ok (.ireturn, 1) := by decide +kernel
theorem dX7_count_87 : decode cX7_count 87 = .ok (.aload_n 0, 1) := by decide +kernel
theorem dX7_count_88 : decode cX7_count 88 = .ok (.getfield 30, 3) := by decide +kernel
theorem dX7_count_91 : decode cX7_count 91 = .ok (.invokevirtual 202, 3) := by decide +kernel
theorem dX7_count_94 : decode cX7_count 94 = .ok (.ireturn, 1) := by decide +kernel
theorem dX7_count_95 : decode cX7_count 95 = .ok (.aload_n 0, 1) := by decide +kernel
theorem dX7_count_96 : decode cX7_count 96 = .ok (.getfield 30, 3) := by decide +kernel
theorem dX7_count_99 : decode cX7_count 99 = .ok (.invokevirtual 205, 3) := by decide +kernel
theorem dX7_count_102 : decode cX7_count 102 = .ok (.ireturn, 1) := by decide +kernel
theorem dX7_count_103 : decode cX7_count 103 = .ok (.aload_n 0, 1) := by decide +kernel
theorem dX7_count_104 : decode cX7_count 104 = .ok (.getfield 30, 3) := by decide +kernel
theorem dX7_count_107 : decode cX7_count 107 = .ok (.invokevirtual 114, 3) := by decide +kernel
theorem dX7_count_110 : decode cX7_count 110 = .ok (.ireturn, 1) := by decide +kernel
theorem dX7_count_111 : decode cX7_count 111 = .ok (.aload_n 0, 1) := by decide +kernel
theorem dX7_count_112 : decode cX7_count 112 = .ok (.getfield 30, 3) := by decide +kernel
theorem dX7_count_115 : decode cX7_count 115 = .ok (.invokevirtual 208, 3) := by decide +kernel
theorem dX7_count_118 : decode cX7_count 118 = .ok (.ireturn, 1) := by decide +kernel
theorem dX7_count_119 : decode cX7_count 119 = .ok (.aload_n 0, 1) := by decide +kernel
theorem dX7_count_120 : decode cX7_count 120 = .ok (.getfield 30, 3) := by decide +kernel
theorem dX7_count_123 : decode cX7_count 123 = .ok (.invokevirtual 110, 3) := by decide +kernel
theorem dX7_count_126 : decode cX7_count 126 = .ok (.ireturn, 1) := by decide +kernel
theorem dX7_need_0 : decode cX7_need 0 = .ok (.iload_n 1, 1) := by decide +kernel
theorem dX7_need_1 : decode cX7_need 1 = .ok (.invokestatic 211, 3) := by decide +kernel
theorem dX7_need_4 : decode cX7_need 4 = .ok (.ifCond .eq 12, 3) := by decide +kernel
theorem dX7_need_16 : decode cX7_need 16 = .ok (.iconst (-1), 1) := by decide +kernel
theorem dX7_need_17 : decode cX7_need 17 = .ok (.ireturn, 1) := by decide +kernel
theorem dX7_need_7 : decode cX7_need 7 = .ok (.iload_n 2, 1) := by decide +kernel
theorem dX7_need_8 : decode cX7_need 8 = .ok (.bipush 16, 2) := by decide +kernel
theorem dX7_need_10 : decode cX7_need 10 = .ok (.invokestatic 156, 3) := by decide +kernel
theorem dX7_need_13 : decode cX7_need 13 = .ok (.ifCond .ne 5, 3) := by decide +kernel
theorem dX7_need_18 : decode cX7_need 18 = .ok (.iconst 0, 1) := by decide +kernel
theorem dX7_need_19 : decode cX7_need 19 = .ok (.istore_n 3, 1) := by decide +kernel
theorem dX7_need_20 : decode cX7_need 20 = .ok (.iconst 0, 1) := by decide +kernel
theorem dX7_need_21 : decode cX7_need 21 = .ok (.istore 4, 2) := by decide +kernel
theorem dX7_need_23 : decode cX7_need 23 = .ok (.iload 4, 2) := by decide +kernel
theorem dX7_need_25 : decode cX7_need 25 = .ok (.iload_n 2, 1) := by decide +kernel
theorem dX7_need_26 : decode cX7_need 26 = .ok (.if_icmp .ge 15, 3) := by decide +kernel
theorem dX7_need_41 : decode cX7_need 41 = .ok (.iload_n 3, 1) := by decide +kernel
theorem dX7_need_42 : decode cX7_need 42 = .ok (.ireturn, 1) := by decide +kernel
theorem dX7_need_29 : decode cX7_need 29 = .ok (.iload_n 3, 1) := by decide +kernel
theorem dX7_need_30 : decode cX7_need 30 = .ok (.iload_n 1, 1) := by decide +kernel
theorem dX7_need_31 : decode cX7_need 31 = .ok (.invokestatic 214, 3) := by decide +kernel
theorem dX7_need_34 : decode cX7_need 34 = .ok (.istore_n 3, 1) := by decide +kernel
theorem dX7_need_35 : decode cX7_need 35 = .ok (.iinc 4 1, 3) := by decide +kernel
theorem dX7_need_38 : decode cX7_need 38 = .ok (.goto (-15), 3) := by decide +kernel
theorem dX7_far_0 : decode cX7_far 0 = .ok (.iload_n 1, 1) := by decide +kernel
theorem dX7_far_1 : decode cX7_far 1 = .ok (.invokestatic 211, 3) := by decide +kernel
theorem dX7_far_4 : decode cX7_far 4 = .ok (.ifCond .eq 13, 3) := by decide +kernel
theorem dX7_far_17 : decode cX7_far 17 = .ok (.iconst (-1), 1) := by decide +kernel
theorem dX7_far_18 : decode cX7_far 18 = .ok (.ireturn, 1) := by decide +kernel
theorem dX7_far_7 : decode cX7_far 7 = .ok (.iload_n 2, 1) := by decide +kernel
theorem dX7_far_8 : decode cX7_far 8 = .ok (.ifCond .lt 9, 3) := by decide +kernel
theorem dX7_far_11 : decode cX7_far 11 = .ok (.iload_n 2, 1) := by decide +kernel
theorem dX7_far_12 : decode cX7_far 12 = .ok (.ldc 217, 2) := by decide +kernel
theorem dX7_far_14 : decode cX7_far 14 = .ok (.if_icmp .le 5, 3) := by decide +kernel
theorem dX7_far_19 : decode cX7_far 19 = .ok (.iconst 0, 1) := by decide +kernel
theorem dX7_far_20 : decode cX7_far 20 = .ok (.istore_n 3, 1) := by decide +kernel
theorem dX7_far_21 : decode cX7_far 21 = .ok (.iconst 0, 1) := by decide +kernel
theorem dX7_far_22 : decode cX7_far 22 = .ok (.iload_n 1, 1) := by decide +kernel
theorem dX7_far_23 : decode cX7_far 23 = .ok (.invokestatic 214, 3) := by decide +kernel
theorem dX7_far_26 : decode cX7_far 26 = .ok (.istore 4, 2) := by decide +kernel
theorem dX7_far_28 : decode cX7_far 28 = .ok (.iconst 1, 1) := by decide +kernel
theorem dX7_far_29 : decode cX7_far 29 = .ok (.istore 5, 2) := by decide +kernel
theorem dX7_far_31 : decode cX7_far 31 = .ok (.iload 5, 2) := by decide +kernel
theorem dX7_far_33 : decode cX7_far 33 = .ok (.bipush 16, 2) := by decide +kernel
theorem dX7_far_35 : decode cX7_far 35 = .ok (.if_icmp .ge 26, 3) := by decide +kernel
theorem dX7_far_61 : decode cX7_far 61 = .ok (.iload_n 3, 1) := by decide +kernel
theorem dX7_far_62 : decode cX7_far 62 = .ok (.ireturn, 1) := by decide +kernel
theorem dX7_far_38 : decode cX7_far 38 = .ok (.iload 4, 2) := by decide +kernel
theorem dX7_far_40 : decode cX7_far 40 = .ok (.iload_n 2, 1) := by decide +kernel
theorem dX7_far_41 : decode cX7_far 41 = .ok (.if_icmp .gt 20, 3) := by decide +kernel
theorem dX7_far_44 : decode cX7_far 44 = .ok (.iload 5, 2) := by decide +kernel
theorem dX7_far_46 : decode cX7_far 46 = .ok (.istore_n 3, 1) := by decide +kernel
theorem dX7_far_47 : decode cX7_far 47 = .ok (.iload 4, 2) := by decide +kernel
theorem dX7_far_49 : decode cX7_far 49 = .ok (.iload_n 1, 1) := by decide +kernel
theorem dX7_far_50 : decode cX7_far 50 = .ok (.invokestatic 214, 3) := by decide +kernel
theorem dX7_far_53 : decode cX7_far 53 = .ok (.istore 4, 2) := by decide +kernel
theorem dX7_far_55 : decode cX7_far 55 = .ok (.iinc 5 1, 3) := by decide +kernel
theorem dX7_far_58 : decode cX7_far 58 = .ok (.goto (-27), 3) := by decide +kernel
theorem dX7_again_0 : decode cX7_again 0 = .ok (.iload_n 1, 1) := by decide +kernel
theorem dX7_again_1 : decode cX7_again 1 = .ok (.iconst 3, 1) := by decide +kernel
theorem dX7_again_2 : decode cX7_again 2 = .ok (.invokestatic 156, 3) := by decide +kernel
theorem dX7_again_5 : decode cX7_again 5 = .ok (.ifCond .ne 5, 3) := by decide +kernel
theorem dX7_again_10 : decode cX7_again 10 = .ok (.aload_n 0, 1) := by decide +kernel
theorem dX7_again_11 : decode cX7_again 11 = .ok (.getfield 34, 3) := by decide +kernel
theorem dX7_again_14 : decode cX7_again 14 = .ok (.iload_n 1, 1) := by decide +kernel
theorem dX7_again_15 : decode cX7_again 15 = .ok (.aaload, 1) := by decide +kernel
theorem dX7_again_16 : decode cX7_again 16 = .ok (.astore_n 2, 1) := by decide +kernel
theorem dX7_again_17 : decode cX7_again 17 = .ok (.aload_n 2, 1) := by decide +kernel
theorem dX7_again_18 : decode cX7_again 18 = .ok (.ifnonnull 5, 3) := by decide +kernel
theorem dX7_again_21 : decode cX7_again 21 = .ok (.iconst 0, 1) := by decide +kernel
theorem dX7_again_22 : decode cX7_again 22 = .ok (.ireturn, 1) := by decide +kernel
theorem dX7_again_8 : decode cX7_again 8 = .ok (.iconst 0, 1) := by decide +kernel
theorem dX7_again_9 : decode cX7_again 9 = .ok (.ireturn, 1) := by decide +kernel
def cp (d n : Int32) : Int32 := if n < 1 then 0 else if 50 < n then 0 else if 400 < d + n then 0 else 1
def inn (v lo hi : Int32) : Int32 := if v < lo then 0 else if hi < v then 0 else 1
def nb (n k : Int32) : Int32 := n + 2 * (if 1 < (n + (if 1 < k - 2 then k - 2 else 1) - 1) / (if 1 < k - 2 then k - 2 else 1) then (n + (if 1 < k - 2 then k - 2 else 1) - 1) / (if 1 < k - 2 then k - 2 else 1) else 1)
def nd (k : Int32) : Nat → Int32
  | 0 => 0
  | j + 1 => nb (nd k j) k
def fr (k w : Int32) : Nat → Nat → Int32
  | 0, j => nI j
  | n + 1, j => if w < nd k (j + 1) then nI j else fr k w n (j + 1)
def xNeed (k w : Int32) : Int32 := if inn k 3 200 = 0 then -1 else if wi w 16 = 0 then -1 else nd k w.toNatClampNeg
def xFar (k w : Int32) : Int32 := if inn k 3 200 = 0 then -1 else if w < 0 then -1 else if 1000000 < w then -1 else fr k w 15 0
def xCamp (k w : Int32) : Int32 := if wi k 16 = 0 then -1 else if w = 0 then 0 else if w = 2 then 0 else -1
theorem nb_ne (k : Int32) : ¬ (if 1 < k - 2 then k - 2 else 1) = 0 := by
  by_cases h : 1 < k - 2
  · rw [if_pos h]; intro e; rw [e] at h; exact absurd h (by decide)
  · rw [if_neg h]; decide
theorem n_cases0_3 {x : Int32} (h : ¬ (x.toInt < 0 ∨ 3 < x.toInt)) : x = 0 ∨ x = 1 ∨ x = 2 ∨ x = 3 := by
  have e : ∀ y : Int32, x.toInt = y.toInt → x = y := fun y h => Int32.toInt_inj.mp h
  rcases (show x.toInt = 0 ∨ x.toInt = 1 ∨ x.toInt = 2 ∨ x.toInt = 3 by omega) with h | h | h | h
  · exact Or.inl (e 0 h)
  · exact Or.inr (Or.inl (e 1 h))
  · exact Or.inr (Or.inr (Or.inl (e 2 h)))
  · exact Or.inr (Or.inr (Or.inr (e 3 h)))
theorem n_cases0_8 {x : Int32} (h : ¬ (x.toInt < 0 ∨ 8 < x.toInt)) : x = 0 ∨ x = 1 ∨ x = 2 ∨ x = 3 ∨ x = 4 ∨ x = 5 ∨ x = 6 ∨ x = 7 ∨ x = 8 := by
  have e : ∀ y : Int32, x.toInt = y.toInt → x = y := fun y h => Int32.toInt_inj.mp h
  rcases (show x.toInt = 0 ∨ x.toInt = 1 ∨ x.toInt = 2 ∨ x.toInt = 3 ∨ x.toInt = 4 ∨ x.toInt = 5 ∨ x.toInt = 6 ∨ x.toInt = 7 ∨ x.toInt = 8 by omega) with h | h | h | h | h | h | h | h | h
  · exact Or.inl (e 0 h)
  · exact Or.inr (Or.inl (e 1 h))
  · exact Or.inr (Or.inr (Or.inl (e 2 h)))
  · exact Or.inr (Or.inr (Or.inr (Or.inl (e 3 h))))
  · exact Or.inr (Or.inr (Or.inr (Or.inr (Or.inl (e 4 h)))))
  · exact Or.inr (Or.inr (Or.inr (Or.inr (Or.inr (Or.inl (e 5 h))))))
  · exact Or.inr (Or.inr (Or.inr (Or.inr (Or.inr (Or.inr (Or.inl (e 6 h)))))))
  · exact Or.inr (Or.inr (Or.inr (Or.inr (Or.inr (Or.inr (Or.inr (Or.inl (e 7 h))))))))
  · exact Or.inr (Or.inr (Or.inr (Or.inr (Or.inr (Or.inr (Or.inr (Or.inr (e 8 h))))))))
theorem n_out3 {x : Int32} (h : x.toInt < 0 ∨ 3 < x.toInt) : ¬ x = 0 ∧ ¬ x = 2 := by
  refine ⟨fun e => ?_, fun e => ?_⟩ <;> (rw [e] at h; exact absurd h (by decide))

def vs_partyOf : List Cond := [.code yX6_partyOf cX6_partyOf 2 (some (.object "DepotMarch$Party")), .fieldLink RX6 58 "DepotMarch$World" "parties" "I", .code yX7_within cX7_within 2 (some .boolean), .initialized RX7, .static yX7_within] ++ (wsX60)
theorem in_partyOf_X6 : ∀ w ∈ u_ws RX6 TX6 9, w ∈ vs_partyOf := fun w h => List.mem_append_right _ (h)
set_option maxRecDepth 20000 in
theorem gg_partyOf_within : GoodIn vs_partyOf vs_within := goodIn_r _ [2] (by decide +kernel) (by decide +kernel)
set_option maxHeartbeats 4000000 in
set_option maxRecDepth 100000 in
theorem c_partyOf (l : Launch) (dC : Nat → ClassId) (dI : Nat → Nat → Nat) (cI cZ cB cJ cP cW : ClassId) (q : Nat → Nat) (d : Int32) (i : Int32) : Met l yX6_partyOf vs_partyOf ({ frames := 2, cells := 0, slots := 0, locals := 120 }) (va_Pc [.ref (q 0), .int i] (fun U => EV dC dI cI cZ cB cJ cP cW U ∧ va_P (dC, dI) vwCl [((q 0), .inr (6, [.int d, .int 0, .int 0, .ref (q 1), .ref (q 8), .ref (q 10), .ref (q 11), .ref (q 12), .ref (q 13)]))] U.heap)) (va_Sq (fun r => r = none)) 0 0 (fun _ => False) := by
  refine Met.ofW (cc := cX6_partyOf) (maxL := 2) (ret := (some (.object "DepotMarch$Party"))) (by decide) rfl ?_
  intro p e s m args below meth c s₁ B hml hv
  obtain ⟨rfl, hE, hP⟩ := hv
  have hx := B.exec
  have hb := B.bytes
  have hr := B.returns
  have hts := atoms_spec (ws := vs_partyOf) B.pre
  have hown : s.vm.findClass RX6 = some m.cls := findClass_of_methodNamed B.named
  have hlocks := B.notSynchronized
  have hK := hE.2
  have hA : True := trivial
  have hS : va_S (fun _ => False) s.heap s.heap [] := va_S.rf
  have hl := lv_entry ([.ref (q 0), .int i]) (n := 2) (Nat.le_of_ble_eq_true rfl)
  rw [lg_entry_eq]
  generalize (lg_sl ([.ref (q 0), .int i]) ++ List.replicate (2 - (lg_sl ([.ref (q 0), .int i])).length) Slot.unset).toArray = ls at hl ⊢
  have hl : lv_has ls 2 [(0, .ref (q 0)), (1, .int i)] := hl
  refine lv_iload_n hx hb dX6_partyOf_0 rfl (lv_at hl 1 rfl) ?_
  refine lv_aload_n hx hb dX6_partyOf_1 rfl (lv_at hl 0 rfl) ?_
  refine va_get (D := (dC, dI)) (ci := 6) (v := .int 0) (C := RX6) (T := TX6) (N := 9) hx hb hts in_partyOf_X6 hown hK hP 0 rfl rfl 2 (by decide) (hts (.fieldLink RX6 58 "DepotMarch$World" "parties" "I") (by decide +kernel)) (fun _ h9 => h9) rfl dX6_partyOf_2 ?_
  refine vp_callSi (va_Run.run (va_runSN (As := [.int i, .int 0]) (rest := []) ⟨hx, hb, hml, hown, hts⟩ (c_within l dC dI cI cZ cB cJ cP cW i 0) ⟨(va_cnB 2 hts gg_partyOf_within rfl rfl rfl hE.1.n_World_77 (hts (.initialized RX7) (by decide +kernel)) (by decide +kernel) ⟨Nat.le_of_ble_eq_true rfl, Nat.le_of_ble_eq_true rfl⟩), (hts (.static yX7_within) (by decide +kernel)), trivial⟩ ⟨fbR, fun U hU hW => ⟨rfl, hE.warm hW, by rw [hU]; exact (fun k q h => by simp at h)⟩⟩ rfl rfl hl.1 rfl (lv_room (Nat.le_of_ble_eq_true rfl)) dX6_partyOf_5 ⟨Nat.le_of_ble_eq_true rfl, Nat.le_of_ble_eq_true rfl⟩)) (fun r1 hr1 => ?_)
  obtain rfl : r1 = 0 := hr1.trans (wi_0 _)
  refine lv_if_eq (tgt := 29) hx hb dX6_partyOf_8 (by decide) (fun _ => ?_) (fun c9 => absurd (by decide) c9)
  refine lv_null hx hb dX6_partyOf_29 ?_
  exact W.aret (v := .null) hx hb hr (Or.inl ⟨_, rfl⟩) (Or.inl rfl) (fun t ht hW => ⟨none, rfl, rfl, ht⟩) (fun q h => by cases h) dX6_partyOf_30

def vs_canPass : List Cond := [.code yX6_canPass cX6_canPass 2 (some .boolean), .fieldLink RX6 51 "DepotMarch$World" "day" "I"] ++ (wsX60)
theorem in_canPass_X6 : ∀ w ∈ u_ws RX6 TX6 9, w ∈ vs_canPass := fun w h => List.mem_append_right _ (h)
set_option maxHeartbeats 4000000 in
set_option maxRecDepth 100000 in
theorem c_canPass (l : Launch) (dC : Nat → ClassId) (dI : Nat → Nat → Nat) (cI cZ cB cJ cP cW : ClassId) (q : Nat → Nat) (d : Int32) (n : Int32) : Met l yX6_canPass vs_canPass ({ frames := 1, cells := 0, slots := 0, locals := 60 }) (va_Pc [.ref (q 0), .int n] (fun U => EV dC dI cI cZ cB cJ cP cW U ∧ va_P (dC, dI) vwCl [((q 0), .inr (6, [.int d, .int 0, .int 0, .ref (q 1), .ref (q 8), .ref (q 10), .ref (q 11), .ref (q 12), .ref (q 13)]))] U.heap)) (vp_Si (fun r => r = cp d n)) 0 0 (fun _ => False) := by
  refine Met.ofW (cc := cX6_canPass) (maxL := 2) (ret := (some .boolean)) (by decide) rfl ?_
  intro p e s m args below meth c s₁ B hml hv
  obtain ⟨rfl, hE, hP⟩ := hv
  have hx := B.exec
  have hb := B.bytes
  have hr := B.returns
  have hts := atoms_spec (ws := vs_canPass) B.pre
  have hown : s.vm.findClass RX6 = some m.cls := findClass_of_methodNamed B.named
  have hlocks := B.notSynchronized
  have hK := hE.2
  have hA : True := trivial
  have hS : va_S (fun _ => False) s.heap s.heap [] := va_S.rf
  have hl := lv_entry ([.ref (q 0), .int n]) (n := 2) (Nat.le_of_ble_eq_true rfl)
  rw [lg_entry_eq]
  generalize (lg_sl ([.ref (q 0), .int n]) ++ List.replicate (2 - (lg_sl ([.ref (q 0), .int n])).length) Slot.unset).toArray = ls at hl ⊢
  have hl : lv_has ls 2 [(0, .ref (q 0)), (1, .int n)] := hl
  refine lv_iload_n hx hb dX6_canPass_0 rfl (lv_at hl 1 rfl) ?_
  refine lv_iconst (v := 1) hx hb dX6_canPass_1 (by decide) ?_
  refine lv_icmp_lt (tgt := 27) hx hb dX6_canPass_2 (by decide) (fun c1 => ?_) (fun c1 => ?_)
  · refine lv_iconst (v := 0) hx hb dX6_canPass_27 (by decide) ?_
    exact W.zret (v := 0) hx hb hr rfl (fun t ht hW => ⟨0, rfl, (by simp [cp, c1]), ht⟩) (fun q h => by cases h) dX6_canPass_28
  · refine lv_iload_n hx hb dX6_canPass_5 rfl (lv_at hl 1 rfl) ?_
    refine lv_bipush (v := 50) hx hb dX6_canPass_6 (by decide) ?_
    refine lv_icmp_gt (tgt := 27) hx hb dX6_canPass_8 (by decide) (fun c2 => ?_) (fun c2 => ?_)
    · refine lv_iconst (v := 0) hx hb dX6_canPass_27 (by decide) ?_
      exact W.zret (v := 0) hx hb hr rfl (fun t ht hW => ⟨0, rfl, (by simp [cp, c1, c2]), ht⟩) (fun q h => by cases h) dX6_canPass_28
    · refine lv_aload_n hx hb dX6_canPass_11 rfl (lv_at hl 0 rfl) ?_
      refine va_get (D := (dC, dI)) (ci := 6) (v := .int d) (C := RX6) (T := TX6) (N := 9) hx hb hts in_canPass_X6 hown hK hP 0 rfl rfl 0 (by decide) (hts (.fieldLink RX6 51 "DepotMarch$World" "day" "I") (by decide +kernel)) (fun _ h9 => h9) rfl dX6_canPass_12 ?_
      refine lv_iload_n hx hb dX6_canPass_15 rfl (lv_at hl 1 rfl) ?_
      refine lv_iadd hx hb dX6_canPass_16 ?_
      refine lv_topi (fun x3 ex3 => ?_)
      obtain rfl : x3 = (d + n) := ex3.trans rfl
      refine lv_sipush (v := 400) hx hb dX6_canPass_17 (by decide) ?_
      refine lv_icmp_gt (tgt := 27) hx hb dX6_canPass_20 (by decide) (fun c4 => ?_) (fun c4 => ?_)
      · refine lv_iconst (v := 0) hx hb dX6_canPass_27 (by decide) ?_
        exact W.zret (v := 0) hx hb hr rfl (fun t ht hW => ⟨0, rfl, (by simp [cp, c1, c2, c4]), ht⟩) (fun q h => by cases h) dX6_canPass_28
      · refine lv_iconst (v := 1) hx hb dX6_canPass_23 (by decide) ?_
        refine lv_goto (tgt := 28) hx hb dX6_canPass_24 (by decide) ?_
        exact W.zret (v := 1) hx hb hr rfl (fun t ht hW => ⟨1, rfl, (by simp [cp, c1, c2, c4]), ht⟩) (fun q h => by cases h) dX6_canPass_28

def vs_kept : List Cond := [.code yX0_kept cX0_kept 1 (some .int), .fieldLink RX0 15 "DepotMarch$Book" "lines" "I", .methodLink RX0 29 Lib.Math.min.name, .static Lib.Math.min.name, .initialized "java/lang/Math", .code Lib.Math.min.name Lib.Math.min.code 2 (some .int)] ++ (wsX00)
theorem in_kept_X0 : ∀ w ∈ u_ws RX0 TX0 2, w ∈ vs_kept := fun w h => List.mem_append_right _ (h)
set_option maxHeartbeats 4000000 in
set_option maxRecDepth 100000 in
theorem c_kept (l : Launch) (dC : Nat → ClassId) (dI : Nat → Nat → Nat) (cI cZ cB cJ cP cW : ClassId) (q : Nat → Nat) : Met l yX0_kept vs_kept ({ frames := 2, cells := 0, slots := 0, locals := 120 }) (va_Pc [.ref (q 8)] (fun U => EV dC dI cI cZ cB cJ cP cW U ∧ va_P (dC, dI) vwCl [((q 8), .inr (0, [.int 0, .ref (q 9)]))] U.heap)) (vp_Si (fun r => r = 0)) 0 0 (fun _ => False) := by
  refine Met.ofW (cc := cX0_kept) (maxL := 1) (ret := (some .int)) (by decide) rfl ?_
  intro p e s m args below meth c s₁ B hml hv
  obtain ⟨rfl, hE, hP⟩ := hv
  have hx := B.exec
  have hb := B.bytes
  have hr := B.returns
  have hts := atoms_spec (ws := vs_kept) B.pre
  have hown : s.vm.findClass RX0 = some m.cls := findClass_of_methodNamed B.named
  have hlocks := B.notSynchronized
  have hK := hE.2
  have hA : True := trivial
  have hS : va_S (fun _ => False) s.heap s.heap [] := va_S.rf
  have hl := lv_entry ([.ref (q 8)]) (n := 1) (Nat.le_of_ble_eq_true rfl)
  rw [lg_entry_eq]
  generalize (lg_sl ([.ref (q 8)]) ++ List.replicate (1 - (lg_sl ([.ref (q 8)])).length) Slot.unset).toArray = ls at hl ⊢
  have hl : lv_has ls 1 [(0, .ref (q 8))] := hl
  refine lv_aload_n hx hb dX0_kept_0 rfl (lv_at hl 0 rfl) ?_
  refine va_get (D := (dC, dI)) (ci := 0) (v := .int 0) (C := RX0) (T := TX0) (N := 2) hx hb hts in_kept_X0 hown hK hP 0 rfl rfl 0 (by decide) (hts (.fieldLink RX0 15 "DepotMarch$Book" "lines" "I") (by decide +kernel)) (fun _ h9 => h9) rfl dX0_kept_1 ?_
  refine lv_sipush (v := 600) hx hb dX0_kept_4 (by decide) ?_
  refine va_mmin hx hb (hml.trans hl.1.symm) hown (hts (.methodLink RX0 29 Lib.Math.min.name) (by decide +kernel)) (hts (.static Lib.Math.min.name) (by decide +kernel)) (hts (.initialized "java/lang/Math") (by decide +kernel)) (hts (.code Lib.Math.min.name Lib.Math.min.code 2 (some .int)) (by decide +kernel)) (Nat.le_of_ble_eq_true rfl) (Nat.le_of_ble_eq_true rfl) (Nat.le_of_ble_eq_true rfl) (Nat.le_of_ble_eq_true rfl) dX0_kept_7 ?_
  refine lv_topi (fun x1 ex1 => ?_)
  obtain rfl : x1 = 0 := ex1.trans (by decide)
  exact W.iret (v := 0) hx hb hr (fun t ht hW => ⟨0, rfl, rfl, ht⟩) (fun q h => by cases h) dX0_kept_10

def vs_hungry : List Cond := [.code yX6_isHungryOfThoseIn cX6_isHungryOfThoseIn 4 (some .boolean), .fieldLink RX6 58 "DepotMarch$World" "parties" "I"] ++ (wsX60)
theorem in_hungry_X6 : ∀ w ∈ u_ws RX6 TX6 9, w ∈ vs_hungry := fun w h => List.mem_append_right _ (h)
set_option maxHeartbeats 4000000 in
set_option maxRecDepth 100000 in
theorem c_hungry (l : Launch) (dC : Nat → ClassId) (dI : Nat → Nat → Nat) (cI cZ cB cJ cP cW : ClassId) (q : Nat → Nat) (d : Int32) (b : Nat) : Met l yX6_isHungryOfThoseIn vs_hungry ({ frames := 1, cells := 0, slots := 0, locals := 60 }) (va_Pc [.ref (q 0), .ref b] (fun U => EV dC dI cI cZ cB cJ cP cW U ∧ va_P (dC, dI) vwCl [((q 0), .inr (6, [.int d, .int 0, .int 0, .ref (q 1), .ref (q 8), .ref (q 10), .ref (q 11), .ref (q 12), .ref (q 13)]))] U.heap)) (vp_Si (fun r => r = 0)) 0 0 (fun _ => False) := by
  refine Met.ofW (cc := cX6_isHungryOfThoseIn) (maxL := 4) (ret := (some .boolean)) (by decide) rfl ?_
  intro p e s m args below meth c s₁ B hml hv
  obtain ⟨rfl, hE, hP⟩ := hv
  have hx := B.exec
  have hb := B.bytes
  have hr := B.returns
  have hts := atoms_spec (ws := vs_hungry) B.pre
  have hown : s.vm.findClass RX6 = some m.cls := findClass_of_methodNamed B.named
  have hlocks := B.notSynchronized
  have hK := hE.2
  have hA : True := trivial
  have hS : va_S (fun _ => False) s.heap s.heap [] := va_S.rf
  have hl := lv_entry ([.ref (q 0), .ref b]) (n := 4) (Nat.le_of_ble_eq_true rfl)
  rw [lg_entry_eq]
  generalize (lg_sl ([.ref (q 0), .ref b]) ++ List.replicate (4 - (lg_sl ([.ref (q 0), .ref b])).length) Slot.unset).toArray = ls at hl ⊢
  have hl : lv_has ls 4 [(0, .ref (q 0)), (1, .ref b)] := hl
  refine lv_iconst (v := 0) hx hb dX6_isHungryOfThoseIn_0 (by decide) ?_
  refine lv_istore_n (lv' := [(2, .int 0), (0, .ref (q 0)), (1, .ref b)]) hx hb dX6_isHungryOfThoseIn_1 rfl hl (by decide) rfl (fun ls hl => ?_)
  refine lv_iconst (v := 0) hx hb dX6_isHungryOfThoseIn_2 (by decide) ?_
  refine lv_istore_n (lv' := [(3, .int 0), (2, .int 0), (0, .ref (q 0)), (1, .ref b)]) hx hb dX6_isHungryOfThoseIn_3 rfl hl (by decide) rfl (fun ls hl => ?_)
  refine lv_iload_n hx hb dX6_isHungryOfThoseIn_4 rfl (lv_at hl 0 rfl) ?_
  refine lv_aload_n hx hb dX6_isHungryOfThoseIn_5 rfl (lv_at hl 2 rfl) ?_
  refine va_get (D := (dC, dI)) (ci := 6) (v := .int 0) (C := RX6) (T := TX6) (N := 9) hx hb hts in_hungry_X6 hown hK hP 0 rfl rfl 2 (by decide) (hts (.fieldLink RX6 58 "DepotMarch$World" "parties" "I") (by decide +kernel)) (fun _ h9 => h9) rfl dX6_isHungryOfThoseIn_6 ?_
  refine lv_icmp_ge (tgt := 58) hx hb dX6_isHungryOfThoseIn_9 (by decide) (fun _ => ?_) (fun c9 => absurd (by decide) c9)
  refine lv_iload_n hx hb dX6_isHungryOfThoseIn_58 rfl (lv_at hl 1 rfl) ?_
  exact W.zret (v := 0) hx hb hr rfl (fun t ht hW => ⟨0, rfl, rfl, ht⟩) (fun q h => by cases h) dX6_isHungryOfThoseIn_59

def vs_lostP : List Cond := [.code yX6_lostParties cX6_lostParties 3 (some .int), .fieldLink RX6 58 "DepotMarch$World" "parties" "I"] ++ (wsX60)
theorem in_lostP_X6 : ∀ w ∈ u_ws RX6 TX6 9, w ∈ vs_lostP := fun w h => List.mem_append_right _ (h)
set_option maxHeartbeats 4000000 in
set_option maxRecDepth 100000 in
theorem c_lostP (l : Launch) (dC : Nat → ClassId) (dI : Nat → Nat → Nat) (cI cZ cB cJ cP cW : ClassId) (q : Nat → Nat) (d : Int32) : Met l yX6_lostParties vs_lostP ({ frames := 1, cells := 0, slots := 0, locals := 60 }) (va_Pc [.ref (q 0)] (fun U => EV dC dI cI cZ cB cJ cP cW U ∧ va_P (dC, dI) vwCl [((q 0), .inr (6, [.int d, .int 0, .int 0, .ref (q 1), .ref (q 8), .ref (q 10), .ref (q 11), .ref (q 12), .ref (q 13)]))] U.heap)) (vp_Si (fun r => r = 0)) 0 0 (fun _ => False) := by
  refine Met.ofW (cc := cX6_lostParties) (maxL := 3) (ret := (some .int)) (by decide) rfl ?_
  intro p e s m args below meth c s₁ B hml hv
  obtain ⟨rfl, hE, hP⟩ := hv
  have hx := B.exec
  have hb := B.bytes
  have hr := B.returns
  have hts := atoms_spec (ws := vs_lostP) B.pre
  have hown : s.vm.findClass RX6 = some m.cls := findClass_of_methodNamed B.named
  have hlocks := B.notSynchronized
  have hK := hE.2
  have hA : True := trivial
  have hS : va_S (fun _ => False) s.heap s.heap [] := va_S.rf
  have hl := lv_entry ([.ref (q 0)]) (n := 3) (Nat.le_of_ble_eq_true rfl)
  rw [lg_entry_eq]
  generalize (lg_sl ([.ref (q 0)]) ++ List.replicate (3 - (lg_sl ([.ref (q 0)])).length) Slot.unset).toArray = ls at hl ⊢
  have hl : lv_has ls 3 [(0, .ref (q 0))] := hl
  refine lv_iconst (v := 0) hx hb dX6_lostParties_0 (by decide) ?_
  refine lv_istore_n (lv' := [(1, .int 0), (0, .ref (q 0))]) hx hb dX6_lostParties_1 rfl hl (by decide) rfl (fun ls hl => ?_)
  refine lv_iconst (v := 0) hx hb dX6_lostParties_2 (by decide) ?_
  refine lv_istore_n (lv' := [(2, .int 0), (1, .int 0), (0, .ref (q 0))]) hx hb dX6_lostParties_3 rfl hl (by decide) rfl (fun ls hl => ?_)
  refine lv_iload_n hx hb dX6_lostParties_4 rfl (lv_at hl 0 rfl) ?_
  refine lv_aload_n hx hb dX6_lostParties_5 rfl (lv_at hl 2 rfl) ?_
  refine va_get (D := (dC, dI)) (ci := 6) (v := .int 0) (C := RX6) (T := TX6) (N := 9) hx hb hts in_lostP_X6 hown hK hP 0 rfl rfl 2 (by decide) (hts (.fieldLink RX6 58 "DepotMarch$World" "parties" "I") (by decide +kernel)) (fun _ h9 => h9) rfl dX6_lostParties_6 ?_
  refine lv_icmp_ge (tgt := 44) hx hb dX6_lostParties_9 (by decide) (fun _ => ?_) (fun c9 => absurd (by decide) c9)
  refine lv_iload_n hx hb dX6_lostParties_44 rfl (lv_at hl 1 rfl) ?_
  exact W.iret (v := 0) hx hb hr (fun t ht hW => ⟨0, rfl, rfl, ht⟩) (fun q h => by cases h) dX6_lostParties_45

def vs_landed : List Cond := [.code yX6_landed cX6_landed 3 (some .int), .fieldLink RX6 55 "DepotMarch$World" "lots" "I"] ++ (wsX60)
theorem in_landed_X6 : ∀ w ∈ u_ws RX6 TX6 9, w ∈ vs_landed := fun w h => List.mem_append_right _ (h)
set_option maxHeartbeats 4000000 in
set_option maxRecDepth 100000 in
theorem c_landed (l : Launch) (dC : Nat → ClassId) (dI : Nat → Nat → Nat) (cI cZ cB cJ cP cW : ClassId) (q : Nat → Nat) (d : Int32) : Met l yX6_landed vs_landed ({ frames := 1, cells := 0, slots := 0, locals := 60 }) (va_Pc [.ref (q 0)] (fun U => EV dC dI cI cZ cB cJ cP cW U ∧ va_P (dC, dI) vwCl [((q 0), .inr (6, [.int d, .int 0, .int 0, .ref (q 1), .ref (q 8), .ref (q 10), .ref (q 11), .ref (q 12), .ref (q 13)]))] U.heap)) (vp_Si (fun r => r = 0)) 0 0 (fun _ => False) := by
  refine Met.ofW (cc := cX6_landed) (maxL := 3) (ret := (some .int)) (by decide) rfl ?_
  intro p e s m args below meth c s₁ B hml hv
  obtain ⟨rfl, hE, hP⟩ := hv
  have hx := B.exec
  have hb := B.bytes
  have hr := B.returns
  have hts := atoms_spec (ws := vs_landed) B.pre
  have hown : s.vm.findClass RX6 = some m.cls := findClass_of_methodNamed B.named
  have hlocks := B.notSynchronized
  have hK := hE.2
  have hA : True := trivial
  have hS : va_S (fun _ => False) s.heap s.heap [] := va_S.rf
  have hl := lv_entry ([.ref (q 0)]) (n := 3) (Nat.le_of_ble_eq_true rfl)
  rw [lg_entry_eq]
  generalize (lg_sl ([.ref (q 0)]) ++ List.replicate (3 - (lg_sl ([.ref (q 0)])).length) Slot.unset).toArray = ls at hl ⊢
  have hl : lv_has ls 3 [(0, .ref (q 0))] := hl
  refine lv_iconst (v := 0) hx hb dX6_landed_0 (by decide) ?_
  refine lv_istore_n (lv' := [(1, .int 0), (0, .ref (q 0))]) hx hb dX6_landed_1 rfl hl (by decide) rfl (fun ls hl => ?_)
  refine lv_iconst (v := 0) hx hb dX6_landed_2 (by decide) ?_
  refine lv_istore_n (lv' := [(2, .int 0), (1, .int 0), (0, .ref (q 0))]) hx hb dX6_landed_3 rfl hl (by decide) rfl (fun ls hl => ?_)
  refine lv_iload_n hx hb dX6_landed_4 rfl (lv_at hl 0 rfl) ?_
  refine lv_aload_n hx hb dX6_landed_5 rfl (lv_at hl 2 rfl) ?_
  refine va_get (D := (dC, dI)) (ci := 6) (v := .int 0) (C := RX6) (T := TX6) (N := 9) hx hb hts in_landed_X6 hown hK hP 0 rfl rfl 1 (by decide) (hts (.fieldLink RX6 55 "DepotMarch$World" "lots" "I") (by decide +kernel)) (fun _ h9 => h9) rfl dX6_landed_6 ?_
  refine lv_icmp_ge (tgt := 33) hx hb dX6_landed_9 (by decide) (fun _ => ?_) (fun c9 => absurd (by decide) c9)
  refine lv_iload_n hx hb dX6_landed_33 rfl (lv_at hl 1 rfl) ?_
  exact W.iret (v := 0) hx hb hr (fun t ht hW => ⟨0, rfl, rfl, ht⟩) (fun q h => by cases h) dX6_landed_34

def vs_eaten : List Cond := [.code yX6_eaten cX6_eaten 3 (some .int), .fieldLink RX6 58 "DepotMarch$World" "parties" "I"] ++ (wsX60)
theorem in_eaten_X6 : ∀ w ∈ u_ws RX6 TX6 9, w ∈ vs_eaten := fun w h => List.mem_append_right _ (h)
set_option maxHeartbeats 4000000 in
set_option maxRecDepth 100000 in
theorem c_eaten (l : Launch) (dC : Nat → ClassId) (dI : Nat → Nat → Nat) (cI cZ cB cJ cP cW : ClassId) (q : Nat → Nat) (d : Int32) : Met l yX6_eaten vs_eaten ({ frames := 1, cells := 0, slots := 0, locals := 60 }) (va_Pc [.ref (q 0)] (fun U => EV dC dI cI cZ cB cJ cP cW U ∧ va_P (dC, dI) vwCl [((q 0), .inr (6, [.int d, .int 0, .int 0, .ref (q 1), .ref (q 8), .ref (q 10), .ref (q 11), .ref (q 12), .ref (q 13)]))] U.heap)) (vp_Si (fun r => r = 0)) 0 0 (fun _ => False) := by
  refine Met.ofW (cc := cX6_eaten) (maxL := 3) (ret := (some .int)) (by decide) rfl ?_
  intro p e s m args below meth c s₁ B hml hv
  obtain ⟨rfl, hE, hP⟩ := hv
  have hx := B.exec
  have hb := B.bytes
  have hr := B.returns
  have hts := atoms_spec (ws := vs_eaten) B.pre
  have hown : s.vm.findClass RX6 = some m.cls := findClass_of_methodNamed B.named
  have hlocks := B.notSynchronized
  have hK := hE.2
  have hA : True := trivial
  have hS : va_S (fun _ => False) s.heap s.heap [] := va_S.rf
  have hl := lv_entry ([.ref (q 0)]) (n := 3) (Nat.le_of_ble_eq_true rfl)
  rw [lg_entry_eq]
  generalize (lg_sl ([.ref (q 0)]) ++ List.replicate (3 - (lg_sl ([.ref (q 0)])).length) Slot.unset).toArray = ls at hl ⊢
  have hl : lv_has ls 3 [(0, .ref (q 0))] := hl
  refine lv_iconst (v := 0) hx hb dX6_eaten_0 (by decide) ?_
  refine lv_istore_n (lv' := [(1, .int 0), (0, .ref (q 0))]) hx hb dX6_eaten_1 rfl hl (by decide) rfl (fun ls hl => ?_)
  refine lv_iconst (v := 0) hx hb dX6_eaten_2 (by decide) ?_
  refine lv_istore_n (lv' := [(2, .int 0), (1, .int 0), (0, .ref (q 0))]) hx hb dX6_eaten_3 rfl hl (by decide) rfl (fun ls hl => ?_)
  refine lv_iload_n hx hb dX6_eaten_4 rfl (lv_at hl 0 rfl) ?_
  refine lv_aload_n hx hb dX6_eaten_5 rfl (lv_at hl 2 rfl) ?_
  refine va_get (D := (dC, dI)) (ci := 6) (v := .int 0) (C := RX6) (T := TX6) (N := 9) hx hb hts in_eaten_X6 hown hK hP 0 rfl rfl 2 (by decide) (hts (.fieldLink RX6 58 "DepotMarch$World" "parties" "I") (by decide +kernel)) (fun _ h9 => h9) rfl dX6_eaten_6 ?_
  refine lv_icmp_ge (tgt := 36) hx hb dX6_eaten_9 (by decide) (fun _ => ?_) (fun c9 => absurd (by decide) c9)
  refine lv_iload_n hx hb dX6_eaten_36 rfl (lv_at hl 1 rfl) ?_
  exact W.iret (v := 0) hx hb hr (fun t ht hW => ⟨0, rfl, rfl, ht⟩) (fun q h => by cases h) dX6_eaten_37

def vs_partiesAt : List Cond := [.code yX6_partiesAt cX6_partiesAt 4 (some .int), .fieldLink RX6 58 "DepotMarch$World" "parties" "I"] ++ (wsX60)
theorem in_partiesAt_X6 : ∀ w ∈ u_ws RX6 TX6 9, w ∈ vs_partiesAt := fun w h => List.mem_append_right _ (h)
set_option maxHeartbeats 4000000 in
set_option maxRecDepth 100000 in
theorem c_partiesAt (l : Launch) (dC : Nat → ClassId) (dI : Nat → Nat → Nat) (cI cZ cB cJ cP cW : ClassId) (q : Nat → Nat) (d : Int32) (k : Int32) : Met l yX6_partiesAt vs_partiesAt ({ frames := 1, cells := 0, slots := 0, locals := 60 }) (va_Pc [.ref (q 0), .int k] (fun U => EV dC dI cI cZ cB cJ cP cW U ∧ va_P (dC, dI) vwCl [((q 0), .inr (6, [.int d, .int 0, .int 0, .ref (q 1), .ref (q 8), .ref (q 10), .ref (q 11), .ref (q 12), .ref (q 13)]))] U.heap)) (vp_Si (fun r => r = 0)) 0 0 (fun _ => False) := by
  refine Met.ofW (cc := cX6_partiesAt) (maxL := 4) (ret := (some .int)) (by decide) rfl ?_
  intro p e s m args below meth c s₁ B hml hv
  obtain ⟨rfl, hE, hP⟩ := hv
  have hx := B.exec
  have hb := B.bytes
  have hr := B.returns
  have hts := atoms_spec (ws := vs_partiesAt) B.pre
  have hown : s.vm.findClass RX6 = some m.cls := findClass_of_methodNamed B.named
  have hlocks := B.notSynchronized
  have hK := hE.2
  have hA : True := trivial
  have hS : va_S (fun _ => False) s.heap s.heap [] := va_S.rf
  have hl := lv_entry ([.ref (q 0), .int k]) (n := 4) (Nat.le_of_ble_eq_true rfl)
  rw [lg_entry_eq]
  generalize (lg_sl ([.ref (q 0), .int k]) ++ List.replicate (4 - (lg_sl ([.ref (q 0), .int k])).length) Slot.unset).toArray = ls at hl ⊢
  have hl : lv_has ls 4 [(0, .ref (q 0)), (1, .int k)] := hl
  refine lv_iconst (v := 0) hx hb dX6_partiesAt_0 (by decide) ?_
  refine lv_istore_n (lv' := [(2, .int 0), (0, .ref (q 0)), (1, .int k)]) hx hb dX6_partiesAt_1 rfl hl (by decide) rfl (fun ls hl => ?_)
  refine lv_iconst (v := 0) hx hb dX6_partiesAt_2 (by decide) ?_
  refine lv_istore_n (lv' := [(3, .int 0), (2, .int 0), (0, .ref (q 0)), (1, .int k)]) hx hb dX6_partiesAt_3 rfl hl (by decide) rfl (fun ls hl => ?_)
  refine lv_iload_n hx hb dX6_partiesAt_4 rfl (lv_at hl 0 rfl) ?_
  refine lv_aload_n hx hb dX6_partiesAt_5 rfl (lv_at hl 2 rfl) ?_
  refine va_get (D := (dC, dI)) (ci := 6) (v := .int 0) (C := RX6) (T := TX6) (N := 9) hx hb hts in_partiesAt_X6 hown hK hP 0 rfl rfl 2 (by decide) (hts (.fieldLink RX6 58 "DepotMarch$World" "parties" "I") (by decide +kernel)) (fun _ h9 => h9) rfl dX6_partiesAt_6 ?_
  refine lv_icmp_ge (tgt := 57) hx hb dX6_partiesAt_9 (by decide) (fun _ => ?_) (fun c9 => absurd (by decide) c9)
  refine lv_iload_n hx hb dX6_partiesAt_57 rfl (lv_at hl 1 rfl) ?_
  exact W.iret (v := 0) hx hb hr (fun t ht hW => ⟨0, rfl, rfl, ht⟩) (fun q h => by cases h) dX6_partiesAt_58

def vs_letterAt : List Cond := [.code yX6_letterAt cX6_letterAt 2 (some .int), .code yX7_within cX7_within 2 (some .boolean), .initialized RX7, .static yX7_within, .fieldLink RX6 29 "DepotMarch$World" "letters" "[I"] ++ (wsX60)
theorem in_letterAt_X6 : ∀ w ∈ u_ws RX6 TX6 9, w ∈ vs_letterAt := fun w h => List.mem_append_right _ (h)
set_option maxRecDepth 20000 in
theorem gg_letterAt_within : GoodIn vs_letterAt vs_within := goodIn_r _ [1] (by decide +kernel) (by decide +kernel)
set_option maxHeartbeats 4000000 in
set_option maxRecDepth 100000 in
theorem c_letterAt (l : Launch) (dC : Nat → ClassId) (dI : Nat → Nat → Nat) (cI cZ cB cJ cP cW : ClassId) (q : Nat → Nat) (d : Int32) (k : Int32) : Met l yX6_letterAt vs_letterAt ({ frames := 2, cells := 0, slots := 0, locals := 120 }) (va_Pc [.ref (q 0), .int k] (fun U => EV dC dI cI cZ cB cJ cP cW U ∧ va_P (dC, dI) vwCl [((q 0), .inr (6, [.int d, .int 0, .int 0, .ref (q 1), .ref (q 8), .ref (q 10), .ref (q 11), .ref (q 12), .ref (q 13)])), ((q 11), .inl (cI, 16, .inl (fun _ => (-1))))] U.heap)) (vp_Si (fun r => r = -1)) 0 0 (fun _ => False) := by
  refine Met.ofW (cc := cX6_letterAt) (maxL := 2) (ret := (some .int)) (by decide) rfl ?_
  intro p e s m args below meth c s₁ B hml hv
  obtain ⟨rfl, hE, hP⟩ := hv
  have hx := B.exec
  have hb := B.bytes
  have hr := B.returns
  have hts := atoms_spec (ws := vs_letterAt) B.pre
  have hown : s.vm.findClass RX6 = some m.cls := findClass_of_methodNamed B.named
  have hlocks := B.notSynchronized
  have hK := hE.2
  have hA : True := trivial
  have hS : va_S (fun _ => False) s.heap s.heap [] := va_S.rf
  have hl := lv_entry ([.ref (q 0), .int k]) (n := 2) (Nat.le_of_ble_eq_true rfl)
  rw [lg_entry_eq]
  generalize (lg_sl ([.ref (q 0), .int k]) ++ List.replicate (2 - (lg_sl ([.ref (q 0), .int k])).length) Slot.unset).toArray = ls at hl ⊢
  have hl : lv_has ls 2 [(0, .ref (q 0)), (1, .int k)] := hl
  refine lv_iload_n hx hb dX6_letterAt_0 rfl (lv_at hl 1 rfl) ?_
  refine lv_bipush (v := 16) hx hb dX6_letterAt_1 (by decide) ?_
  refine vp_callSi (va_Run.run (va_runSN (As := [.int k, .int 16]) (rest := []) ⟨hx, hb, hml, hown, hts⟩ (c_within l dC dI cI cZ cB cJ cP cW k 16) ⟨(va_cnB 2 hts gg_letterAt_within rfl rfl rfl hE.1.n_World_77 (hts (.initialized RX7) (by decide +kernel)) (by decide +kernel) ⟨Nat.le_of_ble_eq_true rfl, Nat.le_of_ble_eq_true rfl⟩), (hts (.static yX7_within) (by decide +kernel)), trivial⟩ ⟨fbR, fun U hU hW => ⟨rfl, hE.warm hW, by rw [hU]; exact (fun k q h => by simp at h)⟩⟩ rfl rfl hl.1 rfl (lv_room (Nat.le_of_ble_eq_true rfl)) dX6_letterAt_3 ⟨Nat.le_of_ble_eq_true rfl, Nat.le_of_ble_eq_true rfl⟩)) (fun r1 hr1 => ?_)
  obtain rfl : r1 = (wi k 16) := hr1
  refine lv_if_eq (tgt := 18) hx hb dX6_letterAt_6 (by decide) (fun c2 => ?_) (fun c2 => ?_)
  · refine lv_iconst (v := (-1)) hx hb dX6_letterAt_18 (by decide) ?_
    exact W.iret (v := (-1)) hx hb hr (fun t ht hW => ⟨(-1), rfl, rfl, ht⟩) (fun q h => by cases h) dX6_letterAt_19
  · refine lv_aload_n hx hb dX6_letterAt_9 rfl (lv_at hl 0 rfl) ?_
    refine va_get (D := (dC, dI)) (ci := 6) (v := .ref (q 11)) (C := RX6) (T := TX6) (N := 9) hx hb hts in_letterAt_X6 hown hK hP 0 rfl rfl 6 (by decide) (hts (.fieldLink RX6 29 "DepotMarch$World" "letters" "[I") (by decide +kernel)) (fun _ h9 => h9) rfl dX6_letterAt_10 ?_
    refine lv_iload_n hx hb dX6_letterAt_13 rfl (lv_at hl 1 rfl) ?_
    refine va_iald hx hb hK hP 1 0 rfl rfl (wi_in (N := 16) rfl c2) dX6_letterAt_14 ?_
    refine lv_topi (fun x3 ex3 => ?_)
    obtain rfl : x3 = (-1) := ex3.trans rfl
    refine lv_goto (tgt := 19) hx hb dX6_letterAt_15 (by decide) ?_
    exact W.iret (v := (-1)) hx hb hr (fun t ht hW => ⟨(-1), rfl, rfl, ht⟩) (fun q h => by cases h) dX6_letterAt_19

def vs_firstLot : List Cond := [.code yX4_firstLot cX4_firstLot 3 (some .int), .code yX7_within cX7_within 2 (some .boolean), .initialized RX7, .static yX7_within, .fieldLink RX4 46 "DepotMarch$Rows" "used" "I", .fieldLink RX4 9 "DepotMarch$Rows" "first" "[I"] ++ (wsX40)
theorem in_firstLot_X4 : ∀ w ∈ u_ws RX4 TX4 8, w ∈ vs_firstLot := fun w h => List.mem_append_right _ (h)
set_option maxRecDepth 20000 in
theorem gg_firstLot_within : GoodIn vs_firstLot vs_within := goodIn_r _ [1] (by decide +kernel) (by decide +kernel)
set_option maxHeartbeats 4000000 in
set_option maxRecDepth 100000 in
theorem c_firstLot (l : Launch) (dC : Nat → ClassId) (dI : Nat → Nat → Nat) (cI cZ cB cJ cP cW : ClassId) (q : Nat → Nat) (k : Int32) : Met l yX4_firstLot vs_firstLot ({ frames := 2, cells := 0, slots := 0, locals := 120 }) (va_Pc [.ref (q 1), .int k] (fun U => EV dC dI cI cZ cB cJ cP cW U ∧ va_P (dC, dI) vwCl [((q 1), .inr (4, [.ref (q 2), .ref (q 3), .ref (q 4), .ref (q 5), .ref (q 6), .ref (q 7), .int 0, .int (-1)])), ((q 2), .inl (cI, 22, .inl (fun _ => (-1))))] U.heap)) (vp_Si (fun r => r = -1)) 0 0 (fun _ => False) := by
  refine Met.ofW (cc := cX4_firstLot) (maxL := 3) (ret := (some .int)) (by decide) rfl ?_
  intro p e s m args below meth c s₁ B hml hv
  obtain ⟨rfl, hE, hP⟩ := hv
  have hx := B.exec
  have hb := B.bytes
  have hr := B.returns
  have hts := atoms_spec (ws := vs_firstLot) B.pre
  have hown : s.vm.findClass RX4 = some m.cls := findClass_of_methodNamed B.named
  have hlocks := B.notSynchronized
  have hK := hE.2
  have hA : True := trivial
  have hS : va_S (fun _ => False) s.heap s.heap [] := va_S.rf
  have hl := lv_entry ([.ref (q 1), .int k]) (n := 3) (Nat.le_of_ble_eq_true rfl)
  rw [lg_entry_eq]
  generalize (lg_sl ([.ref (q 1), .int k]) ++ List.replicate (3 - (lg_sl ([.ref (q 1), .int k])).length) Slot.unset).toArray = ls at hl ⊢
  have hl : lv_has ls 3 [(0, .ref (q 1)), (1, .int k)] := hl
  refine lv_iload_n hx hb dX4_firstLot_0 rfl (lv_at hl 1 rfl) ?_
  refine lv_bipush (v := 22) hx hb dX4_firstLot_1 (by decide) ?_
  refine vp_callSi (va_Run.run (va_runSN (As := [.int k, .int 22]) (rest := []) ⟨hx, hb, hml, hown, hts⟩ (c_within l dC dI cI cZ cB cJ cP cW k 22) ⟨(va_cnB 2 hts gg_firstLot_within rfl rfl rfl hE.1.n_Rows_49 (hts (.initialized RX7) (by decide +kernel)) (by decide +kernel) ⟨Nat.le_of_ble_eq_true rfl, Nat.le_of_ble_eq_true rfl⟩), (hts (.static yX7_within) (by decide +kernel)), trivial⟩ ⟨fbR, fun U hU hW => ⟨rfl, hE.warm hW, by rw [hU]; exact (fun k q h => by simp at h)⟩⟩ rfl rfl hl.1 rfl (lv_room (Nat.le_of_ble_eq_true rfl)) dX4_firstLot_3 ⟨Nat.le_of_ble_eq_true rfl, Nat.le_of_ble_eq_true rfl⟩)) (fun r1 hr1 => ?_)
  obtain rfl : r1 = (wi k 22) := hr1
  refine lv_if_eq (tgt := 18) hx hb dX4_firstLot_6 (by decide) (fun c2 => ?_) (fun c2 => ?_)
  · refine lv_iconst (v := (-1)) hx hb dX4_firstLot_18 (by decide) ?_
    refine lv_istore_n (lv' := [(2, .int (-1)), (0, .ref (q 1)), (1, .int k)]) hx hb dX4_firstLot_19 rfl hl (by decide) rfl (fun ls hl => ?_)
    refine lv_iload_n hx hb dX4_firstLot_20 rfl (lv_at hl 0 rfl) ?_
    refine lv_aload_n hx hb dX4_firstLot_21 rfl (lv_at hl 1 rfl) ?_
    refine va_get (D := (dC, dI)) (ci := 4) (v := .int 0) (C := RX4) (T := TX4) (N := 8) hx hb hts in_firstLot_X4 hown hK hP 0 rfl rfl 6 (by decide) (hts (.fieldLink RX4 46 "DepotMarch$Rows" "used" "I") (by decide +kernel)) (fun _ h9 => h9) rfl dX4_firstLot_22 ?_
    refine vp_callSi (va_Run.run (va_runSN (As := [.int (-1), .int 0]) (rest := []) ⟨hx, hb, hml, hown, hts⟩ (c_within l dC dI cI cZ cB cJ cP cW (-1) 0) ⟨(va_cnB 2 hts gg_firstLot_within rfl rfl rfl hE.1.n_Rows_49 (hts (.initialized RX7) (by decide +kernel)) (by decide +kernel) ⟨Nat.le_of_ble_eq_true rfl, Nat.le_of_ble_eq_true rfl⟩), (hts (.static yX7_within) (by decide +kernel)), trivial⟩ ⟨fbR, fun U hU hW => ⟨rfl, hE.warm hW, by rw [hU]; exact (fun k q h => by simp at h)⟩⟩ rfl rfl hl.1 rfl (lv_room (Nat.le_of_ble_eq_true rfl)) dX4_firstLot_25 ⟨Nat.le_of_ble_eq_true rfl, Nat.le_of_ble_eq_true rfl⟩)) (fun r3 hr3 => ?_)
    obtain rfl : r3 = 0 := hr3.trans (wi_0 _)
    refine lv_if_eq (tgt := 40) hx hb dX4_firstLot_28 (by decide) (fun _ => ?_) (fun c9 => absurd (by decide) c9)
    refine lv_iconst (v := (-1)) hx hb dX4_firstLot_40 (by decide) ?_
    exact W.iret (v := (-1)) hx hb hr (fun t ht hW => ⟨(-1), rfl, rfl, ht⟩) (fun q h => by cases h) dX4_firstLot_41
  · refine lv_aload_n hx hb dX4_firstLot_9 rfl (lv_at hl 0 rfl) ?_
    refine va_get (D := (dC, dI)) (ci := 4) (v := .ref (q 2)) (C := RX4) (T := TX4) (N := 8) hx hb hts in_firstLot_X4 hown hK hP 0 rfl rfl 0 (by decide) (hts (.fieldLink RX4 9 "DepotMarch$Rows" "first" "[I") (by decide +kernel)) (fun _ h9 => h9) rfl dX4_firstLot_10 ?_
    refine lv_iload_n hx hb dX4_firstLot_13 rfl (lv_at hl 1 rfl) ?_
    refine va_iald hx hb hK hP 1 0 rfl rfl (wi_in (N := 22) rfl c2) dX4_firstLot_14 ?_
    refine lv_topi (fun x5 ex5 => ?_)
    obtain rfl : x5 = (-1) := ex5.trans rfl
    refine lv_goto (tgt := 19) hx hb dX4_firstLot_15 (by decide) ?_
    refine lv_istore_n (lv' := [(2, .int (-1)), (0, .ref (q 1)), (1, .int k)]) hx hb dX4_firstLot_19 rfl hl (by decide) rfl (fun ls hl => ?_)
    refine lv_iload_n hx hb dX4_firstLot_20 rfl (lv_at hl 0 rfl) ?_
    refine lv_aload_n hx hb dX4_firstLot_21 rfl (lv_at hl 1 rfl) ?_
    refine va_get (D := (dC, dI)) (ci := 4) (v := .int 0) (C := RX4) (T := TX4) (N := 8) hx hb hts in_firstLot_X4 hown hK hP 0 rfl rfl 6 (by decide) (hts (.fieldLink RX4 46 "DepotMarch$Rows" "used" "I") (by decide +kernel)) (fun _ h9 => h9) rfl dX4_firstLot_22 ?_
    refine vp_callSi (va_Run.run (va_runSN (As := [.int (-1), .int 0]) (rest := []) ⟨hx, hb, hml, hown, hts⟩ (c_within l dC dI cI cZ cB cJ cP cW (-1) 0) ⟨(va_cnB 2 hts gg_firstLot_within rfl rfl rfl hE.1.n_Rows_49 (hts (.initialized RX7) (by decide +kernel)) (by decide +kernel) ⟨Nat.le_of_ble_eq_true rfl, Nat.le_of_ble_eq_true rfl⟩), (hts (.static yX7_within) (by decide +kernel)), trivial⟩ ⟨fbR, fun U hU hW => ⟨rfl, hE.warm hW, by rw [hU]; exact (fun k q h => by simp at h)⟩⟩ rfl rfl hl.1 rfl (lv_room (Nat.le_of_ble_eq_true rfl)) dX4_firstLot_25 ⟨Nat.le_of_ble_eq_true rfl, Nat.le_of_ble_eq_true rfl⟩)) (fun r6 hr6 => ?_)
    obtain rfl : r6 = 0 := hr6.trans (wi_0 _)
    refine lv_if_eq (tgt := 40) hx hb dX4_firstLot_28 (by decide) (fun _ => ?_) (fun c9 => absurd (by decide) c9)
    refine lv_iconst (v := (-1)) hx hb dX4_firstLot_40 (by decide) ?_
    exact W.iret (v := (-1)) hx hb hr (fun t ht hW => ⟨(-1), rfl, rfl, ht⟩) (fun q h => by cases h) dX4_firstLot_41

def vs_amountIn : List Cond := [.code yX4_amountIn cX4_amountIn 5 (some .int), .code yX4_amount cX4_amount 2 (some .int), .code yX7_within cX7_within 2 (some .boolean), .initialized RX7, .static yX7_within, .fieldLink RX4 18 "DepotMarch$Rows" "amounts" "[I", .methodLink RX4 53 yX4_amount, .instanceMethod yX4_amount, .selects RX4 yX4_amount yX4_amount, .initialized RX4] ++ (wsX40)
theorem in_amountIn_X4 : ∀ w ∈ u_ws RX4 TX4 8, w ∈ vs_amountIn := fun w h => List.mem_append_right _ (h)
set_option maxRecDepth 20000 in
theorem gg_amountIn_amount : GoodIn vs_amountIn vs_amount := goodIn_r _ [1, 2, 3, 4, 5, 10, 11, 12, 13, 14, 15, 16, 17] (by decide +kernel) (by decide +kernel)
set_option maxRecDepth 20000 in
theorem g53_amountIn_amount : GoodIn vs_amountIn (wsV RX4 53 RX4 yX4_amount vs_amount) := goodIn_app (goodIn_of _ (by decide +kernel)) gg_amountIn_amount
set_option maxHeartbeats 4000000 in
set_option maxRecDepth 100000 in
theorem c_amountIn (l : Launch) (dC : Nat → ClassId) (dI : Nat → Nat → Nat) (cI cZ cB cJ cP cW : ClassId) (q : Nat → Nat) (a1 : Nat) (a2 : Nat) (ha1 : a1 ≤ a2) (ha2 : a2 ≤ 22) : Met l yX4_amountIn vs_amountIn ({ frames := 3, cells := 0, slots := 0, locals := 180 }) (va_Pc [.ref (q 1), .int (nI a1), .int (nI a2)] (fun U => EV dC dI cI cZ cB cJ cP cW U ∧ va_P (dC, dI) vwCl [((q 1), .inr (4, [.ref (q 2), .ref (q 3), .ref (q 4), .ref (q 5), .ref (q 6), .ref (q 7), .int 0, .int (-1)])), ((q 4), .inl (cI, 22, .inl (fun _ => 0)))] U.heap)) (vp_Si (fun r => r = 0)) 0 0 (fun _ => False) := by
  refine Met.ofW (cc := cX4_amountIn) (maxL := 5) (ret := (some .int)) (by decide) rfl ?_
  intro p e s m args below meth c s₁ B hml hv
  obtain ⟨rfl, hE, hP⟩ := hv
  have hx := B.exec
  have hb := B.bytes
  have hr := B.returns
  have hts := atoms_spec (ws := vs_amountIn) B.pre
  have hown : s.vm.findClass RX4 = some m.cls := findClass_of_methodNamed B.named
  have hlocks := B.notSynchronized
  have hK := hE.2
  have hA : True := trivial
  have hS : va_S (fun _ => False) s.heap s.heap [] := va_S.rf
  have hl := lv_entry ([.ref (q 1), .int (nI a1), .int (nI a2)]) (n := 5) (Nat.le_of_ble_eq_true rfl)
  rw [lg_entry_eq]
  generalize (lg_sl ([.ref (q 1), .int (nI a1), .int (nI a2)]) ++ List.replicate (5 - (lg_sl ([.ref (q 1), .int (nI a1), .int (nI a2)])).length) Slot.unset).toArray = ls at hl ⊢
  have hl : lv_has ls 5 [(0, .ref (q 1)), (1, .int (nI a1)), (2, .int (nI a2))] := hl
  refine lv_iconst (v := 0) hx hb dX4_amountIn_0 (by decide) ?_
  refine lv_istore_n (lv' := [(3, .int 0), (0, .ref (q 1)), (1, .int (nI a1)), (2, .int (nI a2))]) hx hb dX4_amountIn_1 rfl hl (by decide) rfl (fun ls hl => ?_)
  refine lv_iload_n hx hb dX4_amountIn_2 rfl (lv_at hl 2 rfl) ?_
  refine lv_istore (lv' := [(4, .int (nI a1)), (3, .int 0), (0, .ref (q 1)), (1, .int (nI a1)), (2, .int (nI a2))]) hx hb dX4_amountIn_3 hl (by decide) rfl (fun ls hl => ?_)
  have hl := lv_sub hl [2, 3, 4, 1, 0] rfl
  refine W_loop (σ := Nat) (fun x9 => match x9 with | k => a2 - k) (fun x9 H1 locs ls => match x9 with | k => (k ≤ a2) ∧ H1 = s.heap ∧ locs = [] ∧ lv_has ls 5 [(0, .ref (q 1)), (1, .int (nI a1)), (2, .int (nI a2)), (3, .int 0), (4, .int (nI k))]) (fun x9 H1 locs ls hI9 ih => ?_) a1 _ _ _ ⟨ha1, rfl, rfl, hl⟩
  obtain ⟨k, e9⟩ : ∃ z, z = x9 := ⟨_, rfl⟩; subst e9
  dsimp only at hI9
  obtain ⟨hinv, rfl, rfl, hl⟩ := hI9
  refine lv_iload hx hb dX4_amountIn_5 (lv_at hl 4 rfl) ?_
  refine lv_iload_n hx hb dX4_amountIn_7 rfl (lv_at hl 2 rfl) ?_
  refine lv_icmp_ge (tgt := 26) hx hb dX4_amountIn_8 (by decide) (fun c2 => ?_) (fun c2 => ?_)
  · refine lv_iload_n hx hb dX4_amountIn_26 rfl (lv_at hl 3 rfl) ?_
    exact W.iret (v := 0) hx hb hr (fun t ht hW => ⟨0, rfl, rfl, ht⟩) (fun q h => by cases h) dX4_amountIn_27
  · have hk : k < a2 := Nat.lt_of_not_le (fun h => absurd (nI_le h (by omega)) c2)
    refine lv_iload_n hx hb dX4_amountIn_11 rfl (lv_at hl 3 rfl) ?_
    refine lv_aload_n hx hb dX4_amountIn_12 rfl (lv_at hl 0 rfl) ?_
    refine lv_iload hx hb dX4_amountIn_13 (lv_at hl 4 rfl) ?_
    have hPc := hP.sub (ws' := [((q 1), .inr (4, [.ref (q 2), .ref (q 3), .ref (q 4), .ref (q 5), .ref (q 6), .ref (q 7), .int 0, .int (-1)])), ((q 4), .inl (cI, 22, .inl (fun _ => 0)))]) [0, 1] rfl
    refine vp_callSi (va_Run.run (va_runV (As := [.int (nI k)]) (rest := [.int 0]) ⟨hx, hb, hml, hown, hts⟩ (c_amount l dC dI cI cZ cB cJ cP cW q (fun _ => 0) (nI k)) (cwV 1 hts g53_amountIn_amount rfl rfl rfl (by decide +kernel) ⟨Nat.le_of_ble_eq_true rfl, Nat.le_of_ble_eq_true rfl⟩) ⟨fbR, va_recv hK hPc (ci := 4) (q0 := 0) rfl rfl, fun U hU hW => ⟨rfl, hE.warm hW, by rw [hU]; exact hPc⟩⟩ rfl rfl hl.1 rfl (lv_room (Nat.le_of_ble_eq_true rfl)) dX4_amountIn_15 ⟨Nat.le_of_ble_eq_true rfl, Nat.le_of_ble_eq_true rfl⟩)) (fun r3 hr3 => ?_)
    obtain rfl : r3 = 0 := hr3.trans (by simp)
    refine lv_iadd hx hb dX4_amountIn_18 ?_
    refine lv_topi (fun x4 ex4 => ?_)
    obtain rfl : x4 = 0 := ex4.trans (by decide)
    refine lv_istore_n (lv' := [(3, .int 0), (0, .ref (q 1)), (1, .int (nI a1)), (2, .int (nI a2)), (4, .int (nI k))]) hx hb dX4_amountIn_19 rfl hl (by decide) rfl (fun ls hl => ?_)
    refine lv_iinc (v := (nI (k + 1))) (lv' := [(4, .int (nI (k + 1))), (3, .int 0), (0, .ref (q 1)), (1, .int (nI a1)), (2, .int (nI a2))]) hx hb dX4_amountIn_20 hl (k := 4) rfl (nI_1 k) (by decide) rfl (fun ls hl => ?_)
    refine lv_goto (tgt := 5) hx hb dX4_amountIn_23 (by decide) ?_
    exact ih (k + 1) _ _ _ ⟨hk, rfl, rfl, lv_sub hl [2, 3, 4, 1, 0] rfl⟩ (by show a2 - (k + 1) < a2 - k; omega)

def vs_inStores : List Cond := [.code yX6_inStores cX6_inStores 1 (some .int), .fieldLink RX6 12 "DepotMarch$World" "rows" "LDepotMarch$Rows;", .code yX4_amountIn cX4_amountIn 5 (some .int), .code yX4_amount cX4_amount 2 (some .int), .code yX7_within cX7_within 2 (some .boolean), .initialized RX7, .static yX7_within, .fieldLink RX4 18 "DepotMarch$Rows" "amounts" "[I", .methodLink RX4 53 yX4_amount, .instanceMethod yX4_amount, .selects RX4 yX4_amount yX4_amount, .initialized RX4, .methodLink RX6 142 yX4_amountIn, .instanceMethod yX4_amountIn, .selects RX4 yX4_amountIn yX4_amountIn] ++ (wsX60 ++ (wsX40))
theorem in_inStores_X6 : ∀ w ∈ u_ws RX6 TX6 9, w ∈ vs_inStores := fun w h => List.mem_append_right _ (List.mem_append_left _ h)
theorem in_inStores_X4 : ∀ w ∈ u_ws RX4 TX4 8, w ∈ vs_inStores := fun w h => List.mem_append_right _ (List.mem_append_right _ (h))
set_option maxRecDepth 20000 in
theorem gg_inStores_amountIn : GoodIn vs_inStores vs_amountIn := goodIn_r _ [2, 3, 4, 5, 6, 7, 8, 9, 10, 11, 24, 25, 26, 27, 28, 29, 30, 31] (by decide +kernel) (by decide +kernel)
set_option maxRecDepth 20000 in
theorem g142_inStores_amountIn : GoodIn vs_inStores (wsV RX6 142 RX4 yX4_amountIn vs_amountIn) := goodIn_app (goodIn_of _ (by decide +kernel)) gg_inStores_amountIn
set_option maxHeartbeats 4000000 in
set_option maxRecDepth 100000 in
theorem c_inStores (l : Launch) (dC : Nat → ClassId) (dI : Nat → Nat → Nat) (cI cZ cB cJ cP cW : ClassId) (q : Nat → Nat) (d : Int32) : Met l yX6_inStores vs_inStores ({ frames := 4, cells := 0, slots := 0, locals := 240 }) (va_Pc [.ref (q 0)] (fun U => EV dC dI cI cZ cB cJ cP cW U ∧ va_P (dC, dI) vwCl [((q 0), .inr (6, [.int d, .int 0, .int 0, .ref (q 1), .ref (q 8), .ref (q 10), .ref (q 11), .ref (q 12), .ref (q 13)])), ((q 1), .inr (4, [.ref (q 2), .ref (q 3), .ref (q 4), .ref (q 5), .ref (q 6), .ref (q 7), .int 0, .int (-1)])), ((q 4), .inl (cI, 22, .inl (fun _ => 0)))] U.heap)) (vp_Si (fun r => r = 0)) 0 0 (fun _ => False) := by
  refine Met.ofW (cc := cX6_inStores) (maxL := 1) (ret := (some .int)) (by decide) rfl ?_
  intro p e s m args below meth c s₁ B hml hv
  obtain ⟨rfl, hE, hP⟩ := hv
  have hx := B.exec
  have hb := B.bytes
  have hr := B.returns
  have hts := atoms_spec (ws := vs_inStores) B.pre
  have hown : s.vm.findClass RX6 = some m.cls := findClass_of_methodNamed B.named
  have hlocks := B.notSynchronized
  have hK := hE.2
  have hA : True := trivial
  have hS : va_S (fun _ => False) s.heap s.heap [] := va_S.rf
  have hl := lv_entry ([.ref (q 0)]) (n := 1) (Nat.le_of_ble_eq_true rfl)
  rw [lg_entry_eq]
  generalize (lg_sl ([.ref (q 0)]) ++ List.replicate (1 - (lg_sl ([.ref (q 0)])).length) Slot.unset).toArray = ls at hl ⊢
  have hl : lv_has ls 1 [(0, .ref (q 0))] := hl
  refine lv_aload_n hx hb dX6_inStores_0 rfl (lv_at hl 0 rfl) ?_
  refine va_get (D := (dC, dI)) (ci := 6) (v := .ref (q 1)) (C := RX6) (T := TX6) (N := 9) hx hb hts in_inStores_X6 hown hK hP 0 rfl rfl 3 (by decide) (hts (.fieldLink RX6 12 "DepotMarch$World" "rows" "LDepotMarch$Rows;") (by decide +kernel)) (fun _ h9 => h9) rfl dX6_inStores_1 ?_
  refine lv_iconst (v := 0) hx hb dX6_inStores_4 (by decide) ?_
  refine lv_bipush (v := 16) hx hb dX6_inStores_5 (by decide) ?_
  have hPc := hP.sub (ws' := [((q 1), .inr (4, [.ref (q 2), .ref (q 3), .ref (q 4), .ref (q 5), .ref (q 6), .ref (q 7), .int 0, .int (-1)])), ((q 4), .inl (cI, 22, .inl (fun _ => 0)))]) [1, 2] rfl
  refine vp_callSi (va_Run.run (va_runV (As := [.int 0, .int 16]) (rest := []) ⟨hx, hb, hml, hown, hts⟩ ((c_amountIn l dC dI cI cZ cB cJ cP cW q 0 16) (by decide) (by decide)) (cwV 2 hts g142_inStores_amountIn rfl rfl rfl (by decide +kernel) ⟨Nat.le_of_ble_eq_true rfl, Nat.le_of_ble_eq_true rfl⟩) ⟨fbR, va_recv hK hPc (ci := 4) (q0 := 0) rfl rfl, fun U hU hW => ⟨rfl, hE.warm hW, by rw [hU]; exact hPc⟩⟩ rfl rfl hl.1 rfl (lv_room (Nat.le_of_ble_eq_true rfl)) dX6_inStores_7 ⟨Nat.le_of_ble_eq_true rfl, Nat.le_of_ble_eq_true rfl⟩)) (fun r1 hr1 => ?_)
  obtain rfl : r1 = 0 := hr1
  exact W.iret (v := 0) hx hb hr (fun t ht hW => ⟨0, rfl, rfl, ht⟩) (fun q h => by cases h) dX6_inStores_10

def vs_carried : List Cond := [.code yX6_carried cX6_carried 1 (some .int), .fieldLink RX6 12 "DepotMarch$World" "rows" "LDepotMarch$Rows;", .code yX4_amountIn cX4_amountIn 5 (some .int), .code yX4_amount cX4_amount 2 (some .int), .code yX7_within cX7_within 2 (some .boolean), .initialized RX7, .static yX7_within, .fieldLink RX4 18 "DepotMarch$Rows" "amounts" "[I", .methodLink RX4 53 yX4_amount, .instanceMethod yX4_amount, .selects RX4 yX4_amount yX4_amount, .initialized RX4, .methodLink RX6 142 yX4_amountIn, .instanceMethod yX4_amountIn, .selects RX4 yX4_amountIn yX4_amountIn] ++ (wsX60 ++ (wsX40))
theorem in_carried_X6 : ∀ w ∈ u_ws RX6 TX6 9, w ∈ vs_carried := fun w h => List.mem_append_right _ (List.mem_append_left _ h)
theorem in_carried_X4 : ∀ w ∈ u_ws RX4 TX4 8, w ∈ vs_carried := fun w h => List.mem_append_right _ (List.mem_append_right _ (h))
set_option maxRecDepth 20000 in
theorem gg_carried_amountIn : GoodIn vs_carried vs_amountIn := goodIn_r _ [2, 3, 4, 5, 6, 7, 8, 9, 10, 11, 24, 25, 26, 27, 28, 29, 30, 31] (by decide +kernel) (by decide +kernel)
set_option maxRecDepth 20000 in
theorem g142_carried_amountIn : GoodIn vs_carried (wsV RX6 142 RX4 yX4_amountIn vs_amountIn) := goodIn_app (goodIn_of _ (by decide +kernel)) gg_carried_amountIn
set_option maxHeartbeats 4000000 in
set_option maxRecDepth 100000 in
theorem c_carried (l : Launch) (dC : Nat → ClassId) (dI : Nat → Nat → Nat) (cI cZ cB cJ cP cW : ClassId) (q : Nat → Nat) (d : Int32) : Met l yX6_carried vs_carried ({ frames := 4, cells := 0, slots := 0, locals := 240 }) (va_Pc [.ref (q 0)] (fun U => EV dC dI cI cZ cB cJ cP cW U ∧ va_P (dC, dI) vwCl [((q 0), .inr (6, [.int d, .int 0, .int 0, .ref (q 1), .ref (q 8), .ref (q 10), .ref (q 11), .ref (q 12), .ref (q 13)])), ((q 1), .inr (4, [.ref (q 2), .ref (q 3), .ref (q 4), .ref (q 5), .ref (q 6), .ref (q 7), .int 0, .int (-1)])), ((q 4), .inl (cI, 22, .inl (fun _ => 0)))] U.heap)) (vp_Si (fun r => r = 0)) 0 0 (fun _ => False) := by
  refine Met.ofW (cc := cX6_carried) (maxL := 1) (ret := (some .int)) (by decide) rfl ?_
  intro p e s m args below meth c s₁ B hml hv
  obtain ⟨rfl, hE, hP⟩ := hv
  have hx := B.exec
  have hb := B.bytes
  have hr := B.returns
  have hts := atoms_spec (ws := vs_carried) B.pre
  have hown : s.vm.findClass RX6 = some m.cls := findClass_of_methodNamed B.named
  have hlocks := B.notSynchronized
  have hK := hE.2
  have hA : True := trivial
  have hS : va_S (fun _ => False) s.heap s.heap [] := va_S.rf
  have hl := lv_entry ([.ref (q 0)]) (n := 1) (Nat.le_of_ble_eq_true rfl)
  rw [lg_entry_eq]
  generalize (lg_sl ([.ref (q 0)]) ++ List.replicate (1 - (lg_sl ([.ref (q 0)])).length) Slot.unset).toArray = ls at hl ⊢
  have hl : lv_has ls 1 [(0, .ref (q 0))] := hl
  refine lv_aload_n hx hb dX6_carried_0 rfl (lv_at hl 0 rfl) ?_
  refine va_get (D := (dC, dI)) (ci := 6) (v := .ref (q 1)) (C := RX6) (T := TX6) (N := 9) hx hb hts in_carried_X6 hown hK hP 0 rfl rfl 3 (by decide) (hts (.fieldLink RX6 12 "DepotMarch$World" "rows" "LDepotMarch$Rows;") (by decide +kernel)) (fun _ h9 => h9) rfl dX6_carried_1 ?_
  refine lv_bipush (v := 16) hx hb dX6_carried_4 (by decide) ?_
  refine lv_bipush (v := 22) hx hb dX6_carried_6 (by decide) ?_
  have hPc := hP.sub (ws' := [((q 1), .inr (4, [.ref (q 2), .ref (q 3), .ref (q 4), .ref (q 5), .ref (q 6), .ref (q 7), .int 0, .int (-1)])), ((q 4), .inl (cI, 22, .inl (fun _ => 0)))]) [1, 2] rfl
  refine vp_callSi (va_Run.run (va_runV (As := [.int 16, .int 22]) (rest := []) ⟨hx, hb, hml, hown, hts⟩ ((c_amountIn l dC dI cI cZ cB cJ cP cW q 16 22) (by decide) (by decide)) (cwV 2 hts g142_carried_amountIn rfl rfl rfl (by decide +kernel) ⟨Nat.le_of_ble_eq_true rfl, Nat.le_of_ble_eq_true rfl⟩) ⟨fbR, va_recv hK hPc (ci := 4) (q0 := 0) rfl rfl, fun U hU hW => ⟨rfl, hE.warm hW, by rw [hU]; exact hPc⟩⟩ rfl rfl hl.1 rfl (lv_room (Nat.le_of_ble_eq_true rfl)) dX6_carried_8 ⟨Nat.le_of_ble_eq_true rfl, Nat.le_of_ble_eq_true rfl⟩)) (fun r1 hr1 => ?_)
  obtain rfl : r1 = 0 := hr1
  exact W.iret (v := 0) hx hb hr (fun t ht hW => ⟨0, rfl, rfl, ht⟩) (fun q h => by cases h) dX6_carried_11

def vs_number : List Cond := [.code yX0_number cX0_number 3 (some .int), .code yX0_kept cX0_kept 1 (some .int), .fieldLink RX0 15 "DepotMarch$Book" "lines" "I", .methodLink RX0 29 Lib.Math.min.name, .static Lib.Math.min.name, .initialized "java/lang/Math", .code Lib.Math.min.name Lib.Math.min.code 2 (some .int), .methodLink RX0 19 yX0_kept, .instanceMethod yX0_kept, .selects RX0 yX0_kept yX0_kept, .initialized RX0, .code yX7_within cX7_within 2 (some .boolean), .initialized RX7, .static yX7_within] ++ (wsX00)
theorem in_number_X0 : ∀ w ∈ u_ws RX0 TX0 2, w ∈ vs_number := fun w h => List.mem_append_right _ (h)
set_option maxRecDepth 20000 in
theorem gg_number_kept : GoodIn vs_number vs_kept := goodIn_r _ [1, 2, 3, 4, 5, 6, 14, 15] (by decide +kernel) (by decide +kernel)
set_option maxRecDepth 20000 in
theorem gg_number_within : GoodIn vs_number vs_within := goodIn_r _ [11] (by decide +kernel) (by decide +kernel)
set_option maxRecDepth 20000 in
theorem g19_number_kept : GoodIn vs_number (wsV RX0 19 RX0 yX0_kept vs_kept) := goodIn_app (goodIn_of _ (by decide +kernel)) gg_number_kept
set_option maxHeartbeats 4000000 in
set_option maxRecDepth 100000 in
theorem c_number (l : Launch) (dC : Nat → ClassId) (dI : Nat → Nat → Nat) (cI cZ cB cJ cP cW : ClassId) (q : Nat → Nat) (k : Int32) (w : Int32) : Met l yX0_number vs_number ({ frames := 3, cells := 0, slots := 0, locals := 180 }) (va_Pc [.ref (q 8), .int k, .int w] (fun U => EV dC dI cI cZ cB cJ cP cW U ∧ va_P (dC, dI) vwCl [((q 8), .inr (0, [.int 0, .ref (q 9)]))] U.heap)) (vp_Si (fun r => r = -1)) 0 0 (fun _ => False) := by
  refine Met.ofW (cc := cX0_number) (maxL := 3) (ret := (some .int)) (by decide) rfl ?_
  intro p e s m args below meth c s₁ B hml hv
  obtain ⟨rfl, hE, hP⟩ := hv
  have hx := B.exec
  have hb := B.bytes
  have hr := B.returns
  have hts := atoms_spec (ws := vs_number) B.pre
  have hown : s.vm.findClass RX0 = some m.cls := findClass_of_methodNamed B.named
  have hlocks := B.notSynchronized
  have hK := hE.2
  have hA : True := trivial
  have hS : va_S (fun _ => False) s.heap s.heap [] := va_S.rf
  have hl := lv_entry ([.ref (q 8), .int k, .int w]) (n := 3) (Nat.le_of_ble_eq_true rfl)
  rw [lg_entry_eq]
  generalize (lg_sl ([.ref (q 8), .int k, .int w]) ++ List.replicate (3 - (lg_sl ([.ref (q 8), .int k, .int w])).length) Slot.unset).toArray = ls at hl ⊢
  have hl : lv_has ls 3 [(0, .ref (q 8)), (1, .int k), (2, .int w)] := hl
  refine lv_iload_n hx hb dX0_number_0 rfl (lv_at hl 1 rfl) ?_
  refine lv_aload_n hx hb dX0_number_1 rfl (lv_at hl 0 rfl) ?_
  have hPc := hP.sub (ws' := [((q 8), .inr (0, [.int 0, .ref (q 9)]))]) [0] rfl
  refine vp_callSi (va_Run.run (va_runV (As := []) (rest := [.int k]) ⟨hx, hb, hml, hown, hts⟩ (c_kept l dC dI cI cZ cB cJ cP cW q) (cwV 0 hts g19_number_kept rfl rfl rfl (by decide +kernel) ⟨Nat.le_of_ble_eq_true rfl, Nat.le_of_ble_eq_true rfl⟩) ⟨fbR, va_recv hK hPc (ci := 0) (q0 := 0) rfl rfl, fun U hU hW => ⟨rfl, hE.warm hW, by rw [hU]; exact hPc⟩⟩ rfl rfl hl.1 rfl (lv_room (Nat.le_of_ble_eq_true rfl)) dX0_number_2 ⟨Nat.le_of_ble_eq_true rfl, Nat.le_of_ble_eq_true rfl⟩)) (fun r1 hr1 => ?_)
  obtain rfl : r1 = 0 := hr1
  refine vp_callSi (va_Run.run (va_runSN (As := [.int k, .int 0]) (rest := []) ⟨hx, hb, hml, hown, hts⟩ (c_within l dC dI cI cZ cB cJ cP cW k 0) ⟨(va_cnB 2 hts gg_number_within rfl rfl rfl hE.1.n_Book_35 (hts (.initialized RX7) (by decide +kernel)) (by decide +kernel) ⟨Nat.le_of_ble_eq_true rfl, Nat.le_of_ble_eq_true rfl⟩), (hts (.static yX7_within) (by decide +kernel)), trivial⟩ ⟨fbR, fun U hU hW => ⟨rfl, hE.warm hW, by rw [hU]; exact (fun k q h => by simp at h)⟩⟩ rfl rfl hl.1 rfl (lv_room (Nat.le_of_ble_eq_true rfl)) dX0_number_5 ⟨Nat.le_of_ble_eq_true rfl, Nat.le_of_ble_eq_true rfl⟩)) (fun r2 hr2 => ?_)
  obtain rfl : r2 = 0 := hr2.trans (wi_0 _)
  refine lv_if_eq (tgt := 34) hx hb dX0_number_8 (by decide) (fun _ => ?_) (fun c9 => absurd (by decide) c9)
  refine lv_iconst (v := (-1)) hx hb dX0_number_34 (by decide) ?_
  exact W.iret (v := (-1)) hx hb hr (fun t ht hW => ⟨(-1), rfl, rfl, ht⟩) (fun q h => by cases h) dX0_number_35

def vs_isCarry : List Cond := [.code yX7_isCarryOfNeed cX7_isCarryOfNeed 1 (some .boolean)]
set_option maxHeartbeats 4000000 in
set_option maxRecDepth 100000 in
theorem c_isCarry (l : Launch) (dC : Nat → ClassId) (dI : Nat → Nat → Nat) (cI cZ cB cJ cP cW : ClassId) (k : Int32) : Met l yX7_isCarryOfNeed vs_isCarry ({ frames := 1, cells := 0, slots := 0, locals := 60 }) (va_Pc [.int k] (fun U => EV dC dI cI cZ cB cJ cP cW U ∧ va_P (dC, dI) vwCl [] U.heap)) (vp_Si (fun r => r = inn k 3 200)) 0 0 (fun _ => False) := by
  refine Met.ofW (cc := cX7_isCarryOfNeed) (maxL := 1) (ret := (some .boolean)) (by decide) rfl ?_
  intro p e s m args below meth c s₁ B hml hv
  obtain ⟨rfl, hE, hP⟩ := hv
  have hx := B.exec
  have hb := B.bytes
  have hr := B.returns
  have hts := atoms_spec (ws := vs_isCarry) B.pre
  have hown : s.vm.findClass RX7 = some m.cls := findClass_of_methodNamed B.named
  have hlocks := B.notSynchronized
  have hK := hE.2
  have hA : True := trivial
  have hS : va_S (fun _ => False) s.heap s.heap [] := va_S.rf
  have hl := lv_entry ([.int k]) (n := 1) (Nat.le_of_ble_eq_true rfl)
  rw [lg_entry_eq]
  generalize (lg_sl ([.int k]) ++ List.replicate (1 - (lg_sl ([.int k])).length) Slot.unset).toArray = ls at hl ⊢
  have hl : lv_has ls 1 [(0, .int k)] := hl
  refine lv_iload_n hx hb dX7_isCarryOfNeed_0 rfl (lv_at hl 0 rfl) ?_
  refine lv_iconst (v := 3) hx hb dX7_isCarryOfNeed_1 (by decide) ?_
  refine lv_icmp_lt (tgt := 16) hx hb dX7_isCarryOfNeed_2 (by decide) (fun c1 => ?_) (fun c1 => ?_)
  · refine lv_iconst (v := 0) hx hb dX7_isCarryOfNeed_16 (by decide) ?_
    exact W.zret (v := 0) hx hb hr rfl (fun t ht hW => ⟨0, rfl, (by simp [inn, c1]), ht⟩) (fun q h => by cases h) dX7_isCarryOfNeed_17
  · refine lv_iload_n hx hb dX7_isCarryOfNeed_5 rfl (lv_at hl 0 rfl) ?_
    refine lv_sipush (v := 200) hx hb dX7_isCarryOfNeed_6 (by decide) ?_
    refine lv_icmp_gt (tgt := 16) hx hb dX7_isCarryOfNeed_9 (by decide) (fun c2 => ?_) (fun c2 => ?_)
    · refine lv_iconst (v := 0) hx hb dX7_isCarryOfNeed_16 (by decide) ?_
      exact W.zret (v := 0) hx hb hr rfl (fun t ht hW => ⟨0, rfl, (by simp [inn, c1, c2]), ht⟩) (fun q h => by cases h) dX7_isCarryOfNeed_17
    · refine lv_iconst (v := 1) hx hb dX7_isCarryOfNeed_12 (by decide) ?_
      refine lv_goto (tgt := 17) hx hb dX7_isCarryOfNeed_13 (by decide) ?_
      exact W.zret (v := 1) hx hb hr rfl (fun t ht hW => ⟨1, rfl, (by simp [inn, c1, c2]), ht⟩) (fun q h => by cases h) dX7_isCarryOfNeed_17

def vs_needB : List Cond := [.code yX7_needBehind cX7_needBehind 4 (some .int), .methodLink RX7 218 Lib.Math.max.name, .static Lib.Math.max.name, .initialized "java/lang/Math", .code Lib.Math.max.name Lib.Math.max.code 2 (some .int)]
set_option maxHeartbeats 4000000 in
set_option maxRecDepth 100000 in
theorem c_needB (l : Launch) (dC : Nat → ClassId) (dI : Nat → Nat → Nat) (cI cZ cB cJ cP cW : ClassId) (n : Int32) (k : Int32) : Met l yX7_needBehind vs_needB ({ frames := 2, cells := 0, slots := 0, locals := 120 }) (va_Pc [.int n, .int k] (fun U => EV dC dI cI cZ cB cJ cP cW U ∧ va_P (dC, dI) vwCl [] U.heap)) (vp_Si (fun r => r = nb n k)) 0 0 (fun _ => False) := by
  refine Met.ofW (cc := cX7_needBehind) (maxL := 4) (ret := (some .int)) (by decide) rfl ?_
  intro p e s m args below meth c s₁ B hml hv
  obtain ⟨rfl, hE, hP⟩ := hv
  have hx := B.exec
  have hb := B.bytes
  have hr := B.returns
  have hts := atoms_spec (ws := vs_needB) B.pre
  have hown : s.vm.findClass RX7 = some m.cls := findClass_of_methodNamed B.named
  have hlocks := B.notSynchronized
  have hK := hE.2
  have hA : True := trivial
  have hS : va_S (fun _ => False) s.heap s.heap [] := va_S.rf
  have hl := lv_entry ([.int n, .int k]) (n := 4) (Nat.le_of_ble_eq_true rfl)
  rw [lg_entry_eq]
  generalize (lg_sl ([.int n, .int k]) ++ List.replicate (4 - (lg_sl ([.int n, .int k])).length) Slot.unset).toArray = ls at hl ⊢
  have hl : lv_has ls 4 [(0, .int n), (1, .int k)] := hl
  refine lv_iconst (v := 1) hx hb dX7_needBehind_0 (by decide) ?_
  refine lv_iload_n hx hb dX7_needBehind_1 rfl (lv_at hl 1 rfl) ?_
  refine lv_iconst (v := 2) hx hb dX7_needBehind_2 (by decide) ?_
  refine lv_isub hx hb dX7_needBehind_3 ?_
  refine lv_topi (fun x1 ex1 => ?_)
  refine va_mmax hx hb (hml.trans hl.1.symm) hown (hts (.methodLink RX7 218 Lib.Math.max.name) (by decide +kernel)) (hts (.static Lib.Math.max.name) (by decide +kernel)) (hts (.initialized "java/lang/Math") (by decide +kernel)) (hts (.code Lib.Math.max.name Lib.Math.max.code 2 (some .int)) (by decide +kernel)) (Nat.le_of_ble_eq_true rfl) (Nat.le_of_ble_eq_true rfl) (Nat.le_of_ble_eq_true rfl) (Nat.le_of_ble_eq_true rfl) dX7_needBehind_4 ?_
  refine lv_topi (fun x2 ex2 => ?_)
  refine lv_istore_n (lv' := [(2, .int x2), (0, .int n), (1, .int k)]) hx hb dX7_needBehind_7 rfl hl (by decide) rfl (fun ls hl => ?_)
  refine lv_iconst (v := 1) hx hb dX7_needBehind_8 (by decide) ?_
  refine lv_iload_n hx hb dX7_needBehind_9 rfl (lv_at hl 1 rfl) ?_
  refine lv_iload_n hx hb dX7_needBehind_10 rfl (lv_at hl 0 rfl) ?_
  refine lv_iadd hx hb dX7_needBehind_11 ?_
  refine lv_topi (fun x3 ex3 => ?_)
  refine lv_iconst (v := 1) hx hb dX7_needBehind_12 (by decide) ?_
  refine lv_isub hx hb dX7_needBehind_13 ?_
  refine lv_topi (fun x4 ex4 => ?_)
  refine lv_iload_n hx hb dX7_needBehind_14 rfl (lv_at hl 0 rfl) ?_
  refine lv_idiv hx hb dX7_needBehind_15 (by subst_vars; exact nb_ne k) ?_
  refine lv_topi (fun x5 ex5 => ?_)
  refine va_mmax hx hb (hml.trans hl.1.symm) hown (hts (.methodLink RX7 218 Lib.Math.max.name) (by decide +kernel)) (hts (.static Lib.Math.max.name) (by decide +kernel)) (hts (.initialized "java/lang/Math") (by decide +kernel)) (hts (.code Lib.Math.max.name Lib.Math.max.code 2 (some .int)) (by decide +kernel)) (Nat.le_of_ble_eq_true rfl) (Nat.le_of_ble_eq_true rfl) (Nat.le_of_ble_eq_true rfl) (Nat.le_of_ble_eq_true rfl) dX7_needBehind_16 ?_
  refine lv_topi (fun x6 ex6 => ?_)
  refine lv_istore_n (lv' := [(3, .int x6), (2, .int x2), (0, .int n), (1, .int k)]) hx hb dX7_needBehind_19 rfl hl (by decide) rfl (fun ls hl => ?_)
  refine lv_iload_n hx hb dX7_needBehind_20 rfl (lv_at hl 2 rfl) ?_
  refine lv_iconst (v := 2) hx hb dX7_needBehind_21 (by decide) ?_
  refine lv_iload_n hx hb dX7_needBehind_22 rfl (lv_at hl 0 rfl) ?_
  refine lv_imul hx hb dX7_needBehind_23 ?_
  refine lv_topi (fun x7 ex7 => ?_)
  refine lv_iadd hx hb dX7_needBehind_24 ?_
  refine lv_topi (fun x8 ex8 => ?_)
  exact W.iret (v := x8) hx hb hr (fun t ht hW => ⟨x8, rfl, (by subst_vars; rfl), ht⟩) (fun q h => by cases h) dX7_needBehind_25

def vs_x_orders : List Cond := [.code yX7_orders cX7_orders 3 (some .int), .fieldLink RX7 30 "DepotMarch" "world" "LDepotMarch$World;", .code yX6_partyOf cX6_partyOf 2 (some (.object "DepotMarch$Party")), .fieldLink RX6 58 "DepotMarch$World" "parties" "I", .code yX7_within cX7_within 2 (some .boolean), .initialized RX7, .static yX7_within, .methodLink RX7 50 yX6_partyOf, .instanceMethod yX6_partyOf, .selects RX6 yX6_partyOf yX6_partyOf, .initialized RX6] ++ (wsX70 ++ (wsX60))
theorem in_x_orders_X7 : ∀ w ∈ u_ws RX7 TX7 7, w ∈ vs_x_orders := fun w h => List.mem_append_right _ (List.mem_append_left _ h)
theorem in_x_orders_X6 : ∀ w ∈ u_ws RX6 TX6 9, w ∈ vs_x_orders := fun w h => List.mem_append_right _ (List.mem_append_right _ (h))
set_option maxRecDepth 20000 in
theorem gg_x_orders_partyOf : GoodIn vs_x_orders vs_partyOf := goodIn_r _ [2, 3, 4, 5, 6, 18, 19, 20, 21, 22, 23, 24, 25, 26] (by decide +kernel) (by decide +kernel)
set_option maxRecDepth 20000 in
theorem g50_x_orders_partyOf : GoodIn vs_x_orders (wsV RX7 50 RX6 yX6_partyOf vs_partyOf) := goodIn_app (goodIn_of _ (by decide +kernel)) gg_x_orders_partyOf
set_option maxHeartbeats 4000000 in
set_option maxRecDepth 100000 in
theorem c_x_orders (l : Launch) (dC : Nat → ClassId) (dI : Nat → Nat → Nat) (cI cZ cB cJ cP cW : ClassId) (q : Nat → Nat) (k : Int32) : Met l yX7_orders vs_x_orders ({ frames := 6, cells := 0, slots := 0, locals := 360 }) (va_Pc [.ref (q 32), .int k] (fun U => EV dC dI cI cZ cB cJ cP cW U ∧ va_P (dC, dI) vwCl [((q 32), .inr (7, [.ref (q 33), .int 0, .ref (q 34), .ref (q 40), .ref (q 0), .ref (q 42), .null])), ((q 0), .inr (6, [.int 0, .int 0, .int 0, .ref (q 1), .ref (q 8), .ref (q 10), .ref (q 11), .ref (q 12), .ref (q 13)]))] U.heap)) (vp_Si (fun r => r = -2)) 0 0 (fun _ => False) := by
  refine Met.ofW (cc := cX7_orders) (maxL := 3) (ret := (some .int)) (by decide) rfl ?_
  intro p e s m args below meth c s₁ B hml hv
  obtain ⟨rfl, hE, hP⟩ := hv
  have hx := B.exec
  have hb := B.bytes
  have hr := B.returns
  have hts := atoms_spec (ws := vs_x_orders) B.pre
  have hown : s.vm.findClass RX7 = some m.cls := findClass_of_methodNamed B.named
  have hlocks := B.notSynchronized
  have hK := hE.2
  have hA : True := trivial
  have hS : va_S (fun _ => False) s.heap s.heap [] := va_S.rf
  have hl := lv_entry ([.ref (q 32), .int k]) (n := 3) (Nat.le_of_ble_eq_true rfl)
  rw [lg_entry_eq]
  generalize (lg_sl ([.ref (q 32), .int k]) ++ List.replicate (3 - (lg_sl ([.ref (q 32), .int k])).length) Slot.unset).toArray = ls at hl ⊢
  have hl : lv_has ls 3 [(0, .ref (q 32)), (1, .int k)] := hl
  refine lv_aload_n hx hb dX7_orders_0 rfl (lv_at hl 0 rfl) ?_
  refine va_get (D := (dC, dI)) (ci := 7) (v := .ref (q 0)) (C := RX7) (T := TX7) (N := 7) hx hb hts in_x_orders_X7 hown hK hP 0 rfl rfl 4 (by decide) (hts (.fieldLink RX7 30 "DepotMarch" "world" "LDepotMarch$World;") (by decide +kernel)) (fun _ h9 => h9) rfl dX7_orders_1 ?_
  refine lv_iload_n hx hb dX7_orders_4 rfl (lv_at hl 1 rfl) ?_
  have hPc := hP.sub (ws' := [((q 0), .inr (6, [.int 0, .int 0, .int 0, .ref (q 1), .ref (q 8), .ref (q 10), .ref (q 11), .ref (q 12), .ref (q 13)]))]) [1] rfl
  refine va_csq (va_Run.run (va_runV (As := [.int k]) (rest := []) ⟨hx, hb, hml, hown, hts⟩ (c_partyOf l dC dI cI cZ cB cJ cP cW q 0 k) (cwV 1 hts g50_x_orders_partyOf rfl rfl rfl (by decide +kernel) ⟨Nat.le_of_ble_eq_true rfl, Nat.le_of_ble_eq_true rfl⟩) ⟨fbR, va_recv hK hPc (ci := 6) (q0 := 0) rfl rfl, fun U hU hW => ⟨rfl, hE.warm hW, by rw [hU]; exact hPc⟩⟩ rfl rfl hl.1 rfl (lv_room (Nat.le_of_ble_eq_true rfl)) dX7_orders_5 ⟨Nat.le_of_ble_eq_true rfl, Nat.le_of_ble_eq_true rfl⟩)) (fun r1 hr1 => ?_)
  obtain rfl : r1 = none := hr1
  refine W.eq (g2 := F0 m 8 ls [.null]) rfl ?_
  refine lv_astore_nN (lv' := [(2, .null), (0, .ref (q 32)), (1, .int k)]) hx hb dX7_orders_8 rfl hl (by decide) rfl (fun ls hl => ?_)
  refine lv_aload_nN hx hb dX7_orders_9 rfl (lv_at hl 0 rfl) ?_
  refine lv_ifnullN (tgt := 20) hx hb dX7_orders_10 (by decide) ?_
  refine lv_bipush (v := (-2)) hx hb dX7_orders_20 (by decide) ?_
  exact W.iret (v := (-2)) hx hb hr (fun t ht hW => ⟨(-2), rfl, rfl, ht⟩) (fun q h => by cases h) dX7_orders_22

def vs_x_fault : List Cond := [.code yX7_fault cX7_fault 2 (some .int), .fieldLink RX7 16 "DepotMarch" "reader" "LDepotMarch$Reader;", .fieldLink RX7 64 "DepotMarch$Reader" "fault" "I", .fieldLink RX7 78 "DepotMarch$Reader" "faultPlace" "I"] ++ (wsX70 ++ (wsX30))
theorem in_x_fault_X7 : ∀ w ∈ u_ws RX7 TX7 7, w ∈ vs_x_fault := fun w h => List.mem_append_right _ (List.mem_append_left _ h)
theorem in_x_fault_X3 : ∀ w ∈ u_ws RX3 TX3 8, w ∈ vs_x_fault := fun w h => List.mem_append_right _ (List.mem_append_right _ (h))
set_option maxHeartbeats 4000000 in
set_option maxRecDepth 100000 in
theorem c_x_fault (l : Launch) (dC : Nat → ClassId) (dI : Nat → Nat → Nat) (cI cZ cB cJ cP cW : ClassId) (q : Nat → Nat) (w : Int32) : Met l yX7_fault vs_x_fault ({ frames := 6, cells := 0, slots := 0, locals := 360 }) (va_Pc [.ref (q 32), .int w] (fun U => EV dC dI cI cZ cB cJ cP cW U ∧ va_P (dC, dI) vwCl [((q 32), .inr (7, [.ref (q 33), .int 0, .ref (q 34), .ref (q 40), .ref (q 0), .ref (q 42), .null])), ((q 34), .inr (3, [.int 0, .int (-1), .int 0, .ref (q 35), .int 0, .int 0, .ref (q 39), .int 0]))] U.heap)) (vp_Si (fun r => r = if w = 0 then 0 else -1)) 0 0 (fun _ => False) := by
  refine Met.ofW (cc := cX7_fault) (maxL := 2) (ret := (some .int)) (by decide) rfl ?_
  intro p e s m args below meth c s₁ B hml hv
  obtain ⟨rfl, hE, hP⟩ := hv
  have hx := B.exec
  have hb := B.bytes
  have hr := B.returns
  have hts := atoms_spec (ws := vs_x_fault) B.pre
  have hown : s.vm.findClass RX7 = some m.cls := findClass_of_methodNamed B.named
  have hlocks := B.notSynchronized
  have hK := hE.2
  have hA : True := trivial
  have hS : va_S (fun _ => False) s.heap s.heap [] := va_S.rf
  have hl := lv_entry ([.ref (q 32), .int w]) (n := 2) (Nat.le_of_ble_eq_true rfl)
  rw [lg_entry_eq]
  generalize (lg_sl ([.ref (q 32), .int w]) ++ List.replicate (2 - (lg_sl ([.ref (q 32), .int w])).length) Slot.unset).toArray = ls at hl ⊢
  have hl : lv_has ls 2 [(0, .ref (q 32)), (1, .int w)] := hl
  refine lv_iload_n hx hb dX7_fault_0 rfl (lv_at hl 1 rfl) ?_
  by_cases hs1 : w = 0
  · subst hs1
    refine lv_lookup (tgt := 28) hx hb dX7_fault_1 (by decide) rfl (by decide) ?_
    refine lv_aload_n hx hb dX7_fault_28 rfl (lv_at hl 0 rfl) ?_
    refine va_get (D := (dC, dI)) (ci := 7) (v := .ref (q 34)) (C := RX7) (T := TX7) (N := 7) hx hb hts in_x_fault_X7 hown hK hP 0 rfl rfl 2 (by decide) (hts (.fieldLink RX7 16 "DepotMarch" "reader" "LDepotMarch$Reader;") (by decide +kernel)) (fun _ h9 => h9) rfl dX7_fault_29 ?_
    refine va_get (D := (dC, dI)) (ci := 3) (v := .int 0) (C := RX3) (T := TX3) (N := 8) hx hb hts in_x_fault_X3 hown hK hP 1 rfl rfl 0 (by decide) (hts (.fieldLink RX7 64 "DepotMarch$Reader" "fault" "I") (by decide +kernel)) (fun _ h9 => h9) rfl dX7_fault_32 ?_
    exact W.iret (v := 0) hx hb hr (fun t ht hW => ⟨0, rfl, (by decide), ht⟩) (fun q h => by cases h) dX7_fault_35
  by_cases hs2 : w = 1
  · subst hs2
    refine lv_lookup (tgt := 36) hx hb dX7_fault_1 (by decide) rfl (by decide) ?_
    refine lv_aload_n hx hb dX7_fault_36 rfl (lv_at hl 0 rfl) ?_
    refine va_get (D := (dC, dI)) (ci := 7) (v := .ref (q 34)) (C := RX7) (T := TX7) (N := 7) hx hb hts in_x_fault_X7 hown hK hP 0 rfl rfl 2 (by decide) (hts (.fieldLink RX7 16 "DepotMarch" "reader" "LDepotMarch$Reader;") (by decide +kernel)) (fun _ h9 => h9) rfl dX7_fault_37 ?_
    refine va_get (D := (dC, dI)) (ci := 3) (v := .int (-1)) (C := RX3) (T := TX3) (N := 8) hx hb hts in_x_fault_X3 hown hK hP 1 rfl rfl 1 (by decide) (hts (.fieldLink RX7 78 "DepotMarch$Reader" "faultPlace" "I") (by decide +kernel)) (fun _ h9 => h9) rfl dX7_fault_40 ?_
    exact W.iret (v := (-1)) hx hb hr (fun t ht hW => ⟨(-1), rfl, (by decide), ht⟩) (fun q h => by cases h) dX7_fault_43
  · refine lv_lookup (off := 43) (tgt := 44) hx hb dX7_fault_1 (by decide) ((lv_osw hs1 rfl).trans ((lv_osw hs2 rfl).trans (rfl))) (by decide) ?_
    refine lv_iconst (v := (-1)) hx hb dX7_fault_44 (by decide) ?_
    exact W.iret (v := (-1)) hx hb hr (fun t ht hW => ⟨(-1), rfl, (by simp [hs1, hs2]), ht⟩) (fun q h => by cases h) dX7_fault_45

def vs_x_tell : List Cond := [.code yX7_tell cX7_tell 4 (some .int), .fieldLink RX7 30 "DepotMarch" "world" "LDepotMarch$World;", .code yX6_partyOf cX6_partyOf 2 (some (.object "DepotMarch$Party")), .fieldLink RX6 58 "DepotMarch$World" "parties" "I", .code yX7_within cX7_within 2 (some .boolean), .initialized RX7, .static yX7_within, .methodLink RX7 50 yX6_partyOf, .instanceMethod yX6_partyOf, .selects RX6 yX6_partyOf yX6_partyOf, .initialized RX6] ++ (wsX70 ++ (wsX60))
theorem in_x_tell_X7 : ∀ w ∈ u_ws RX7 TX7 7, w ∈ vs_x_tell := fun w h => List.mem_append_right _ (List.mem_append_left _ h)
theorem in_x_tell_X6 : ∀ w ∈ u_ws RX6 TX6 9, w ∈ vs_x_tell := fun w h => List.mem_append_right _ (List.mem_append_right _ (h))
set_option maxRecDepth 20000 in
theorem gg_x_tell_partyOf : GoodIn vs_x_tell vs_partyOf := goodIn_r _ [2, 3, 4, 5, 6, 18, 19, 20, 21, 22, 23, 24, 25, 26] (by decide +kernel) (by decide +kernel)
set_option maxRecDepth 20000 in
theorem g50_x_tell_partyOf : GoodIn vs_x_tell (wsV RX7 50 RX6 yX6_partyOf vs_partyOf) := goodIn_app (goodIn_of _ (by decide +kernel)) gg_x_tell_partyOf
set_option maxHeartbeats 4000000 in
set_option maxRecDepth 100000 in
theorem c_x_tell (l : Launch) (dC : Nat → ClassId) (dI : Nat → Nat → Nat) (cI cZ cB cJ cP cW : ClassId) (q : Nat → Nat) (k : Int32) (w : Int32) : Met l yX7_tell vs_x_tell ({ frames := 6, cells := 0, slots := 0, locals := 360 }) (va_Pc [.ref (q 32), .int k, .int w] (fun U => EV dC dI cI cZ cB cJ cP cW U ∧ va_P (dC, dI) vwCl [((q 32), .inr (7, [.ref (q 33), .int 0, .ref (q 34), .ref (q 40), .ref (q 0), .ref (q 42), .null])), ((q 0), .inr (6, [.int 0, .int 0, .int 0, .ref (q 1), .ref (q 8), .ref (q 10), .ref (q 11), .ref (q 12), .ref (q 13)]))] U.heap)) (vp_Si (fun r => r = -1)) 0 0 (fun _ => False) := by
  refine Met.ofW (cc := cX7_tell) (maxL := 4) (ret := (some .int)) (by decide) rfl ?_
  intro p e s m args below meth c s₁ B hml hv
  obtain ⟨rfl, hE, hP⟩ := hv
  have hx := B.exec
  have hb := B.bytes
  have hr := B.returns
  have hts := atoms_spec (ws := vs_x_tell) B.pre
  have hown : s.vm.findClass RX7 = some m.cls := findClass_of_methodNamed B.named
  have hlocks := B.notSynchronized
  have hK := hE.2
  have hA : True := trivial
  have hS : va_S (fun _ => False) s.heap s.heap [] := va_S.rf
  have hl := lv_entry ([.ref (q 32), .int k, .int w]) (n := 4) (Nat.le_of_ble_eq_true rfl)
  rw [lg_entry_eq]
  generalize (lg_sl ([.ref (q 32), .int k, .int w]) ++ List.replicate (4 - (lg_sl ([.ref (q 32), .int k, .int w])).length) Slot.unset).toArray = ls at hl ⊢
  have hl : lv_has ls 4 [(0, .ref (q 32)), (1, .int k), (2, .int w)] := hl
  refine lv_aload_n hx hb dX7_tell_0 rfl (lv_at hl 0 rfl) ?_
  refine va_get (D := (dC, dI)) (ci := 7) (v := .ref (q 0)) (C := RX7) (T := TX7) (N := 7) hx hb hts in_x_tell_X7 hown hK hP 0 rfl rfl 4 (by decide) (hts (.fieldLink RX7 30 "DepotMarch" "world" "LDepotMarch$World;") (by decide +kernel)) (fun _ h9 => h9) rfl dX7_tell_1 ?_
  refine lv_iload_n hx hb dX7_tell_4 rfl (lv_at hl 1 rfl) ?_
  have hPc := hP.sub (ws' := [((q 0), .inr (6, [.int 0, .int 0, .int 0, .ref (q 1), .ref (q 8), .ref (q 10), .ref (q 11), .ref (q 12), .ref (q 13)]))]) [1] rfl
  refine va_csq (va_Run.run (va_runV (As := [.int k]) (rest := []) ⟨hx, hb, hml, hown, hts⟩ (c_partyOf l dC dI cI cZ cB cJ cP cW q 0 k) (cwV 1 hts g50_x_tell_partyOf rfl rfl rfl (by decide +kernel) ⟨Nat.le_of_ble_eq_true rfl, Nat.le_of_ble_eq_true rfl⟩) ⟨fbR, va_recv hK hPc (ci := 6) (q0 := 0) rfl rfl, fun U hU hW => ⟨rfl, hE.warm hW, by rw [hU]; exact hPc⟩⟩ rfl rfl hl.1 rfl (lv_room (Nat.le_of_ble_eq_true rfl)) dX7_tell_5 ⟨Nat.le_of_ble_eq_true rfl, Nat.le_of_ble_eq_true rfl⟩)) (fun r1 hr1 => ?_)
  obtain rfl : r1 = none := hr1
  refine W.eq (g2 := F0 m 8 ls [.null]) rfl ?_
  refine lv_astore_nN (lv' := [(3, .null), (0, .ref (q 32)), (1, .int k), (2, .int w)]) hx hb dX7_tell_8 rfl hl (by decide) rfl (fun ls hl => ?_)
  refine lv_aload_nN hx hb dX7_tell_9 rfl (lv_at hl 0 rfl) ?_
  refine lv_ifnonnullN hx hb dX7_tell_10 ?_
  refine lv_iconst (v := (-1)) hx hb dX7_tell_13 (by decide) ?_
  exact W.iret (v := (-1)) hx hb hr (fun t ht hW => ⟨(-1), rfl, rfl, ht⟩) (fun q h => by cases h) dX7_tell_14

def vs_x_camp : List Cond := [.code yX7_camp cX7_camp 3 (some .int), .code yX7_within cX7_within 2 (some .boolean), .methodLink RX7 156 yX7_within, .static yX7_within, .initialized RX7, .fieldLink RX7 30 "DepotMarch" "world" "LDepotMarch$World;", .fieldLink RX7 123 "DepotMarch$World" "rows" "LDepotMarch$Rows;", .code yX4_amount cX4_amount 2 (some .int), .fieldLink RX4 18 "DepotMarch$Rows" "amounts" "[I", .methodLink RX7 130 yX4_amount, .instanceMethod yX4_amount, .selects RX4 yX4_amount yX4_amount, .initialized RX4, .code yX6_letterAt cX6_letterAt 2 (some .int), .fieldLink RX6 29 "DepotMarch$World" "letters" "[I", .methodLink RX7 160 yX6_letterAt, .instanceMethod yX6_letterAt, .selects RX6 yX6_letterAt yX6_letterAt, .initialized RX6, .code yX6_partiesAt cX6_partiesAt 4 (some .int), .fieldLink RX6 58 "DepotMarch$World" "parties" "I", .methodLink RX7 163 yX6_partiesAt, .instanceMethod yX6_partiesAt, .selects RX6 yX6_partiesAt yX6_partiesAt, .code yX4_firstLot cX4_firstLot 3 (some .int), .fieldLink RX4 46 "DepotMarch$Rows" "used" "I", .fieldLink RX4 9 "DepotMarch$Rows" "first" "[I", .methodLink RX7 166 yX4_firstLot, .instanceMethod yX4_firstLot, .selects RX4 yX4_firstLot yX4_firstLot] ++ (wsX70 ++ (wsX60 ++ (wsX40)))
theorem in_x_camp_X7 : ∀ w ∈ u_ws RX7 TX7 7, w ∈ vs_x_camp := fun w h => List.mem_append_right _ (List.mem_append_left _ h)
theorem in_x_camp_X6 : ∀ w ∈ u_ws RX6 TX6 9, w ∈ vs_x_camp := fun w h => List.mem_append_right _ (List.mem_append_right _ (List.mem_append_left _ h))
theorem in_x_camp_X4 : ∀ w ∈ u_ws RX4 TX4 8, w ∈ vs_x_camp := fun w h => List.mem_append_right _ (List.mem_append_right _ (List.mem_append_right _ (h)))
set_option maxRecDepth 20000 in
theorem gg_x_camp_within : GoodIn vs_x_camp vs_within := goodIn_r _ [1] (by decide +kernel) (by decide +kernel)
set_option maxRecDepth 20000 in
theorem gg_x_camp_amount : GoodIn vs_x_camp vs_amount := goodIn_r _ [7, 1, 4, 3, 8, 46, 47, 48, 49, 50, 51, 52, 53] (by decide +kernel) (by decide +kernel)
set_option maxRecDepth 20000 in
theorem gg_x_camp_letterAt : GoodIn vs_x_camp vs_letterAt := goodIn_r _ [13, 1, 4, 3, 14, 37, 38, 39, 40, 41, 42, 43, 44, 45] (by decide +kernel) (by decide +kernel)
set_option maxRecDepth 20000 in
theorem gg_x_camp_partiesAt : GoodIn vs_x_camp vs_partiesAt := goodIn_r _ [19, 20, 37, 38, 39, 40, 41, 42, 43, 44, 45] (by decide +kernel) (by decide +kernel)
set_option maxRecDepth 20000 in
theorem gg_x_camp_firstLot : GoodIn vs_x_camp vs_firstLot := goodIn_r _ [24, 1, 4, 3, 25, 26, 46, 47, 48, 49, 50, 51, 52, 53] (by decide +kernel) (by decide +kernel)
set_option maxRecDepth 20000 in
theorem g156_x_camp_within : GoodIn vs_x_camp (va_wsS RX7 156 yX7_within vs_within) := goodIn_app (goodIn_of _ (by decide +kernel)) gg_x_camp_within
set_option maxRecDepth 20000 in
theorem g130_x_camp_amount : GoodIn vs_x_camp (wsV RX7 130 RX4 yX4_amount vs_amount) := goodIn_app (goodIn_of _ (by decide +kernel)) gg_x_camp_amount
set_option maxRecDepth 20000 in
theorem g160_x_camp_letterAt : GoodIn vs_x_camp (wsV RX7 160 RX6 yX6_letterAt vs_letterAt) := goodIn_app (goodIn_of _ (by decide +kernel)) gg_x_camp_letterAt
set_option maxRecDepth 20000 in
theorem g163_x_camp_partiesAt : GoodIn vs_x_camp (wsV RX7 163 RX6 yX6_partiesAt vs_partiesAt) := goodIn_app (goodIn_of _ (by decide +kernel)) gg_x_camp_partiesAt
set_option maxRecDepth 20000 in
theorem g166_x_camp_firstLot : GoodIn vs_x_camp (wsV RX7 166 RX4 yX4_firstLot vs_firstLot) := goodIn_app (goodIn_of _ (by decide +kernel)) gg_x_camp_firstLot
set_option maxHeartbeats 4000000 in
set_option maxRecDepth 100000 in
theorem c_x_camp (l : Launch) (dC : Nat → ClassId) (dI : Nat → Nat → Nat) (cI cZ cB cJ cP cW : ClassId) (q : Nat → Nat) (k : Int32) (w : Int32) : Met l yX7_camp vs_x_camp ({ frames := 6, cells := 0, slots := 0, locals := 360 }) (va_Pc [.ref (q 32), .int k, .int w] (fun U => EV dC dI cI cZ cB cJ cP cW U ∧ va_P (dC, dI) vwCl [((q 32), .inr (7, [.ref (q 33), .int 0, .ref (q 34), .ref (q 40), .ref (q 0), .ref (q 42), .null])), ((q 0), .inr (6, [.int 0, .int 0, .int 0, .ref (q 1), .ref (q 8), .ref (q 10), .ref (q 11), .ref (q 12), .ref (q 13)])), ((q 1), .inr (4, [.ref (q 2), .ref (q 3), .ref (q 4), .ref (q 5), .ref (q 6), .ref (q 7), .int 0, .int (-1)])), ((q 4), .inl (cI, 22, .inl (fun _ => 0))), ((q 2), .inl (cI, 22, .inl (fun _ => (-1)))), ((q 11), .inl (cI, 16, .inl (fun _ => (-1))))] U.heap)) (vp_Si (fun r => r = xCamp k w)) 0 0 (fun _ => False) := by
  refine Met.ofW (cc := cX7_camp) (maxL := 3) (ret := (some .int)) (by decide) rfl ?_
  intro p e s m args below meth c s₁ B hml hv
  obtain ⟨rfl, hE, hP⟩ := hv
  have hx := B.exec
  have hb := B.bytes
  have hr := B.returns
  have hts := atoms_spec (ws := vs_x_camp) B.pre
  have hown : s.vm.findClass RX7 = some m.cls := findClass_of_methodNamed B.named
  have hlocks := B.notSynchronized
  have hK := hE.2
  have hA : True := trivial
  have hS : va_S (fun _ => False) s.heap s.heap [] := va_S.rf
  have hl := lv_entry ([.ref (q 32), .int k, .int w]) (n := 3) (Nat.le_of_ble_eq_true rfl)
  rw [lg_entry_eq]
  generalize (lg_sl ([.ref (q 32), .int k, .int w]) ++ List.replicate (3 - (lg_sl ([.ref (q 32), .int k, .int w])).length) Slot.unset).toArray = ls at hl ⊢
  have hl : lv_has ls 3 [(0, .ref (q 32)), (1, .int k), (2, .int w)] := hl
  refine lv_iload_n hx hb dX7_camp_0 rfl (lv_at hl 1 rfl) ?_
  refine lv_bipush (v := 16) hx hb dX7_camp_1 (by decide) ?_
  refine vp_callSi (va_Run.run (va_runS (As := [.int k, .int 16]) (rest := []) ⟨hx, hb, hml, hown, hts⟩ (c_within l dC dI cI cZ cB cJ cP cW k 16) (va_cwS 2 hts g156_x_camp_within rfl rfl rfl (by decide +kernel) ⟨Nat.le_of_ble_eq_true rfl, Nat.le_of_ble_eq_true rfl⟩) ⟨fbR, fun U hU hW => ⟨rfl, hE.warm hW, by rw [hU]; exact (fun k q h => by simp at h)⟩⟩ rfl rfl hl.1 rfl (lv_room (Nat.le_of_ble_eq_true rfl)) dX7_camp_3 ⟨Nat.le_of_ble_eq_true rfl, Nat.le_of_ble_eq_true rfl⟩)) (fun r1 hr1 => ?_)
  obtain rfl : r1 = (wi k 16) := hr1
  refine lv_if_ne (tgt := 11) hx hb dX7_camp_6 (by decide) (fun c2 => ?_) (fun c2 => ?_)
  · refine lv_iload_n hx hb dX7_camp_11 rfl (lv_at hl 2 rfl) ?_
    by_cases hsw : w.toInt < 0 ∨ 3 < w.toInt
    · refine lv_tableOut (tgt := 86) hx hb dX7_camp_12 hsw (by decide) ?_
      refine lv_iconst (v := (-1)) hx hb dX7_camp_86 (by decide) ?_
      exact W.iret (v := (-1)) hx hb hr (fun t ht hW => ⟨(-1), rfl, (by rw [xCamp, if_neg c2, if_neg (n_out3 hsw).1, if_neg (n_out3 hsw).2]), ht⟩) (fun q h => by cases h) dX7_camp_87
    · have hsx : w = 0 ∨ w = 1 ∨ w = 2 ∨ w = 3 := n_cases0_3 hsw
      rcases hsx with rfl | rfl | rfl | rfl
      · refine lv_tableIn (tgt := 44) hx hb dX7_camp_12 (by decide) (by decide) rfl (by decide) ?_
        refine lv_aload_n hx hb dX7_camp_44 rfl (lv_at hl 0 rfl) ?_
        refine va_get (D := (dC, dI)) (ci := 7) (v := .ref (q 0)) (C := RX7) (T := TX7) (N := 7) hx hb hts in_x_camp_X7 hown hK hP 0 rfl rfl 4 (by decide) (hts (.fieldLink RX7 30 "DepotMarch" "world" "LDepotMarch$World;") (by decide +kernel)) (fun _ h9 => h9) rfl dX7_camp_45 ?_
        refine va_get (D := (dC, dI)) (ci := 6) (v := .ref (q 1)) (C := RX6) (T := TX6) (N := 9) hx hb hts in_x_camp_X6 hown hK hP 1 rfl rfl 3 (by decide) (hts (.fieldLink RX7 123 "DepotMarch$World" "rows" "LDepotMarch$Rows;") (by decide +kernel)) (fun _ h9 => h9) rfl dX7_camp_48 ?_
        refine lv_iload_n hx hb dX7_camp_51 rfl (lv_at hl 1 rfl) ?_
        have hPc := hP.sub (ws' := [((q 1), .inr (4, [.ref (q 2), .ref (q 3), .ref (q 4), .ref (q 5), .ref (q 6), .ref (q 7), .int 0, .int (-1)])), ((q 4), .inl (cI, 22, .inl (fun _ => 0)))]) [2, 3] rfl
        refine vp_callSi (va_Run.run (va_runV (As := [.int k]) (rest := []) ⟨hx, hb, hml, hown, hts⟩ (c_amount l dC dI cI cZ cB cJ cP cW q (fun _ => 0) k) (cwV 1 hts g130_x_camp_amount rfl rfl rfl (by decide +kernel) ⟨Nat.le_of_ble_eq_true rfl, Nat.le_of_ble_eq_true rfl⟩) ⟨fbR, va_recv hK hPc (ci := 4) (q0 := 0) rfl rfl, fun U hU hW => ⟨rfl, hE.warm hW, by rw [hU]; exact hPc⟩⟩ rfl rfl hl.1 rfl (lv_room (Nat.le_of_ble_eq_true rfl)) dX7_camp_52 ⟨Nat.le_of_ble_eq_true rfl, Nat.le_of_ble_eq_true rfl⟩)) (fun r3 hr3 => ?_)
        obtain rfl : r3 = 0 := hr3.trans (by simp)
        exact W.iret (v := 0) hx hb hr (fun t ht hW => ⟨0, rfl, (by rw [xCamp, if_neg c2]; decide), ht⟩) (fun q h => by cases h) dX7_camp_55
      · refine lv_tableIn (tgt := 56) hx hb dX7_camp_12 (by decide) (by decide) rfl (by decide) ?_
        refine lv_aload_n hx hb dX7_camp_56 rfl (lv_at hl 0 rfl) ?_
        refine va_get (D := (dC, dI)) (ci := 7) (v := .ref (q 0)) (C := RX7) (T := TX7) (N := 7) hx hb hts in_x_camp_X7 hown hK hP 0 rfl rfl 4 (by decide) (hts (.fieldLink RX7 30 "DepotMarch" "world" "LDepotMarch$World;") (by decide +kernel)) (fun _ h9 => h9) rfl dX7_camp_57 ?_
        refine lv_iload_n hx hb dX7_camp_60 rfl (lv_at hl 1 rfl) ?_
        have hPc := hP.sub (ws' := [((q 0), .inr (6, [.int 0, .int 0, .int 0, .ref (q 1), .ref (q 8), .ref (q 10), .ref (q 11), .ref (q 12), .ref (q 13)])), ((q 11), .inl (cI, 16, .inl (fun _ => (-1))))]) [1, 5] rfl
        refine vp_callSi (va_Run.run (va_runV (As := [.int k]) (rest := []) ⟨hx, hb, hml, hown, hts⟩ (c_letterAt l dC dI cI cZ cB cJ cP cW q 0 k) (cwV 1 hts g160_x_camp_letterAt rfl rfl rfl (by decide +kernel) ⟨Nat.le_of_ble_eq_true rfl, Nat.le_of_ble_eq_true rfl⟩) ⟨fbR, va_recv hK hPc (ci := 6) (q0 := 0) rfl rfl, fun U hU hW => ⟨rfl, hE.warm hW, by rw [hU]; exact hPc⟩⟩ rfl rfl hl.1 rfl (lv_room (Nat.le_of_ble_eq_true rfl)) dX7_camp_61 ⟨Nat.le_of_ble_eq_true rfl, Nat.le_of_ble_eq_true rfl⟩)) (fun r4 hr4 => ?_)
        obtain rfl : r4 = (-1) := hr4
        exact W.iret (v := (-1)) hx hb hr (fun t ht hW => ⟨(-1), rfl, (by rw [xCamp, if_neg c2]; decide), ht⟩) (fun q h => by cases h) dX7_camp_64
      · refine lv_tableIn (tgt := 65) hx hb dX7_camp_12 (by decide) (by decide) rfl (by decide) ?_
        refine lv_aload_n hx hb dX7_camp_65 rfl (lv_at hl 0 rfl) ?_
        refine va_get (D := (dC, dI)) (ci := 7) (v := .ref (q 0)) (C := RX7) (T := TX7) (N := 7) hx hb hts in_x_camp_X7 hown hK hP 0 rfl rfl 4 (by decide) (hts (.fieldLink RX7 30 "DepotMarch" "world" "LDepotMarch$World;") (by decide +kernel)) (fun _ h9 => h9) rfl dX7_camp_66 ?_
        refine lv_iload_n hx hb dX7_camp_69 rfl (lv_at hl 1 rfl) ?_
        have hPc := hP.sub (ws' := [((q 0), .inr (6, [.int 0, .int 0, .int 0, .ref (q 1), .ref (q 8), .ref (q 10), .ref (q 11), .ref (q 12), .ref (q 13)]))]) [1] rfl
        refine vp_callSi (va_Run.run (va_runV (As := [.int k]) (rest := []) ⟨hx, hb, hml, hown, hts⟩ (c_partiesAt l dC dI cI cZ cB cJ cP cW q 0 k) (cwV 1 hts g163_x_camp_partiesAt rfl rfl rfl (by decide +kernel) ⟨Nat.le_of_ble_eq_true rfl, Nat.le_of_ble_eq_true rfl⟩) ⟨fbR, va_recv hK hPc (ci := 6) (q0 := 0) rfl rfl, fun U hU hW => ⟨rfl, hE.warm hW, by rw [hU]; exact hPc⟩⟩ rfl rfl hl.1 rfl (lv_room (Nat.le_of_ble_eq_true rfl)) dX7_camp_70 ⟨Nat.le_of_ble_eq_true rfl, Nat.le_of_ble_eq_true rfl⟩)) (fun r5 hr5 => ?_)
        obtain rfl : r5 = 0 := hr5
        exact W.iret (v := 0) hx hb hr (fun t ht hW => ⟨0, rfl, (by rw [xCamp, if_neg c2]; decide), ht⟩) (fun q h => by cases h) dX7_camp_73
      · refine lv_tableIn (tgt := 74) hx hb dX7_camp_12 (by decide) (by decide) rfl (by decide) ?_
        refine lv_aload_n hx hb dX7_camp_74 rfl (lv_at hl 0 rfl) ?_
        refine va_get (D := (dC, dI)) (ci := 7) (v := .ref (q 0)) (C := RX7) (T := TX7) (N := 7) hx hb hts in_x_camp_X7 hown hK hP 0 rfl rfl 4 (by decide) (hts (.fieldLink RX7 30 "DepotMarch" "world" "LDepotMarch$World;") (by decide +kernel)) (fun _ h9 => h9) rfl dX7_camp_75 ?_
        refine va_get (D := (dC, dI)) (ci := 6) (v := .ref (q 1)) (C := RX6) (T := TX6) (N := 9) hx hb hts in_x_camp_X6 hown hK hP 1 rfl rfl 3 (by decide) (hts (.fieldLink RX7 123 "DepotMarch$World" "rows" "LDepotMarch$Rows;") (by decide +kernel)) (fun _ h9 => h9) rfl dX7_camp_78 ?_
        refine lv_iload_n hx hb dX7_camp_81 rfl (lv_at hl 1 rfl) ?_
        have hPc := hP.sub (ws' := [((q 1), .inr (4, [.ref (q 2), .ref (q 3), .ref (q 4), .ref (q 5), .ref (q 6), .ref (q 7), .int 0, .int (-1)])), ((q 2), .inl (cI, 22, .inl (fun _ => (-1))))]) [2, 4] rfl
        refine vp_callSi (va_Run.run (va_runV (As := [.int k]) (rest := []) ⟨hx, hb, hml, hown, hts⟩ (c_firstLot l dC dI cI cZ cB cJ cP cW q k) (cwV 1 hts g166_x_camp_firstLot rfl rfl rfl (by decide +kernel) ⟨Nat.le_of_ble_eq_true rfl, Nat.le_of_ble_eq_true rfl⟩) ⟨fbR, va_recv hK hPc (ci := 4) (q0 := 0) rfl rfl, fun U hU hW => ⟨rfl, hE.warm hW, by rw [hU]; exact hPc⟩⟩ rfl rfl hl.1 rfl (lv_room (Nat.le_of_ble_eq_true rfl)) dX7_camp_82 ⟨Nat.le_of_ble_eq_true rfl, Nat.le_of_ble_eq_true rfl⟩)) (fun r6 hr6 => ?_)
        obtain rfl : r6 = (-1) := hr6
        exact W.iret (v := (-1)) hx hb hr (fun t ht hW => ⟨(-1), rfl, (by rw [xCamp, if_neg c2]; decide), ht⟩) (fun q h => by cases h) dX7_camp_85
  · refine lv_iconst (v := (-1)) hx hb dX7_camp_9 (by decide) ?_
    exact W.iret (v := (-1)) hx hb hr (fun t ht hW => ⟨(-1), rfl, (by simp [xCamp, c2]), ht⟩) (fun q h => by cases h) dX7_camp_10

def vs_x_lot : List Cond := [.code yX7_lot cX7_lot 3 (some .int), .fieldLink RX7 30 "DepotMarch" "world" "LDepotMarch$World;", .fieldLink RX7 169 "DepotMarch$World" "lots" "I", .code yX7_within cX7_within 2 (some .boolean), .methodLink RX7 156 yX7_within, .static yX7_within, .initialized RX7] ++ (wsX70 ++ (wsX60))
theorem in_x_lot_X7 : ∀ w ∈ u_ws RX7 TX7 7, w ∈ vs_x_lot := fun w h => List.mem_append_right _ (List.mem_append_left _ h)
theorem in_x_lot_X6 : ∀ w ∈ u_ws RX6 TX6 9, w ∈ vs_x_lot := fun w h => List.mem_append_right _ (List.mem_append_right _ (h))
set_option maxRecDepth 20000 in
theorem gg_x_lot_within : GoodIn vs_x_lot vs_within := goodIn_r _ [3] (by decide +kernel) (by decide +kernel)
set_option maxRecDepth 20000 in
theorem g156_x_lot_within : GoodIn vs_x_lot (va_wsS RX7 156 yX7_within vs_within) := goodIn_app (goodIn_of _ (by decide +kernel)) gg_x_lot_within
set_option maxHeartbeats 4000000 in
set_option maxRecDepth 100000 in
theorem c_x_lot (l : Launch) (dC : Nat → ClassId) (dI : Nat → Nat → Nat) (cI cZ cB cJ cP cW : ClassId) (q : Nat → Nat) (k : Int32) (w : Int32) : Met l yX7_lot vs_x_lot ({ frames := 6, cells := 0, slots := 0, locals := 360 }) (va_Pc [.ref (q 32), .int k, .int w] (fun U => EV dC dI cI cZ cB cJ cP cW U ∧ va_P (dC, dI) vwCl [((q 32), .inr (7, [.ref (q 33), .int 0, .ref (q 34), .ref (q 40), .ref (q 0), .ref (q 42), .null])), ((q 0), .inr (6, [.int 0, .int 0, .int 0, .ref (q 1), .ref (q 8), .ref (q 10), .ref (q 11), .ref (q 12), .ref (q 13)]))] U.heap)) (vp_Si (fun r => r = -1)) 0 0 (fun _ => False) := by
  refine Met.ofW (cc := cX7_lot) (maxL := 3) (ret := (some .int)) (by decide) rfl ?_
  intro p e s m args below meth c s₁ B hml hv
  obtain ⟨rfl, hE, hP⟩ := hv
  have hx := B.exec
  have hb := B.bytes
  have hr := B.returns
  have hts := atoms_spec (ws := vs_x_lot) B.pre
  have hown : s.vm.findClass RX7 = some m.cls := findClass_of_methodNamed B.named
  have hlocks := B.notSynchronized
  have hK := hE.2
  have hA : True := trivial
  have hS : va_S (fun _ => False) s.heap s.heap [] := va_S.rf
  have hl := lv_entry ([.ref (q 32), .int k, .int w]) (n := 3) (Nat.le_of_ble_eq_true rfl)
  rw [lg_entry_eq]
  generalize (lg_sl ([.ref (q 32), .int k, .int w]) ++ List.replicate (3 - (lg_sl ([.ref (q 32), .int k, .int w])).length) Slot.unset).toArray = ls at hl ⊢
  have hl : lv_has ls 3 [(0, .ref (q 32)), (1, .int k), (2, .int w)] := hl
  refine lv_iload_n hx hb dX7_lot_0 rfl (lv_at hl 1 rfl) ?_
  refine lv_aload_n hx hb dX7_lot_1 rfl (lv_at hl 0 rfl) ?_
  refine va_get (D := (dC, dI)) (ci := 7) (v := .ref (q 0)) (C := RX7) (T := TX7) (N := 7) hx hb hts in_x_lot_X7 hown hK hP 0 rfl rfl 4 (by decide) (hts (.fieldLink RX7 30 "DepotMarch" "world" "LDepotMarch$World;") (by decide +kernel)) (fun _ h9 => h9) rfl dX7_lot_2 ?_
  refine va_get (D := (dC, dI)) (ci := 6) (v := .int 0) (C := RX6) (T := TX6) (N := 9) hx hb hts in_x_lot_X6 hown hK hP 1 rfl rfl 1 (by decide) (hts (.fieldLink RX7 169 "DepotMarch$World" "lots" "I") (by decide +kernel)) (fun _ h9 => h9) rfl dX7_lot_5 ?_
  refine vp_callSi (va_Run.run (va_runS (As := [.int k, .int 0]) (rest := []) ⟨hx, hb, hml, hown, hts⟩ (c_within l dC dI cI cZ cB cJ cP cW k 0) (va_cwS 2 hts g156_x_lot_within rfl rfl rfl (by decide +kernel) ⟨Nat.le_of_ble_eq_true rfl, Nat.le_of_ble_eq_true rfl⟩) ⟨fbR, fun U hU hW => ⟨rfl, hE.warm hW, by rw [hU]; exact (fun k q h => by simp at h)⟩⟩ rfl rfl hl.1 rfl (lv_room (Nat.le_of_ble_eq_true rfl)) dX7_lot_8 ⟨Nat.le_of_ble_eq_true rfl, Nat.le_of_ble_eq_true rfl⟩)) (fun r1 hr1 => ?_)
  obtain rfl : r1 = 0 := hr1.trans (wi_0 _)
  refine lv_if_ne (tgt := 16) hx hb dX7_lot_11 (by decide) (fun c9 => absurd (by decide) c9) (fun _ => ?_)
  refine lv_iconst (v := (-1)) hx hb dX7_lot_14 (by decide) ?_
  exact W.iret (v := (-1)) hx hb hr (fun t ht hW => ⟨(-1), rfl, rfl, ht⟩) (fun q h => by cases h) dX7_lot_15

def vs_x_line : List Cond := [.code yX7_line cX7_line 3 (some .int), .fieldLink RX7 30 "DepotMarch" "world" "LDepotMarch$World;", .fieldLink RX7 190 "DepotMarch$World" "book" "LDepotMarch$Book;", .code yX0_number cX0_number 3 (some .int), .code yX0_kept cX0_kept 1 (some .int), .fieldLink RX0 15 "DepotMarch$Book" "lines" "I", .methodLink RX0 29 Lib.Math.min.name, .static Lib.Math.min.name, .initialized "java/lang/Math", .code Lib.Math.min.name Lib.Math.min.code 2 (some .int), .methodLink RX0 19 yX0_kept, .instanceMethod yX0_kept, .selects RX0 yX0_kept yX0_kept, .initialized RX0, .code yX7_within cX7_within 2 (some .boolean), .initialized RX7, .static yX7_within, .methodLink RX7 194 yX0_number, .instanceMethod yX0_number, .selects RX0 yX0_number yX0_number] ++ (wsX70 ++ (wsX60 ++ (wsX00)))
theorem in_x_line_X7 : ∀ w ∈ u_ws RX7 TX7 7, w ∈ vs_x_line := fun w h => List.mem_append_right _ (List.mem_append_left _ h)
theorem in_x_line_X6 : ∀ w ∈ u_ws RX6 TX6 9, w ∈ vs_x_line := fun w h => List.mem_append_right _ (List.mem_append_right _ (List.mem_append_left _ h))
theorem in_x_line_X0 : ∀ w ∈ u_ws RX0 TX0 2, w ∈ vs_x_line := fun w h => List.mem_append_right _ (List.mem_append_right _ (List.mem_append_right _ (h)))
set_option maxRecDepth 20000 in
theorem gg_x_line_number : GoodIn vs_x_line vs_number := goodIn_r _ [3, 4, 5, 6, 7, 8, 9, 10, 11, 12, 13, 14, 15, 16, 36, 37] (by decide +kernel) (by decide +kernel)
set_option maxRecDepth 20000 in
theorem g194_x_line_number : GoodIn vs_x_line (wsV RX7 194 RX0 yX0_number vs_number) := goodIn_app (goodIn_of _ (by decide +kernel)) gg_x_line_number
set_option maxHeartbeats 4000000 in
set_option maxRecDepth 100000 in
theorem c_x_line (l : Launch) (dC : Nat → ClassId) (dI : Nat → Nat → Nat) (cI cZ cB cJ cP cW : ClassId) (q : Nat → Nat) (k : Int32) (w : Int32) : Met l yX7_line vs_x_line ({ frames := 6, cells := 0, slots := 0, locals := 360 }) (va_Pc [.ref (q 32), .int k, .int w] (fun U => EV dC dI cI cZ cB cJ cP cW U ∧ va_P (dC, dI) vwCl [((q 32), .inr (7, [.ref (q 33), .int 0, .ref (q 34), .ref (q 40), .ref (q 0), .ref (q 42), .null])), ((q 0), .inr (6, [.int 0, .int 0, .int 0, .ref (q 1), .ref (q 8), .ref (q 10), .ref (q 11), .ref (q 12), .ref (q 13)])), ((q 8), .inr (0, [.int 0, .ref (q 9)]))] U.heap)) (vp_Si (fun r => r = -1)) 0 0 (fun _ => False) := by
  refine Met.ofW (cc := cX7_line) (maxL := 3) (ret := (some .int)) (by decide) rfl ?_
  intro p e s m args below meth c s₁ B hml hv
  obtain ⟨rfl, hE, hP⟩ := hv
  have hx := B.exec
  have hb := B.bytes
  have hr := B.returns
  have hts := atoms_spec (ws := vs_x_line) B.pre
  have hown : s.vm.findClass RX7 = some m.cls := findClass_of_methodNamed B.named
  have hlocks := B.notSynchronized
  have hK := hE.2
  have hA : True := trivial
  have hS : va_S (fun _ => False) s.heap s.heap [] := va_S.rf
  have hl := lv_entry ([.ref (q 32), .int k, .int w]) (n := 3) (Nat.le_of_ble_eq_true rfl)
  rw [lg_entry_eq]
  generalize (lg_sl ([.ref (q 32), .int k, .int w]) ++ List.replicate (3 - (lg_sl ([.ref (q 32), .int k, .int w])).length) Slot.unset).toArray = ls at hl ⊢
  have hl : lv_has ls 3 [(0, .ref (q 32)), (1, .int k), (2, .int w)] := hl
  refine lv_aload_n hx hb dX7_line_0 rfl (lv_at hl 0 rfl) ?_
  refine va_get (D := (dC, dI)) (ci := 7) (v := .ref (q 0)) (C := RX7) (T := TX7) (N := 7) hx hb hts in_x_line_X7 hown hK hP 0 rfl rfl 4 (by decide) (hts (.fieldLink RX7 30 "DepotMarch" "world" "LDepotMarch$World;") (by decide +kernel)) (fun _ h9 => h9) rfl dX7_line_1 ?_
  refine va_get (D := (dC, dI)) (ci := 6) (v := .ref (q 8)) (C := RX6) (T := TX6) (N := 9) hx hb hts in_x_line_X6 hown hK hP 1 rfl rfl 4 (by decide) (hts (.fieldLink RX7 190 "DepotMarch$World" "book" "LDepotMarch$Book;") (by decide +kernel)) (fun _ h9 => h9) rfl dX7_line_4 ?_
  refine lv_iload_n hx hb dX7_line_7 rfl (lv_at hl 1 rfl) ?_
  refine lv_iload_n hx hb dX7_line_8 rfl (lv_at hl 2 rfl) ?_
  have hPc := hP.sub (ws' := [((q 8), .inr (0, [.int 0, .ref (q 9)]))]) [2] rfl
  refine vp_callSi (va_Run.run (va_runV (As := [.int k, .int w]) (rest := []) ⟨hx, hb, hml, hown, hts⟩ (c_number l dC dI cI cZ cB cJ cP cW q k w) (cwV 2 hts g194_x_line_number rfl rfl rfl (by decide +kernel) ⟨Nat.le_of_ble_eq_true rfl, Nat.le_of_ble_eq_true rfl⟩) ⟨fbR, va_recv hK hPc (ci := 0) (q0 := 0) rfl rfl, fun U hU hW => ⟨rfl, hE.warm hW, by rw [hU]; exact hPc⟩⟩ rfl rfl hl.1 rfl (lv_room (Nat.le_of_ble_eq_true rfl)) dX7_line_9 ⟨Nat.le_of_ble_eq_true rfl, Nat.le_of_ble_eq_true rfl⟩)) (fun r1 hr1 => ?_)
  obtain rfl : r1 = (-1) := hr1
  exact W.iret (v := (-1)) hx hb hr (fun t ht hW => ⟨(-1), rfl, rfl, ht⟩) (fun q h => by cases h) dX7_line_12

def vs_x_count : List Cond := [.code yX7_count cX7_count 2 (some .int), .fieldLink RX7 30 "DepotMarch" "world" "LDepotMarch$World;", .fieldLink RX7 85 "DepotMarch$World" "day" "I", .fieldLink RX7 175 "DepotMarch$World" "parties" "I", .fieldLink RX7 169 "DepotMarch$World" "lots" "I", .fieldLink RX7 190 "DepotMarch$World" "book" "LDepotMarch$Book;", .fieldLink RX7 199 "DepotMarch$Book" "lines" "I", .code yX6_landed cX6_landed 3 (some .int), .fieldLink RX6 55 "DepotMarch$World" "lots" "I", .methodLink RX7 202 yX6_landed, .instanceMethod yX6_landed, .selects RX6 yX6_landed yX6_landed, .initialized RX6, .code yX6_eaten cX6_eaten 3 (some .int), .fieldLink RX6 58 "DepotMarch$World" "parties" "I", .methodLink RX7 205 yX6_eaten, .instanceMethod yX6_eaten, .selects RX6 yX6_eaten yX6_eaten, .code yX6_inStores cX6_inStores 1 (some .int), .fieldLink RX6 12 "DepotMarch$World" "rows" "LDepotMarch$Rows;", .code yX4_amountIn cX4_amountIn 5 (some .int), .code yX4_amount cX4_amount 2 (some .int), .code yX7_within cX7_within 2 (some .boolean), .initialized RX7, .static yX7_within, .fieldLink RX4 18 "DepotMarch$Rows" "amounts" "[I", .methodLink RX4 53 yX4_amount, .instanceMethod yX4_amount, .selects RX4 yX4_amount yX4_amount, .initialized RX4, .methodLink RX6 142 yX4_amountIn, .instanceMethod yX4_amountIn, .selects RX4 yX4_amountIn yX4_amountIn, .methodLink RX7 114 yX6_inStores, .instanceMethod yX6_inStores, .selects RX6 yX6_inStores yX6_inStores, .code yX6_carried cX6_carried 1 (some .int), .methodLink RX7 208 yX6_carried, .instanceMethod yX6_carried, .selects RX6 yX6_carried yX6_carried, .code yX6_lostParties cX6_lostParties 3 (some .int), .methodLink RX7 110 yX6_lostParties, .instanceMethod yX6_lostParties, .selects RX6 yX6_lostParties yX6_lostParties] ++ (wsX70 ++ (wsX60 ++ (wsX00 ++ (wsX40))))
theorem in_x_count_X7 : ∀ w ∈ u_ws RX7 TX7 7, w ∈ vs_x_count := fun w h => List.mem_append_right _ (List.mem_append_left _ h)
theorem in_x_count_X6 : ∀ w ∈ u_ws RX6 TX6 9, w ∈ vs_x_count := fun w h => List.mem_append_right _ (List.mem_append_right _ (List.mem_append_left _ h))
theorem in_x_count_X0 : ∀ w ∈ u_ws RX0 TX0 2, w ∈ vs_x_count := fun w h => List.mem_append_right _ (List.mem_append_right _ (List.mem_append_right _ (List.mem_append_left _ h)))
theorem in_x_count_X4 : ∀ w ∈ u_ws RX4 TX4 8, w ∈ vs_x_count := fun w h => List.mem_append_right _ (List.mem_append_right _ (List.mem_append_right _ (List.mem_append_right _ (h))))
set_option maxRecDepth 20000 in
theorem gg_x_count_landed : GoodIn vs_x_count vs_landed := goodIn_r _ [7, 8, 51, 52, 53, 54, 55, 56, 57, 58, 59] (by decide +kernel) (by decide +kernel)
set_option maxRecDepth 20000 in
theorem gg_x_count_eaten : GoodIn vs_x_count vs_eaten := goodIn_r _ [13, 14, 51, 52, 53, 54, 55, 56, 57, 58, 59] (by decide +kernel) (by decide +kernel)
set_option maxRecDepth 20000 in
theorem gg_x_count_inStores : GoodIn vs_x_count vs_inStores := goodIn_r _ [18, 19, 20, 21, 22, 23, 24, 25, 26, 27, 28, 29, 30, 31, 32, 51, 52, 53, 54, 55, 56, 57, 58, 59, 62, 63, 64, 65, 66, 67, 68, 69] (by decide +kernel) (by decide +kernel)
set_option maxRecDepth 20000 in
theorem gg_x_count_carried : GoodIn vs_x_count vs_carried := goodIn_r _ [36, 19, 20, 21, 22, 23, 24, 25, 26, 27, 28, 29, 30, 31, 32, 51, 52, 53, 54, 55, 56, 57, 58, 59, 62, 63, 64, 65, 66, 67, 68, 69] (by decide +kernel) (by decide +kernel)
set_option maxRecDepth 20000 in
theorem gg_x_count_lostP : GoodIn vs_x_count vs_lostP := goodIn_r _ [40, 14, 51, 52, 53, 54, 55, 56, 57, 58, 59] (by decide +kernel) (by decide +kernel)
set_option maxRecDepth 20000 in
theorem g202_x_count_landed : GoodIn vs_x_count (wsV RX7 202 RX6 yX6_landed vs_landed) := goodIn_app (goodIn_of _ (by decide +kernel)) gg_x_count_landed
set_option maxRecDepth 20000 in
theorem g205_x_count_eaten : GoodIn vs_x_count (wsV RX7 205 RX6 yX6_eaten vs_eaten) := goodIn_app (goodIn_of _ (by decide +kernel)) gg_x_count_eaten
set_option maxRecDepth 20000 in
theorem g114_x_count_inStores : GoodIn vs_x_count (wsV RX7 114 RX6 yX6_inStores vs_inStores) := goodIn_app (goodIn_of _ (by decide +kernel)) gg_x_count_inStores
set_option maxRecDepth 20000 in
theorem g208_x_count_carried : GoodIn vs_x_count (wsV RX7 208 RX6 yX6_carried vs_carried) := goodIn_app (goodIn_of _ (by decide +kernel)) gg_x_count_carried
set_option maxRecDepth 20000 in
theorem g110_x_count_lostP : GoodIn vs_x_count (wsV RX7 110 RX6 yX6_lostParties vs_lostP) := goodIn_app (goodIn_of _ (by decide +kernel)) gg_x_count_lostP
set_option maxHeartbeats 4000000 in
set_option maxRecDepth 100000 in
theorem c_x_count (l : Launch) (dC : Nat → ClassId) (dI : Nat → Nat → Nat) (cI cZ cB cJ cP cW : ClassId) (q : Nat → Nat) (w : Int32) : Met l yX7_count vs_x_count ({ frames := 6, cells := 0, slots := 0, locals := 360 }) (va_Pc [.ref (q 32), .int w] (fun U => EV dC dI cI cZ cB cJ cP cW U ∧ va_P (dC, dI) vwCl [((q 32), .inr (7, [.ref (q 33), .int 0, .ref (q 34), .ref (q 40), .ref (q 0), .ref (q 42), .null])), ((q 0), .inr (6, [.int 0, .int 0, .int 0, .ref (q 1), .ref (q 8), .ref (q 10), .ref (q 11), .ref (q 12), .ref (q 13)])), ((q 8), .inr (0, [.int 0, .ref (q 9)])), ((q 1), .inr (4, [.ref (q 2), .ref (q 3), .ref (q 4), .ref (q 5), .ref (q 6), .ref (q 7), .int 0, .int (-1)])), ((q 4), .inl (cI, 22, .inl (fun _ => 0)))] U.heap)) (vp_Si (fun r => r = if w.toInt < 0 ∨ 8 < w.toInt then -1 else 0)) 0 0 (fun _ => False) := by
  refine Met.ofW (cc := cX7_count) (maxL := 2) (ret := (some .int)) (by decide) rfl ?_
  intro p e s m args below meth c s₁ B hml hv
  obtain ⟨rfl, hE, hP⟩ := hv
  have hx := B.exec
  have hb := B.bytes
  have hr := B.returns
  have hts := atoms_spec (ws := vs_x_count) B.pre
  have hown : s.vm.findClass RX7 = some m.cls := findClass_of_methodNamed B.named
  have hlocks := B.notSynchronized
  have hK := hE.2
  have hA : True := trivial
  have hS : va_S (fun _ => False) s.heap s.heap [] := va_S.rf
  have hl := lv_entry ([.ref (q 32), .int w]) (n := 2) (Nat.le_of_ble_eq_true rfl)
  rw [lg_entry_eq]
  generalize (lg_sl ([.ref (q 32), .int w]) ++ List.replicate (2 - (lg_sl ([.ref (q 32), .int w])).length) Slot.unset).toArray = ls at hl ⊢
  have hl : lv_has ls 2 [(0, .ref (q 32)), (1, .int w)] := hl
  refine lv_iload_n hx hb dX7_count_0 rfl (lv_at hl 1 rfl) ?_
  by_cases hsw : w.toInt < 0 ∨ 8 < w.toInt
  · refine lv_tableOut (tgt := 127) hx hb dX7_count_1 hsw (by decide) ?_
    refine lv_iconst (v := (-1)) hx hb dX7_count_127 (by decide) ?_
    exact W.iret (v := (-1)) hx hb hr (fun t ht hW => ⟨(-1), rfl, (by rw [if_pos hsw]), ht⟩) (fun q h => by cases h) dX7_count_128
  · have hsx : w = 0 ∨ w = 1 ∨ w = 2 ∨ w = 3 ∨ w = 4 ∨ w = 5 ∨ w = 6 ∨ w = 7 ∨ w = 8 := n_cases0_8 hsw
    rcases hsx with rfl | rfl | rfl | rfl | rfl | rfl | rfl | rfl | rfl
    · refine lv_tableIn (tgt := 52) hx hb dX7_count_1 (by decide) (by decide) rfl (by decide) ?_
      refine lv_aload_n hx hb dX7_count_52 rfl (lv_at hl 0 rfl) ?_
      refine va_get (D := (dC, dI)) (ci := 7) (v := .ref (q 0)) (C := RX7) (T := TX7) (N := 7) hx hb hts in_x_count_X7 hown hK hP 0 rfl rfl 4 (by decide) (hts (.fieldLink RX7 30 "DepotMarch" "world" "LDepotMarch$World;") (by decide +kernel)) (fun _ h9 => h9) rfl dX7_count_53 ?_
      refine va_get (D := (dC, dI)) (ci := 6) (v := .int 0) (C := RX6) (T := TX6) (N := 9) hx hb hts in_x_count_X6 hown hK hP 1 rfl rfl 0 (by decide) (hts (.fieldLink RX7 85 "DepotMarch$World" "day" "I") (by decide +kernel)) (fun _ h9 => h9) rfl dX7_count_56 ?_
      exact W.iret (v := 0) hx hb hr (fun t ht hW => ⟨0, rfl, (by decide), ht⟩) (fun q h => by cases h) dX7_count_59
    · refine lv_tableIn (tgt := 60) hx hb dX7_count_1 (by decide) (by decide) rfl (by decide) ?_
      refine lv_aload_n hx hb dX7_count_60 rfl (lv_at hl 0 rfl) ?_
      refine va_get (D := (dC, dI)) (ci := 7) (v := .ref (q 0)) (C := RX7) (T := TX7) (N := 7) hx hb hts in_x_count_X7 hown hK hP 0 rfl rfl 4 (by decide) (hts (.fieldLink RX7 30 "DepotMarch" "world" "LDepotMarch$World;") (by decide +kernel)) (fun _ h9 => h9) rfl dX7_count_61 ?_
      refine va_get (D := (dC, dI)) (ci := 6) (v := .int 0) (C := RX6) (T := TX6) (N := 9) hx hb hts in_x_count_X6 hown hK hP 1 rfl rfl 2 (by decide) (hts (.fieldLink RX7 175 "DepotMarch$World" "parties" "I") (by decide +kernel)) (fun _ h9 => h9) rfl dX7_count_64 ?_
      exact W.iret (v := 0) hx hb hr (fun t ht hW => ⟨0, rfl, (by decide), ht⟩) (fun q h => by cases h) dX7_count_67
    · refine lv_tableIn (tgt := 68) hx hb dX7_count_1 (by decide) (by decide) rfl (by decide) ?_
      refine lv_aload_n hx hb dX7_count_68 rfl (lv_at hl 0 rfl) ?_
      refine va_get (D := (dC, dI)) (ci := 7) (v := .ref (q 0)) (C := RX7) (T := TX7) (N := 7) hx hb hts in_x_count_X7 hown hK hP 0 rfl rfl 4 (by decide) (hts (.fieldLink RX7 30 "DepotMarch" "world" "LDepotMarch$World;") (by decide +kernel)) (fun _ h9 => h9) rfl dX7_count_69 ?_
      refine va_get (D := (dC, dI)) (ci := 6) (v := .int 0) (C := RX6) (T := TX6) (N := 9) hx hb hts in_x_count_X6 hown hK hP 1 rfl rfl 1 (by decide) (hts (.fieldLink RX7 169 "DepotMarch$World" "lots" "I") (by decide +kernel)) (fun _ h9 => h9) rfl dX7_count_72 ?_
      exact W.iret (v := 0) hx hb hr (fun t ht hW => ⟨0, rfl, (by decide), ht⟩) (fun q h => by cases h) dX7_count_75
    · refine lv_tableIn (tgt := 76) hx hb dX7_count_1 (by decide) (by decide) rfl (by decide) ?_
      refine lv_aload_n hx hb dX7_count_76 rfl (lv_at hl 0 rfl) ?_
      refine va_get (D := (dC, dI)) (ci := 7) (v := .ref (q 0)) (C := RX7) (T := TX7) (N := 7) hx hb hts in_x_count_X7 hown hK hP 0 rfl rfl 4 (by decide) (hts (.fieldLink RX7 30 "DepotMarch" "world" "LDepotMarch$World;") (by decide +kernel)) (fun _ h9 => h9) rfl dX7_count_77 ?_
      refine va_get (D := (dC, dI)) (ci := 6) (v := .ref (q 8)) (C := RX6) (T := TX6) (N := 9) hx hb hts in_x_count_X6 hown hK hP 1 rfl rfl 4 (by decide) (hts (.fieldLink RX7 190 "DepotMarch$World" "book" "LDepotMarch$Book;") (by decide +kernel)) (fun _ h9 => h9) rfl dX7_count_80 ?_
      refine va_get (D := (dC, dI)) (ci := 0) (v := .int 0) (C := RX0) (T := TX0) (N := 2) hx hb hts in_x_count_X0 hown hK hP 2 rfl rfl 0 (by decide) (hts (.fieldLink RX7 199 "DepotMarch$Book" "lines" "I") (by decide +kernel)) (fun _ h9 => h9) rfl dX7_count_83 ?_
      exact W.iret (v := 0) hx hb hr (fun t ht hW => ⟨0, rfl, (by decide), ht⟩) (fun q h => by cases h) dX7_count_86
    · refine lv_tableIn (tgt := 87) hx hb dX7_count_1 (by decide) (by decide) rfl (by decide) ?_
      refine lv_aload_n hx hb dX7_count_87 rfl (lv_at hl 0 rfl) ?_
      refine va_get (D := (dC, dI)) (ci := 7) (v := .ref (q 0)) (C := RX7) (T := TX7) (N := 7) hx hb hts in_x_count_X7 hown hK hP 0 rfl rfl 4 (by decide) (hts (.fieldLink RX7 30 "DepotMarch" "world" "LDepotMarch$World;") (by decide +kernel)) (fun _ h9 => h9) rfl dX7_count_88 ?_
      have hPc := hP.sub (ws' := [((q 0), .inr (6, [.int 0, .int 0, .int 0, .ref (q 1), .ref (q 8), .ref (q 10), .ref (q 11), .ref (q 12), .ref (q 13)]))]) [1] rfl
      refine vp_callSi (va_Run.run (va_runV (As := []) (rest := []) ⟨hx, hb, hml, hown, hts⟩ (c_landed l dC dI cI cZ cB cJ cP cW q 0) (cwV 0 hts g202_x_count_landed rfl rfl rfl (by decide +kernel) ⟨Nat.le_of_ble_eq_true rfl, Nat.le_of_ble_eq_true rfl⟩) ⟨fbR, va_recv hK hPc (ci := 6) (q0 := 0) rfl rfl, fun U hU hW => ⟨rfl, hE.warm hW, by rw [hU]; exact hPc⟩⟩ rfl rfl hl.1 rfl (lv_room (Nat.le_of_ble_eq_true rfl)) dX7_count_91 ⟨Nat.le_of_ble_eq_true rfl, Nat.le_of_ble_eq_true rfl⟩)) (fun r1 hr1 => ?_)
      obtain rfl : r1 = 0 := hr1
      exact W.iret (v := 0) hx hb hr (fun t ht hW => ⟨0, rfl, (by decide), ht⟩) (fun q h => by cases h) dX7_count_94
    · refine lv_tableIn (tgt := 95) hx hb dX7_count_1 (by decide) (by decide) rfl (by decide) ?_
      refine lv_aload_n hx hb dX7_count_95 rfl (lv_at hl 0 rfl) ?_
      refine va_get (D := (dC, dI)) (ci := 7) (v := .ref (q 0)) (C := RX7) (T := TX7) (N := 7) hx hb hts in_x_count_X7 hown hK hP 0 rfl rfl 4 (by decide) (hts (.fieldLink RX7 30 "DepotMarch" "world" "LDepotMarch$World;") (by decide +kernel)) (fun _ h9 => h9) rfl dX7_count_96 ?_
      have hPc := hP.sub (ws' := [((q 0), .inr (6, [.int 0, .int 0, .int 0, .ref (q 1), .ref (q 8), .ref (q 10), .ref (q 11), .ref (q 12), .ref (q 13)]))]) [1] rfl
      refine vp_callSi (va_Run.run (va_runV (As := []) (rest := []) ⟨hx, hb, hml, hown, hts⟩ (c_eaten l dC dI cI cZ cB cJ cP cW q 0) (cwV 0 hts g205_x_count_eaten rfl rfl rfl (by decide +kernel) ⟨Nat.le_of_ble_eq_true rfl, Nat.le_of_ble_eq_true rfl⟩) ⟨fbR, va_recv hK hPc (ci := 6) (q0 := 0) rfl rfl, fun U hU hW => ⟨rfl, hE.warm hW, by rw [hU]; exact hPc⟩⟩ rfl rfl hl.1 rfl (lv_room (Nat.le_of_ble_eq_true rfl)) dX7_count_99 ⟨Nat.le_of_ble_eq_true rfl, Nat.le_of_ble_eq_true rfl⟩)) (fun r2 hr2 => ?_)
      obtain rfl : r2 = 0 := hr2
      exact W.iret (v := 0) hx hb hr (fun t ht hW => ⟨0, rfl, (by decide), ht⟩) (fun q h => by cases h) dX7_count_102
    · refine lv_tableIn (tgt := 103) hx hb dX7_count_1 (by decide) (by decide) rfl (by decide) ?_
      refine lv_aload_n hx hb dX7_count_103 rfl (lv_at hl 0 rfl) ?_
      refine va_get (D := (dC, dI)) (ci := 7) (v := .ref (q 0)) (C := RX7) (T := TX7) (N := 7) hx hb hts in_x_count_X7 hown hK hP 0 rfl rfl 4 (by decide) (hts (.fieldLink RX7 30 "DepotMarch" "world" "LDepotMarch$World;") (by decide +kernel)) (fun _ h9 => h9) rfl dX7_count_104 ?_
      have hPc := hP.sub (ws' := [((q 0), .inr (6, [.int 0, .int 0, .int 0, .ref (q 1), .ref (q 8), .ref (q 10), .ref (q 11), .ref (q 12), .ref (q 13)])), ((q 1), .inr (4, [.ref (q 2), .ref (q 3), .ref (q 4), .ref (q 5), .ref (q 6), .ref (q 7), .int 0, .int (-1)])), ((q 4), .inl (cI, 22, .inl (fun _ => 0)))]) [1, 3, 4] rfl
      refine vp_callSi (va_Run.run (va_runV (As := []) (rest := []) ⟨hx, hb, hml, hown, hts⟩ (c_inStores l dC dI cI cZ cB cJ cP cW q 0) (cwV 0 hts g114_x_count_inStores rfl rfl rfl (by decide +kernel) ⟨Nat.le_of_ble_eq_true rfl, Nat.le_of_ble_eq_true rfl⟩) ⟨fbR, va_recv hK hPc (ci := 6) (q0 := 0) rfl rfl, fun U hU hW => ⟨rfl, hE.warm hW, by rw [hU]; exact hPc⟩⟩ rfl rfl hl.1 rfl (lv_room (Nat.le_of_ble_eq_true rfl)) dX7_count_107 ⟨Nat.le_of_ble_eq_true rfl, Nat.le_of_ble_eq_true rfl⟩)) (fun r3 hr3 => ?_)
      obtain rfl : r3 = 0 := hr3
      exact W.iret (v := 0) hx hb hr (fun t ht hW => ⟨0, rfl, (by decide), ht⟩) (fun q h => by cases h) dX7_count_110
    · refine lv_tableIn (tgt := 111) hx hb dX7_count_1 (by decide) (by decide) rfl (by decide) ?_
      refine lv_aload_n hx hb dX7_count_111 rfl (lv_at hl 0 rfl) ?_
      refine va_get (D := (dC, dI)) (ci := 7) (v := .ref (q 0)) (C := RX7) (T := TX7) (N := 7) hx hb hts in_x_count_X7 hown hK hP 0 rfl rfl 4 (by decide) (hts (.fieldLink RX7 30 "DepotMarch" "world" "LDepotMarch$World;") (by decide +kernel)) (fun _ h9 => h9) rfl dX7_count_112 ?_
      have hPc := hP.sub (ws' := [((q 0), .inr (6, [.int 0, .int 0, .int 0, .ref (q 1), .ref (q 8), .ref (q 10), .ref (q 11), .ref (q 12), .ref (q 13)])), ((q 1), .inr (4, [.ref (q 2), .ref (q 3), .ref (q 4), .ref (q 5), .ref (q 6), .ref (q 7), .int 0, .int (-1)])), ((q 4), .inl (cI, 22, .inl (fun _ => 0)))]) [1, 3, 4] rfl
      refine vp_callSi (va_Run.run (va_runV (As := []) (rest := []) ⟨hx, hb, hml, hown, hts⟩ (c_carried l dC dI cI cZ cB cJ cP cW q 0) (cwV 0 hts g208_x_count_carried rfl rfl rfl (by decide +kernel) ⟨Nat.le_of_ble_eq_true rfl, Nat.le_of_ble_eq_true rfl⟩) ⟨fbR, va_recv hK hPc (ci := 6) (q0 := 0) rfl rfl, fun U hU hW => ⟨rfl, hE.warm hW, by rw [hU]; exact hPc⟩⟩ rfl rfl hl.1 rfl (lv_room (Nat.le_of_ble_eq_true rfl)) dX7_count_115 ⟨Nat.le_of_ble_eq_true rfl, Nat.le_of_ble_eq_true rfl⟩)) (fun r4 hr4 => ?_)
      obtain rfl : r4 = 0 := hr4
      exact W.iret (v := 0) hx hb hr (fun t ht hW => ⟨0, rfl, (by decide), ht⟩) (fun q h => by cases h) dX7_count_118
    · refine lv_tableIn (tgt := 119) hx hb dX7_count_1 (by decide) (by decide) rfl (by decide) ?_
      refine lv_aload_n hx hb dX7_count_119 rfl (lv_at hl 0 rfl) ?_
      refine va_get (D := (dC, dI)) (ci := 7) (v := .ref (q 0)) (C := RX7) (T := TX7) (N := 7) hx hb hts in_x_count_X7 hown hK hP 0 rfl rfl 4 (by decide) (hts (.fieldLink RX7 30 "DepotMarch" "world" "LDepotMarch$World;") (by decide +kernel)) (fun _ h9 => h9) rfl dX7_count_120 ?_
      have hPc := hP.sub (ws' := [((q 0), .inr (6, [.int 0, .int 0, .int 0, .ref (q 1), .ref (q 8), .ref (q 10), .ref (q 11), .ref (q 12), .ref (q 13)]))]) [1] rfl
      refine vp_callSi (va_Run.run (va_runV (As := []) (rest := []) ⟨hx, hb, hml, hown, hts⟩ (c_lostP l dC dI cI cZ cB cJ cP cW q 0) (cwV 0 hts g110_x_count_lostP rfl rfl rfl (by decide +kernel) ⟨Nat.le_of_ble_eq_true rfl, Nat.le_of_ble_eq_true rfl⟩) ⟨fbR, va_recv hK hPc (ci := 6) (q0 := 0) rfl rfl, fun U hU hW => ⟨rfl, hE.warm hW, by rw [hU]; exact hPc⟩⟩ rfl rfl hl.1 rfl (lv_room (Nat.le_of_ble_eq_true rfl)) dX7_count_123 ⟨Nat.le_of_ble_eq_true rfl, Nat.le_of_ble_eq_true rfl⟩)) (fun r5 hr5 => ?_)
      obtain rfl : r5 = 0 := hr5
      exact W.iret (v := 0) hx hb hr (fun t ht hW => ⟨0, rfl, (by decide), ht⟩) (fun q h => by cases h) dX7_count_126

def vs_x_need : List Cond := [.code yX7_need cX7_need 5 (some .int), .code yX7_isCarryOfNeed cX7_isCarryOfNeed 1 (some .boolean), .methodLink RX7 211 yX7_isCarryOfNeed, .static yX7_isCarryOfNeed, .initialized RX7, .code yX7_within cX7_within 2 (some .boolean), .methodLink RX7 156 yX7_within, .static yX7_within, .code yX7_needBehind cX7_needBehind 4 (some .int), .methodLink RX7 218 Lib.Math.max.name, .static Lib.Math.max.name, .initialized "java/lang/Math", .code Lib.Math.max.name Lib.Math.max.code 2 (some .int), .methodLink RX7 214 yX7_needBehind, .static yX7_needBehind]
set_option maxRecDepth 20000 in
theorem gg_x_need_isCarry : GoodIn vs_x_need vs_isCarry := goodIn_r _ [1] (by decide +kernel) (by decide +kernel)
set_option maxRecDepth 20000 in
theorem gg_x_need_within : GoodIn vs_x_need vs_within := goodIn_r _ [5] (by decide +kernel) (by decide +kernel)
set_option maxRecDepth 20000 in
theorem gg_x_need_needB : GoodIn vs_x_need vs_needB := goodIn_r _ [8, 9, 10, 11, 12] (by decide +kernel) (by decide +kernel)
set_option maxRecDepth 20000 in
theorem g211_x_need_isCarry : GoodIn vs_x_need (va_wsS RX7 211 yX7_isCarryOfNeed vs_isCarry) := goodIn_app (goodIn_of _ (by decide +kernel)) gg_x_need_isCarry
set_option maxRecDepth 20000 in
theorem g156_x_need_within : GoodIn vs_x_need (va_wsS RX7 156 yX7_within vs_within) := goodIn_app (goodIn_of _ (by decide +kernel)) gg_x_need_within
set_option maxRecDepth 20000 in
theorem g214_x_need_needB : GoodIn vs_x_need (va_wsS RX7 214 yX7_needBehind vs_needB) := goodIn_app (goodIn_of _ (by decide +kernel)) gg_x_need_needB
set_option maxHeartbeats 4000000 in
set_option maxRecDepth 100000 in
theorem c_x_need (l : Launch) (dC : Nat → ClassId) (dI : Nat → Nat → Nat) (cI cZ cB cJ cP cW : ClassId) (q : Nat → Nat) (k : Int32) (w : Int32) : Met l yX7_need vs_x_need ({ frames := 6, cells := 0, slots := 0, locals := 360 }) (va_Pc [.ref (q 32), .int k, .int w] (fun U => EV dC dI cI cZ cB cJ cP cW U ∧ va_P (dC, dI) vwCl [((q 32), .inr (7, [.ref (q 33), .int 0, .ref (q 34), .ref (q 40), .ref (q 0), .ref (q 42), .null]))] U.heap)) (vp_Si (fun r => r = xNeed k w)) 0 0 (fun _ => False) := by
  refine Met.ofW (cc := cX7_need) (maxL := 5) (ret := (some .int)) (by decide) rfl ?_
  intro p e s m args below meth c s₁ B hml hv
  obtain ⟨rfl, hE, hP⟩ := hv
  have hx := B.exec
  have hb := B.bytes
  have hr := B.returns
  have hts := atoms_spec (ws := vs_x_need) B.pre
  have hown : s.vm.findClass RX7 = some m.cls := findClass_of_methodNamed B.named
  have hlocks := B.notSynchronized
  have hK := hE.2
  have hA : True := trivial
  have hS : va_S (fun _ => False) s.heap s.heap [] := va_S.rf
  have hl := lv_entry ([.ref (q 32), .int k, .int w]) (n := 5) (Nat.le_of_ble_eq_true rfl)
  rw [lg_entry_eq]
  generalize (lg_sl ([.ref (q 32), .int k, .int w]) ++ List.replicate (5 - (lg_sl ([.ref (q 32), .int k, .int w])).length) Slot.unset).toArray = ls at hl ⊢
  have hl : lv_has ls 5 [(0, .ref (q 32)), (1, .int k), (2, .int w)] := hl
  refine lv_iload_n hx hb dX7_need_0 rfl (lv_at hl 1 rfl) ?_
  refine vp_callSi (va_Run.run (va_runS (As := [.int k]) (rest := []) ⟨hx, hb, hml, hown, hts⟩ (c_isCarry l dC dI cI cZ cB cJ cP cW k) (va_cwS 1 hts g211_x_need_isCarry rfl rfl rfl (by decide +kernel) ⟨Nat.le_of_ble_eq_true rfl, Nat.le_of_ble_eq_true rfl⟩) ⟨fbR, fun U hU hW => ⟨rfl, hE.warm hW, by rw [hU]; exact (fun k q h => by simp at h)⟩⟩ rfl rfl hl.1 rfl (lv_room (Nat.le_of_ble_eq_true rfl)) dX7_need_1 ⟨Nat.le_of_ble_eq_true rfl, Nat.le_of_ble_eq_true rfl⟩)) (fun r1 hr1 => ?_)
  obtain rfl : r1 = (inn k 3 200) := hr1
  refine lv_if_eq (tgt := 16) hx hb dX7_need_4 (by decide) (fun c2 => ?_) (fun c2 => ?_)
  · refine lv_iconst (v := (-1)) hx hb dX7_need_16 (by decide) ?_
    exact W.iret (v := (-1)) hx hb hr (fun t ht hW => ⟨(-1), rfl, (by simp [xNeed, c2]), ht⟩) (fun q h => by cases h) dX7_need_17
  · refine lv_iload_n hx hb dX7_need_7 rfl (lv_at hl 2 rfl) ?_
    refine lv_bipush (v := 16) hx hb dX7_need_8 (by decide) ?_
    refine vp_callSi (va_Run.run (va_runS (As := [.int w, .int 16]) (rest := []) ⟨hx, hb, hml, hown, hts⟩ (c_within l dC dI cI cZ cB cJ cP cW w 16) (va_cwS 2 hts g156_x_need_within rfl rfl rfl (by decide +kernel) ⟨Nat.le_of_ble_eq_true rfl, Nat.le_of_ble_eq_true rfl⟩) ⟨fbR, fun U hU hW => ⟨rfl, hE.warm hW, by rw [hU]; exact (fun k q h => by simp at h)⟩⟩ rfl rfl hl.1 rfl (lv_room (Nat.le_of_ble_eq_true rfl)) dX7_need_10 ⟨Nat.le_of_ble_eq_true rfl, Nat.le_of_ble_eq_true rfl⟩)) (fun r3 hr3 => ?_)
    obtain rfl : r3 = (wi w 16) := hr3
    refine lv_if_ne (tgt := 18) hx hb dX7_need_13 (by decide) (fun c4 => ?_) (fun c4 => ?_)
    · obtain ⟨K, hKK, eK⟩ := vp_in_of (wi_in (N := 16) rfl c4) (by decide)
      refine lv_iconst (v := 0) hx hb dX7_need_18 (by decide) ?_
      refine lv_istore_n (lv' := [(3, .int 0), (0, .ref (q 32)), (1, .int k), (2, .int w)]) hx hb dX7_need_19 rfl hl (by decide) rfl (fun ls hl => ?_)
      refine lv_iconst (v := 0) hx hb dX7_need_20 (by decide) ?_
      refine lv_istore (lv' := [(4, .int 0), (3, .int 0), (0, .ref (q 32)), (1, .int k), (2, .int w)]) hx hb dX7_need_21 hl (by decide) rfl (fun ls hl => ?_)
      have hl := lv_sub hl [2, 3, 4, 1, 0] rfl
      refine W_loop (σ := Nat) (fun x9 => match x9 with | j => K - j) (fun x9 H5 locs ls => match x9 with | j => (j ≤ K) ∧ H5 = s.heap ∧ locs = [] ∧ lv_has ls 5 [(0, .ref (q 32)), (1, .int k), (2, .int w), (3, .int (nd k j)), (4, .int (nI j))]) (fun x9 H5 locs ls hI9 ih => ?_) 0 _ _ _ ⟨Nat.zero_le _, rfl, rfl, hl⟩
      obtain ⟨j, e9⟩ : ∃ z, z = x9 := ⟨_, rfl⟩; subst e9
      dsimp only at hI9
      obtain ⟨hinv, rfl, rfl, hl⟩ := hI9
      refine lv_iload hx hb dX7_need_23 (lv_at hl 4 rfl) ?_
      refine lv_iload_n hx hb dX7_need_25 rfl (lv_at hl 2 rfl) ?_
      refine lv_icmp_ge (tgt := 41) hx hb dX7_need_26 (by decide) (fun c6 => ?_) (fun c6 => ?_)
      · have hjK : K = j := Nat.le_antisymm (Nat.le_of_not_lt (fun h => absurd (by rw [← eK]; exact c6) (nI_ge h (by omega)))) hinv
        refine lv_iload_n hx hb dX7_need_41 rfl (lv_at hl 3 rfl) ?_
        exact W.iret (v := (nd k j)) hx hb hr (fun t ht hW => ⟨(nd k j), rfl, (by rw [xNeed, if_neg c2, if_neg c4, eK, nI_clamp (by omega), hjK]), ht⟩) (fun q h => by cases h) dX7_need_42
      · have hj : j < K := Nat.lt_of_not_le (fun h => absurd (by rw [eK]; exact nI_le h (by omega)) c6)
        refine lv_iload_n hx hb dX7_need_29 rfl (lv_at hl 3 rfl) ?_
        refine lv_iload_n hx hb dX7_need_30 rfl (lv_at hl 1 rfl) ?_
        refine vp_callSi (va_Run.run (va_runS (As := [.int (nd k j), .int k]) (rest := []) ⟨hx, hb, hml, hown, hts⟩ (c_needB l dC dI cI cZ cB cJ cP cW (nd k j) k) (va_cwS 2 hts g214_x_need_needB rfl rfl rfl (by decide +kernel) ⟨Nat.le_of_ble_eq_true rfl, Nat.le_of_ble_eq_true rfl⟩) ⟨fbR, fun U hU hW => ⟨rfl, hE.warm hW, by rw [hU]; exact (fun k q h => by simp at h)⟩⟩ rfl rfl hl.1 rfl (lv_room (Nat.le_of_ble_eq_true rfl)) dX7_need_31 ⟨Nat.le_of_ble_eq_true rfl, Nat.le_of_ble_eq_true rfl⟩)) (fun r7 hr7 => ?_)
        obtain rfl : r7 = (nb (nd k j) k) := hr7
        refine lv_istore_n (lv' := [(3, .int (nb (nd k j) k)), (0, .ref (q 32)), (1, .int k), (2, .int w), (4, .int (nI j))]) hx hb dX7_need_34 rfl hl (by decide) rfl (fun ls hl => ?_)
        refine lv_iinc (v := (nI (j + 1))) (lv' := [(4, .int (nI (j + 1))), (3, .int (nb (nd k j) k)), (0, .ref (q 32)), (1, .int k), (2, .int w)]) hx hb dX7_need_35 hl (k := 4) rfl (nI_1 j) (by decide) rfl (fun ls hl => ?_)
        refine lv_goto (tgt := 23) hx hb dX7_need_38 (by decide) ?_
        exact ih (j + 1) _ _ _ ⟨hj, rfl, rfl, lv_sub hl [2, 3, 4, 1, 0] rfl⟩ (by show K - (j + 1) < K - j; omega)
    · refine lv_iconst (v := (-1)) hx hb dX7_need_16 (by decide) ?_
      exact W.iret (v := (-1)) hx hb hr (fun t ht hW => ⟨(-1), rfl, (by simp [xNeed, c2, c4]), ht⟩) (fun q h => by cases h) dX7_need_17

def vs_x_far : List Cond := [.code yX7_far cX7_far 6 (some .int), .code yX7_isCarryOfNeed cX7_isCarryOfNeed 1 (some .boolean), .methodLink RX7 211 yX7_isCarryOfNeed, .static yX7_isCarryOfNeed, .initialized RX7, .constant RX7 217 1000000, .code yX7_needBehind cX7_needBehind 4 (some .int), .methodLink RX7 218 Lib.Math.max.name, .static Lib.Math.max.name, .initialized "java/lang/Math", .code Lib.Math.max.name Lib.Math.max.code 2 (some .int), .methodLink RX7 214 yX7_needBehind, .static yX7_needBehind]
set_option maxRecDepth 20000 in
theorem gg_x_far_isCarry : GoodIn vs_x_far vs_isCarry := goodIn_r _ [1] (by decide +kernel) (by decide +kernel)
set_option maxRecDepth 20000 in
theorem gg_x_far_needB : GoodIn vs_x_far vs_needB := goodIn_r _ [6, 7, 8, 9, 10] (by decide +kernel) (by decide +kernel)
set_option maxRecDepth 20000 in
theorem g211_x_far_isCarry : GoodIn vs_x_far (va_wsS RX7 211 yX7_isCarryOfNeed vs_isCarry) := goodIn_app (goodIn_of _ (by decide +kernel)) gg_x_far_isCarry
set_option maxRecDepth 20000 in
theorem g214_x_far_needB : GoodIn vs_x_far (va_wsS RX7 214 yX7_needBehind vs_needB) := goodIn_app (goodIn_of _ (by decide +kernel)) gg_x_far_needB
set_option maxHeartbeats 4000000 in
set_option maxRecDepth 100000 in
theorem c_x_far (l : Launch) (dC : Nat → ClassId) (dI : Nat → Nat → Nat) (cI cZ cB cJ cP cW : ClassId) (q : Nat → Nat) (k : Int32) (w : Int32) : Met l yX7_far vs_x_far ({ frames := 6, cells := 0, slots := 0, locals := 360 }) (va_Pc [.ref (q 32), .int k, .int w] (fun U => EV dC dI cI cZ cB cJ cP cW U ∧ va_P (dC, dI) vwCl [((q 32), .inr (7, [.ref (q 33), .int 0, .ref (q 34), .ref (q 40), .ref (q 0), .ref (q 42), .null]))] U.heap)) (vp_Si (fun r => r = xFar k w)) 0 0 (fun _ => False) := by
  refine Met.ofW (cc := cX7_far) (maxL := 6) (ret := (some .int)) (by decide) rfl ?_
  intro p e s m args below meth c s₁ B hml hv
  obtain ⟨rfl, hE, hP⟩ := hv
  have hx := B.exec
  have hb := B.bytes
  have hr := B.returns
  have hts := atoms_spec (ws := vs_x_far) B.pre
  have hown : s.vm.findClass RX7 = some m.cls := findClass_of_methodNamed B.named
  have hlocks := B.notSynchronized
  have hK := hE.2
  have hA : True := trivial
  have hS : va_S (fun _ => False) s.heap s.heap [] := va_S.rf
  have hl := lv_entry ([.ref (q 32), .int k, .int w]) (n := 6) (Nat.le_of_ble_eq_true rfl)
  rw [lg_entry_eq]
  generalize (lg_sl ([.ref (q 32), .int k, .int w]) ++ List.replicate (6 - (lg_sl ([.ref (q 32), .int k, .int w])).length) Slot.unset).toArray = ls at hl ⊢
  have hl : lv_has ls 6 [(0, .ref (q 32)), (1, .int k), (2, .int w)] := hl
  refine lv_iload_n hx hb dX7_far_0 rfl (lv_at hl 1 rfl) ?_
  refine vp_callSi (va_Run.run (va_runS (As := [.int k]) (rest := []) ⟨hx, hb, hml, hown, hts⟩ (c_isCarry l dC dI cI cZ cB cJ cP cW k) (va_cwS 1 hts g211_x_far_isCarry rfl rfl rfl (by decide +kernel) ⟨Nat.le_of_ble_eq_true rfl, Nat.le_of_ble_eq_true rfl⟩) ⟨fbR, fun U hU hW => ⟨rfl, hE.warm hW, by rw [hU]; exact (fun k q h => by simp at h)⟩⟩ rfl rfl hl.1 rfl (lv_room (Nat.le_of_ble_eq_true rfl)) dX7_far_1 ⟨Nat.le_of_ble_eq_true rfl, Nat.le_of_ble_eq_true rfl⟩)) (fun r1 hr1 => ?_)
  obtain rfl : r1 = (inn k 3 200) := hr1
  refine lv_if_eq (tgt := 17) hx hb dX7_far_4 (by decide) (fun c2 => ?_) (fun c2 => ?_)
  · refine lv_iconst (v := (-1)) hx hb dX7_far_17 (by decide) ?_
    exact W.iret (v := (-1)) hx hb hr (fun t ht hW => ⟨(-1), rfl, (by simp [xFar, c2]), ht⟩) (fun q h => by cases h) dX7_far_18
  · refine lv_iload_n hx hb dX7_far_7 rfl (lv_at hl 2 rfl) ?_
    refine lv_if_lt (tgt := 17) hx hb dX7_far_8 (by decide) (fun c3 => ?_) (fun c3 => ?_)
    · refine lv_iconst (v := (-1)) hx hb dX7_far_17 (by decide) ?_
      exact W.iret (v := (-1)) hx hb hr (fun t ht hW => ⟨(-1), rfl, (by simp [xFar, c2, c3]), ht⟩) (fun q h => by cases h) dX7_far_18
    · refine lv_iload_n hx hb dX7_far_11 rfl (lv_at hl 2 rfl) ?_
      refine lv_ldc (v := 1000000) hx hb hown (hts (.constant RX7 217 1000000) (by decide +kernel)) dX7_far_12 ?_
      refine lv_icmp_le (tgt := 19) hx hb dX7_far_14 (by decide) (fun c4 => ?_) (fun c4 => ?_)
      · refine lv_iconst (v := 0) hx hb dX7_far_19 (by decide) ?_
        refine lv_istore_n (lv' := [(3, .int 0), (0, .ref (q 32)), (1, .int k), (2, .int w)]) hx hb dX7_far_20 rfl hl (by decide) rfl (fun ls hl => ?_)
        refine lv_iconst (v := 0) hx hb dX7_far_21 (by decide) ?_
        refine lv_iload_n hx hb dX7_far_22 rfl (lv_at hl 2 rfl) ?_
        refine vp_callSi (va_Run.run (va_runS (As := [.int 0, .int k]) (rest := []) ⟨hx, hb, hml, hown, hts⟩ (c_needB l dC dI cI cZ cB cJ cP cW 0 k) (va_cwS 2 hts g214_x_far_needB rfl rfl rfl (by decide +kernel) ⟨Nat.le_of_ble_eq_true rfl, Nat.le_of_ble_eq_true rfl⟩) ⟨fbR, fun U hU hW => ⟨rfl, hE.warm hW, by rw [hU]; exact (fun k q h => by simp at h)⟩⟩ rfl rfl hl.1 rfl (lv_room (Nat.le_of_ble_eq_true rfl)) dX7_far_23 ⟨Nat.le_of_ble_eq_true rfl, Nat.le_of_ble_eq_true rfl⟩)) (fun r5 hr5 => ?_)
        obtain rfl : r5 = (nb 0 k) := hr5
        refine lv_istore (lv' := [(4, .int (nb 0 k)), (3, .int 0), (0, .ref (q 32)), (1, .int k), (2, .int w)]) hx hb dX7_far_26 hl (by decide) rfl (fun ls hl => ?_)
        refine lv_iconst (v := 1) hx hb dX7_far_28 (by decide) ?_
        refine lv_istore (lv' := [(5, .int 1), (4, .int (nb 0 k)), (3, .int 0), (0, .ref (q 32)), (1, .int k), (2, .int w)]) hx hb dX7_far_29 hl (by decide) rfl (fun ls hl => ?_)
        have hl := lv_sub hl [3, 4, 5, 2, 1, 0] rfl
        refine W_loop (σ := Nat × Nat) (fun x9 => match x9 with | (n, j) => n) (fun x9 H6 locs ls => match x9 with | (n, j) => (j + n = 15 ∧ fr k w n j = fr k w 15 0) ∧ H6 = s.heap ∧ locs = [] ∧ lv_has ls 6 [(0, .ref (q 32)), (1, .int k), (2, .int w), (3, .int (nI j)), (4, .int (nd k (j + 1))), (5, .int (nI (j + 1)))]) (fun x9 H6 locs ls hI9 ih => ?_) (15, 0) _ _ _ ⟨⟨rfl, rfl⟩, rfl, rfl, hl⟩
        obtain ⟨n, j⟩ := x9
        dsimp only at hI9
        obtain ⟨hinv, rfl, rfl, hl⟩ := hI9
        refine lv_iload hx hb dX7_far_31 (lv_at hl 5 rfl) ?_
        refine lv_bipush (v := 16) hx hb dX7_far_33 (by decide) ?_
        refine lv_icmp_ge (tgt := 61) hx hb dX7_far_35 (by decide) (fun c7 => ?_) (fun c7 => ?_)
        · refine lv_iload_n hx hb dX7_far_61 rfl (lv_at hl 3 rfl) ?_
          exact W.iret (v := (nI j)) hx hb hr (fun t ht hW => ⟨(nI j), rfl, (by rw [xFar, if_neg c2, if_neg c3, if_neg (Int32.not_lt.mpr c4), ← hinv.2]; have h9 : n = 0 := Nat.eq_zero_of_not_pos (fun h => absurd c7 (nI_ge (a := j + 1) (b := 16) (by omega) (by omega))); rw [h9, fr]), ht⟩) (fun q h => by cases h) dX7_far_62
        · obtain ⟨n1, en1⟩ : ∃ n1, n = n1 + 1 := ⟨n - 1, by have := c7; have h9 : ¬ 16 ≤ j + 1 := fun h => absurd (nI_le (a := 16) h (by omega)) this; omega⟩
          refine lv_iload hx hb dX7_far_38 (lv_at hl 4 rfl) ?_
          refine lv_iload_n hx hb dX7_far_40 rfl (lv_at hl 2 rfl) ?_
          refine lv_icmp_gt (tgt := 61) hx hb dX7_far_41 (by decide) (fun c8 => ?_) (fun c8 => ?_)
          · refine lv_iload_n hx hb dX7_far_61 rfl (lv_at hl 3 rfl) ?_
            exact W.iret (v := (nI j)) hx hb hr (fun t ht hW => ⟨(nI j), rfl, (by rw [xFar, if_neg c2, if_neg c3, if_neg (Int32.not_lt.mpr c4), ← hinv.2]; rw [en1, fr, if_pos c8]), ht⟩) (fun q h => by cases h) dX7_far_62
          · have hfr : fr k w (n - 1) (j + 1) = fr k w 15 0 := by rw [← hinv.2, en1]; show fr k w n1 (j + 1) = fr k w (n1 + 1) j; rw [fr, if_neg c8]
            refine lv_iload hx hb dX7_far_44 (lv_at hl 5 rfl) ?_
            refine lv_istore_n (lv' := [(3, .int (nI (j + 1))), (0, .ref (q 32)), (1, .int k), (2, .int w), (4, .int (nd k (j + 1))), (5, .int (nI (j + 1)))]) hx hb dX7_far_46 rfl hl (by decide) rfl (fun ls hl => ?_)
            refine lv_iload hx hb dX7_far_47 (lv_at hl 4 rfl) ?_
            refine lv_iload_n hx hb dX7_far_49 rfl (lv_at hl 2 rfl) ?_
            refine vp_callSi (va_Run.run (va_runS (As := [.int (nd k (j + 1)), .int k]) (rest := []) ⟨hx, hb, hml, hown, hts⟩ (c_needB l dC dI cI cZ cB cJ cP cW (nd k (j + 1)) k) (va_cwS 2 hts g214_x_far_needB rfl rfl rfl (by decide +kernel) ⟨Nat.le_of_ble_eq_true rfl, Nat.le_of_ble_eq_true rfl⟩) ⟨fbR, fun U hU hW => ⟨rfl, hE.warm hW, by rw [hU]; exact (fun k q h => by simp at h)⟩⟩ rfl rfl hl.1 rfl (lv_room (Nat.le_of_ble_eq_true rfl)) dX7_far_50 ⟨Nat.le_of_ble_eq_true rfl, Nat.le_of_ble_eq_true rfl⟩)) (fun r9 hr9 => ?_)
            obtain rfl : r9 = (nb (nd k (j + 1)) k) := hr9
            refine lv_istore (lv' := [(4, .int (nb (nd k (j + 1)) k)), (3, .int (nI (j + 1))), (0, .ref (q 32)), (1, .int k), (2, .int w), (5, .int (nI (j + 1)))]) hx hb dX7_far_53 hl (by decide) rfl (fun ls hl => ?_)
            refine lv_iinc (v := (nI (j + 1 + 1))) (lv' := [(5, .int (nI (j + 1 + 1))), (4, .int (nb (nd k (j + 1)) k)), (3, .int (nI (j + 1))), (0, .ref (q 32)), (1, .int k), (2, .int w)]) hx hb dX7_far_55 hl (k := 5) rfl (nI_1 (j + 1)) (by decide) rfl (fun ls hl => ?_)
            refine lv_goto (tgt := 31) hx hb dX7_far_58 (by decide) ?_
            exact ih (n - 1, j + 1) _ _ _ ⟨⟨by omega, hfr⟩, rfl, rfl, lv_sub hl [3, 4, 5, 2, 1, 0] rfl⟩ (by show n - 1 < n; omega)
      · refine lv_iconst (v := (-1)) hx hb dX7_far_17 (by decide) ?_
        exact W.iret (v := (-1)) hx hb hr (fun t ht hW => ⟨(-1), rfl, (by simp [xFar, c2, c3, (Int32.not_le.mp c4)]), ht⟩) (fun q h => by cases h) dX7_far_18

def vs_x_again : List Cond := [.code yX7_again cX7_again 3 (some .boolean), .code yX7_within cX7_within 2 (some .boolean), .methodLink RX7 156 yX7_within, .static yX7_within, .initialized RX7, .fieldLink RX7 34 "DepotMarch" "images" "[LDepotMarch$World;"] ++ (wsX70)
theorem in_x_again_X7 : ∀ w ∈ u_ws RX7 TX7 7, w ∈ vs_x_again := fun w h => List.mem_append_right _ (h)
set_option maxRecDepth 20000 in
theorem gg_x_again_within : GoodIn vs_x_again vs_within := goodIn_r _ [1] (by decide +kernel) (by decide +kernel)
set_option maxRecDepth 20000 in
theorem g156_x_again_within : GoodIn vs_x_again (va_wsS RX7 156 yX7_within vs_within) := goodIn_app (goodIn_of _ (by decide +kernel)) gg_x_again_within
set_option maxHeartbeats 4000000 in
set_option maxRecDepth 100000 in
theorem c_x_again (l : Launch) (dC : Nat → ClassId) (dI : Nat → Nat → Nat) (cI cZ cB cJ cP cW : ClassId) (q : Nat → Nat) (k : Int32) : Met l yX7_again vs_x_again ({ frames := 6, cells := 0, slots := 0, locals := 360 }) (va_Pc [.ref (q 32), .int k] (fun U => EV dC dI cI cZ cB cJ cP cW U ∧ va_P (dC, dI) vwCl [((q 32), .inr (7, [.ref (q 33), .int 0, .ref (q 34), .ref (q 40), .ref (q 0), .ref (q 42), .null])), ((q 42), .inl (cW, 3, .inr (.inr (.inr (.inr (fun _ => none))))))] U.heap)) (vp_Si (fun r => r = 0)) 0 0 (fun _ => False) := by
  refine Met.ofW (cc := cX7_again) (maxL := 3) (ret := (some .boolean)) (by decide) rfl ?_
  intro p e s m args below meth c s₁ B hml hv
  obtain ⟨rfl, hE, hP⟩ := hv
  have hx := B.exec
  have hb := B.bytes
  have hr := B.returns
  have hts := atoms_spec (ws := vs_x_again) B.pre
  have hown : s.vm.findClass RX7 = some m.cls := findClass_of_methodNamed B.named
  have hlocks := B.notSynchronized
  have hK := hE.2
  have hA : True := trivial
  have hS : va_S (fun _ => False) s.heap s.heap [] := va_S.rf
  have hl := lv_entry ([.ref (q 32), .int k]) (n := 3) (Nat.le_of_ble_eq_true rfl)
  rw [lg_entry_eq]
  generalize (lg_sl ([.ref (q 32), .int k]) ++ List.replicate (3 - (lg_sl ([.ref (q 32), .int k])).length) Slot.unset).toArray = ls at hl ⊢
  have hl : lv_has ls 3 [(0, .ref (q 32)), (1, .int k)] := hl
  refine lv_iload_n hx hb dX7_again_0 rfl (lv_at hl 1 rfl) ?_
  refine lv_iconst (v := 3) hx hb dX7_again_1 (by decide) ?_
  refine vp_callSi (va_Run.run (va_runS (As := [.int k, .int 3]) (rest := []) ⟨hx, hb, hml, hown, hts⟩ (c_within l dC dI cI cZ cB cJ cP cW k 3) (va_cwS 2 hts g156_x_again_within rfl rfl rfl (by decide +kernel) ⟨Nat.le_of_ble_eq_true rfl, Nat.le_of_ble_eq_true rfl⟩) ⟨fbR, fun U hU hW => ⟨rfl, hE.warm hW, by rw [hU]; exact (fun k q h => by simp at h)⟩⟩ rfl rfl hl.1 rfl (lv_room (Nat.le_of_ble_eq_true rfl)) dX7_again_2 ⟨Nat.le_of_ble_eq_true rfl, Nat.le_of_ble_eq_true rfl⟩)) (fun r1 hr1 => ?_)
  obtain rfl : r1 = (wi k 3) := hr1
  refine lv_if_ne (tgt := 10) hx hb dX7_again_5 (by decide) (fun c2 => ?_) (fun c2 => ?_)
  · refine lv_aload_n hx hb dX7_again_10 rfl (lv_at hl 0 rfl) ?_
    refine va_get (D := (dC, dI)) (ci := 7) (v := .ref (q 42)) (C := RX7) (T := TX7) (N := 7) hx hb hts in_x_again_X7 hown hK hP 0 rfl rfl 5 (by decide) (hts (.fieldLink RX7 34 "DepotMarch" "images" "[LDepotMarch$World;") (by decide +kernel)) (fun _ h9 => h9) rfl dX7_again_11 ?_
    refine lv_iload_n hx hb dX7_again_14 rfl (lv_at hl 1 rfl) ?_
    refine va_aldq hx hb hK hP 1 5 rfl rfl (wi_in (N := 3) rfl c2) dX7_again_15 ?_
    refine W.eq (g2 := F0 m 16 ls [.null]) rfl ?_
    refine lv_astore_nN (lv' := [(2, .null), (0, .ref (q 32)), (1, .int k)]) hx hb dX7_again_16 rfl hl (by decide) rfl (fun ls hl => ?_)
    refine lv_aload_nN hx hb dX7_again_17 rfl (lv_at hl 0 rfl) ?_
    refine lv_ifnonnullN hx hb dX7_again_18 ?_
    refine lv_iconst (v := 0) hx hb dX7_again_21 (by decide) ?_
    exact W.zret (v := 0) hx hb hr rfl (fun t ht hW => ⟨0, rfl, rfl, ht⟩) (fun q h => by cases h) dX7_again_22
  · refine lv_iconst (v := 0) hx hb dX7_again_8 (by decide) ?_
    exact W.zret (v := 0) hx hb hr rfl (fun t ht hW => ⟨0, rfl, rfl, ht⟩) (fun q h => by cases h) dX7_again_9
