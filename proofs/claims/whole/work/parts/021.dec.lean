theorem dX0_init_0 : decode cX0_init 0 = .ok (.aload_n 0, 1) := by decide +kernel
theorem dX0_init_1 : decode cX0_init 1 = .ok (.invokespecial 3, 3) := by decide +kernel
theorem dX0_init_4 : decode cX0_init 4 = .ok (.aload_n 0, 1) := by decide +kernel
theorem dX0_init_5 : decode cX0_init 5 = .ok (.iconst 5, 1) := by decide +kernel
theorem dX0_init_6 : decode cX0_init 6 = .ok (.bipush 8, 2) := by decide +kernel
theorem dX0_init_8 : decode cX0_init 8 = .ok (.multianewarray 9 2, 4) := by decide +kernel
theorem dX0_init_12 : decode cX0_init 12 = .ok (.putfield 11, 3) := by decide +kernel
theorem dX0_init_15 : decode cX0_init 15 = .ok (.aload_n 0, 1) := by decide +kernel
theorem dX0_init_16 : decode cX0_init 16 = .ok (.iconst 5, 1) := by decide +kernel
theorem dX0_init_17 : decode cX0_init 17 = .ok (.bipush 8, 2) := by decide +kernel
theorem dX0_init_19 : decode cX0_init 19 = .ok (.multianewarray 9 2, 4) := by decide +kernel
theorem dX0_init_23 : decode cX0_init 23 = .ok (.putfield 16, 3) := by decide +kernel
theorem dX0_init_26 : decode cX0_init 26 = .ok (.return_, 1) := by decide +kernel
theorem dX0_has_0 : decode cX0_has 0 = .ok (.aload_n 0, 1) := by decide +kernel
theorem dX0_has_1 : decode cX0_has 1 = .ok (.getfield 11, 3) := by decide +kernel
theorem dX0_has_4 : decode cX0_has 4 = .ok (.iload_n 1, 1) := by decide +kernel
theorem dX0_has_5 : decode cX0_has 5 = .ok (.aaload, 1) := by decide +kernel
theorem dX0_has_6 : decode cX0_has 6 = .ok (.iload_n 2, 1) := by decide +kernel
theorem dX0_has_7 : decode cX0_has 7 = .ok (.iaload, 1) := by decide +kernel
theorem dX0_has_8 : decode cX0_has 8 = .ok (.ifCond .eq 7, 3) := by decide +kernel
theorem dX0_has_11 : decode cX0_has 11 = .ok (.iconst 1, 1) := by decide +kernel
theorem dX0_has_12 : decode cX0_has 12 = .ok (.goto 4, 3) := by decide +kernel
theorem dX0_has_15 : decode cX0_has 15 = .ok (.iconst 0, 1) := by decide +kernel
theorem dX0_has_16 : decode cX0_has 16 = .ok (.ireturn, 1) := by decide +kernel
theorem dX0_put_0 : decode cX0_put 0 = .ok (.aload_n 0, 1) := by decide +kernel
theorem dX0_put_1 : decode cX0_put 1 = .ok (.getfield 11, 3) := by decide +kernel
theorem dX0_put_4 : decode cX0_put 4 = .ok (.iload_n 1, 1) := by decide +kernel
theorem dX0_put_5 : decode cX0_put 5 = .ok (.aaload, 1) := by decide +kernel
theorem dX0_put_6 : decode cX0_put 6 = .ok (.iload_n 2, 1) := by decide +kernel
theorem dX0_put_7 : decode cX0_put 7 = .ok (.iload_n 3, 1) := by decide +kernel
theorem dX0_put_8 : decode cX0_put 8 = .ok (.iastore, 1) := by decide +kernel
theorem dX0_put_9 : decode cX0_put 9 = .ok (.aload_n 0, 1) := by decide +kernel
theorem dX0_put_10 : decode cX0_put 10 = .ok (.getfield 16, 3) := by decide +kernel
theorem dX0_put_13 : decode cX0_put 13 = .ok (.iload_n 1, 1) := by decide +kernel
theorem dX0_put_14 : decode cX0_put 14 = .ok (.aaload, 1) := by decide +kernel
theorem dX0_put_15 : decode cX0_put 15 = .ok (.iload_n 2, 1) := by decide +kernel
theorem dX0_put_16 : decode cX0_put 16 = .ok (.iload 4, 2) := by decide +kernel
theorem dX0_put_18 : decode cX0_put 18 = .ok (.iastore, 1) := by decide +kernel
theorem dX0_put_19 : decode cX0_put 19 = .ok (.return_, 1) := by decide +kernel
theorem dX0_take_0 : decode cX0_take 0 = .ok (.aload_n 0, 1) := by decide +kernel
theorem dX0_take_1 : decode cX0_take 1 = .ok (.getfield 11, 3) := by decide +kernel
theorem dX0_take_4 : decode cX0_take 4 = .ok (.iload_n 1, 1) := by decide +kernel
theorem dX0_take_5 : decode cX0_take 5 = .ok (.aaload, 1) := by decide +kernel
theorem dX0_take_6 : decode cX0_take 6 = .ok (.iload_n 2, 1) := by decide +kernel
theorem dX0_take_7 : decode cX0_take 7 = .ok (.iaload, 1) := by decide +kernel
theorem dX0_take_8 : decode cX0_take 8 = .ok (.istore_n 3, 1) := by decide +kernel
theorem dX0_take_9 : decode cX0_take 9 = .ok (.aload_n 0, 1) := by decide +kernel
theorem dX0_take_10 : decode cX0_take 10 = .ok (.getfield 11, 3) := by decide +kernel
theorem dX0_take_13 : decode cX0_take 13 = .ok (.iload_n 1, 1) := by decide +kernel
theorem dX0_take_14 : decode cX0_take 14 = .ok (.aaload, 1) := by decide +kernel
theorem dX0_take_15 : decode cX0_take 15 = .ok (.iload_n 2, 1) := by decide +kernel
theorem dX0_take_16 : decode cX0_take 16 = .ok (.iconst 0, 1) := by decide +kernel
theorem dX0_take_17 : decode cX0_take 17 = .ok (.iastore, 1) := by decide +kernel
theorem dX0_take_18 : decode cX0_take 18 = .ok (.iload_n 3, 1) := by decide +kernel
theorem dX0_take_19 : decode cX0_take 19 = .ok (.ireturn, 1) := by decide +kernel
theorem dX0_bestBidder_0 : decode cX0_bestBidder 0 = .ok (.iconst (-1), 1) := by decide +kernel
theorem dX0_bestBidder_1 : decode cX0_bestBidder 1 = .ok (.istore_n 3, 1) := by decide +kernel
theorem dX0_bestBidder_2 : decode cX0_bestBidder 2 = .ok (.iconst 0, 1) := by decide +kernel
theorem dX0_bestBidder_3 : decode cX0_bestBidder 3 = .ok (.istore 4, 2) := by decide +kernel
theorem dX0_bestBidder_5 : decode cX0_bestBidder 5 = .ok (.iload 4, 2) := by decide +kernel
theorem dX0_bestBidder_7 : decode cX0_bestBidder 7 = .ok (.iconst 5, 1) := by decide +kernel
theorem dX0_bestBidder_8 : decode cX0_bestBidder 8 = .ok (.if_icmp .ge 44, 3) := by decide +kernel
theorem dX0_bestBidder_11 : decode cX0_bestBidder 11 = .ok (.aload_n 0, 1) := by decide +kernel
theorem dX0_bestBidder_12 : decode cX0_bestBidder 12 = .ok (.iload 4, 2) := by decide +kernel
theorem dX0_bestBidder_14 : decode cX0_bestBidder 14 = .ok (.iload_n 1, 1) := by decide +kernel
theorem dX0_bestBidder_15 : decode cX0_bestBidder 15 = .ok (.invokevirtual 19, 3) := by decide +kernel
theorem dX0_bestBidder_18 : decode cX0_bestBidder 18 = .ok (.ifCond .eq 28, 3) := by decide +kernel
theorem dX0_bestBidder_21 : decode cX0_bestBidder 21 = .ok (.iload 4, 2) := by decide +kernel
theorem dX0_bestBidder_23 : decode cX0_bestBidder 23 = .ok (.iload_n 2, 1) := by decide +kernel
theorem dX0_bestBidder_24 : decode cX0_bestBidder 24 = .ok (.if_icmp .eq 22, 3) := by decide +kernel
theorem dX0_bestBidder_27 : decode cX0_bestBidder 27 = .ok (.iload_n 3, 1) := by decide +kernel
theorem dX0_bestBidder_28 : decode cX0_bestBidder 28 = .ok (.iconst (-1), 1) := by decide +kernel
theorem dX0_bestBidder_29 : decode cX0_bestBidder 29 = .ok (.if_icmp .eq 14, 3) := by decide +kernel
theorem dX0_bestBidder_32 : decode cX0_bestBidder 32 = .ok (.aload_n 0, 1) := by decide +kernel
theorem dX0_bestBidder_33 : decode cX0_bestBidder 33 = .ok (.iload 4, 2) := by decide +kernel
theorem dX0_bestBidder_35 : decode cX0_bestBidder 35 = .ok (.iload_n 3, 1) := by decide +kernel
theorem dX0_bestBidder_36 : decode cX0_bestBidder 36 = .ok (.iload_n 1, 1) := by decide +kernel
theorem dX0_bestBidder_37 : decode cX0_bestBidder 37 = .ok (.invokevirtual 23, 3) := by decide +kernel
theorem dX0_bestBidder_40 : decode cX0_bestBidder 40 = .ok (.ifCond .eq 6, 3) := by decide +kernel
theorem dX0_bestBidder_43 : decode cX0_bestBidder 43 = .ok (.iload 4, 2) := by decide +kernel
theorem dX0_bestBidder_45 : decode cX0_bestBidder 45 = .ok (.istore_n 3, 1) := by decide +kernel
theorem dX0_bestBidder_46 : decode cX0_bestBidder 46 = .ok (.iinc 4 1, 3) := by decide +kernel
theorem dX0_bestBidder_49 : decode cX0_bestBidder 49 = .ok (.goto (-44), 3) := by decide +kernel
theorem dX0_bestBidder_52 : decode cX0_bestBidder 52 = .ok (.iload_n 3, 1) := by decide +kernel
theorem dX0_bestBidder_53 : decode cX0_bestBidder 53 = .ok (.ireturn, 1) := by decide +kernel
theorem dX0_isBefore_0 : decode cX0_isBefore 0 = .ok (.aload_n 0, 1) := by decide +kernel
theorem dX0_isBefore_1 : decode cX0_isBefore 1 = .ok (.getfield 11, 3) := by decide +kernel
theorem dX0_isBefore_4 : decode cX0_isBefore 4 = .ok (.iload_n 1, 1) := by decide +kernel
theorem dX0_isBefore_5 : decode cX0_isBefore 5 = .ok (.aaload, 1) := by decide +kernel
theorem dX0_isBefore_6 : decode cX0_isBefore 6 = .ok (.iload_n 3, 1) := by decide +kernel
theorem dX0_isBefore_7 : decode cX0_isBefore 7 = .ok (.iaload, 1) := by decide +kernel
theorem dX0_isBefore_8 : decode cX0_isBefore 8 = .ok (.istore 4, 2) := by decide +kernel
theorem dX0_isBefore_10 : decode cX0_isBefore 10 = .ok (.aload_n 0, 1) := by decide +kernel
theorem dX0_isBefore_11 : decode cX0_isBefore 11 = .ok (.getfield 11, 3) := by decide +kernel
theorem dX0_isBefore_14 : decode cX0_isBefore 14 = .ok (.iload_n 2, 1) := by decide +kernel
theorem dX0_isBefore_15 : decode cX0_isBefore 15 = .ok (.aaload, 1) := by decide +kernel
theorem dX0_isBefore_16 : decode cX0_isBefore 16 = .ok (.iload_n 3, 1) := by decide +kernel
theorem dX0_isBefore_17 : decode cX0_isBefore 17 = .ok (.iaload, 1) := by decide +kernel
theorem dX0_isBefore_18 : decode cX0_isBefore 18 = .ok (.istore 5, 2) := by decide +kernel
theorem dX0_isBefore_20 : decode cX0_isBefore 20 = .ok (.iload 4, 2) := by decide +kernel
theorem dX0_isBefore_22 : decode cX0_isBefore 22 = .ok (.iload 5, 2) := by decide +kernel
theorem dX0_isBefore_24 : decode cX0_isBefore 24 = .ok (.if_icmp .gt 29, 3) := by decide +kernel
theorem dX0_isBefore_27 : decode cX0_isBefore 27 = .ok (.iload 4, 2) := by decide +kernel
theorem dX0_isBefore_29 : decode cX0_isBefore 29 = .ok (.iload 5, 2) := by decide +kernel
theorem dX0_isBefore_31 : decode cX0_isBefore 31 = .ok (.if_icmp .ne 26, 3) := by decide +kernel
theorem dX0_isBefore_34 : decode cX0_isBefore 34 = .ok (.aload_n 0, 1) := by decide +kernel
theorem dX0_isBefore_35 : decode cX0_isBefore 35 = .ok (.getfield 16, 3) := by decide +kernel
theorem dX0_isBefore_38 : decode cX0_isBefore 38 = .ok (.iload_n 1, 1) := by decide +kernel
theorem dX0_isBefore_39 : decode cX0_isBefore 39 = .ok (.aaload, 1) := by decide +kernel
theorem dX0_isBefore_40 : decode cX0_isBefore 40 = .ok (.iload_n 3, 1) := by decide +kernel
theorem dX0_isBefore_41 : decode cX0_isBefore 41 = .ok (.iaload, 1) := by decide +kernel
theorem dX0_isBefore_42 : decode cX0_isBefore 42 = .ok (.aload_n 0, 1) := by decide +kernel
theorem dX0_isBefore_43 : decode cX0_isBefore 43 = .ok (.getfield 16, 3) := by decide +kernel
theorem dX0_isBefore_46 : decode cX0_isBefore 46 = .ok (.iload_n 2, 1) := by decide +kernel
theorem dX0_isBefore_47 : decode cX0_isBefore 47 = .ok (.aaload, 1) := by decide +kernel
theorem dX0_isBefore_48 : decode cX0_isBefore 48 = .ok (.iload_n 3, 1) := by decide +kernel
theorem dX0_isBefore_49 : decode cX0_isBefore 49 = .ok (.iaload, 1) := by decide +kernel
theorem dX0_isBefore_50 : decode cX0_isBefore 50 = .ok (.if_icmp .ge 7, 3) := by decide +kernel
theorem dX0_isBefore_53 : decode cX0_isBefore 53 = .ok (.iconst 1, 1) := by decide +kernel
theorem dX0_isBefore_54 : decode cX0_isBefore 54 = .ok (.goto 4, 3) := by decide +kernel
theorem dX0_isBefore_57 : decode cX0_isBefore 57 = .ok (.iconst 0, 1) := by decide +kernel
theorem dX0_isBefore_58 : decode cX0_isBefore 58 = .ok (.ireturn, 1) := by decide +kernel
theorem dX1_init_0 : decode cX1_init 0 = .ok (.aload_n 0, 1) := by decide +kernel
theorem dX1_init_1 : decode cX1_init 1 = .ok (.invokespecial 3, 3) := by decide +kernel
theorem dX1_init_4 : decode cX1_init 4 = .ok (.aload_n 0, 1) := by decide +kernel
theorem dX1_init_5 : decode cX1_init 5 = .ok (.bipush 30, 2) := by decide +kernel
theorem dX1_init_7 : decode cX1_init 7 = .ok (.newarray .int, 2) := by decide +kernel
theorem dX1_init_9 : decode cX1_init 9 = .ok (.putfield 9, 3) := by decide +kernel
theorem dX1_init_12 : decode cX1_init 12 = .ok (.aload_n 0, 1) := by decide +kernel
theorem dX1_init_13 : decode cX1_init 13 = .ok (.bipush 30, 2) := by decide +kernel
theorem dX1_init_15 : decode cX1_init 15 = .ok (.newarray .int, 2) := by decide +kernel
theorem dX1_init_17 : decode cX1_init 17 = .ok (.putfield 15, 3) := by decide +kernel
theorem dX1_init_20 : decode cX1_init 20 = .ok (.aload_n 0, 1) := by decide +kernel
theorem dX1_init_21 : decode cX1_init 21 = .ok (.bipush 30, 2) := by decide +kernel
theorem dX1_init_23 : decode cX1_init 23 = .ok (.newarray .int, 2) := by decide +kernel
theorem dX1_init_25 : decode cX1_init 25 = .ok (.putfield 18, 3) := by decide +kernel
theorem dX1_init_28 : decode cX1_init 28 = .ok (.aload_n 0, 1) := by decide +kernel
theorem dX1_init_29 : decode cX1_init 29 = .ok (.bipush 30, 2) := by decide +kernel
theorem dX1_init_31 : decode cX1_init 31 = .ok (.newarray .int, 2) := by decide +kernel
theorem dX1_init_33 : decode cX1_init 33 = .ok (.putfield 21, 3) := by decide +kernel
theorem dX1_init_36 : decode cX1_init 36 = .ok (.aload_n 0, 1) := by decide +kernel
theorem dX1_init_37 : decode cX1_init 37 = .ok (.bipush 30, 2) := by decide +kernel
theorem dX1_init_39 : decode cX1_init 39 = .ok (.newarray .int, 2) := by decide +kernel
theorem dX1_init_41 : decode cX1_init 41 = .ok (.putfield 24, 3) := by decide +kernel
theorem dX1_init_44 : decode cX1_init 44 = .ok (.aload_n 0, 1) := by decide +kernel
theorem dX1_init_45 : decode cX1_init 45 = .ok (.bipush 30, 2) := by decide +kernel
theorem dX1_init_47 : decode cX1_init 47 = .ok (.newarray .int, 2) := by decide +kernel
theorem dX1_init_49 : decode cX1_init 49 = .ok (.putfield 27, 3) := by decide +kernel
theorem dX1_init_52 : decode cX1_init 52 = .ok (.aload_n 0, 1) := by decide +kernel
theorem dX1_init_53 : decode cX1_init 53 = .ok (.bipush 30, 2) := by decide +kernel
theorem dX1_init_55 : decode cX1_init 55 = .ok (.newarray .int, 2) := by decide +kernel
theorem dX1_init_57 : decode cX1_init 57 = .ok (.putfield 30, 3) := by decide +kernel
theorem dX1_init_60 : decode cX1_init 60 = .ok (.aload_n 0, 1) := by decide +kernel
theorem dX1_init_61 : decode cX1_init 61 = .ok (.bipush 30, 2) := by decide +kernel
theorem dX1_init_63 : decode cX1_init 63 = .ok (.newarray .int, 2) := by decide +kernel
theorem dX1_init_65 : decode cX1_init 65 = .ok (.putfield 33, 3) := by decide +kernel
theorem dX1_init_68 : decode cX1_init 68 = .ok (.aload_n 0, 1) := by decide +kernel
theorem dX1_init_69 : decode cX1_init 69 = .ok (.iconst 0, 1) := by decide +kernel
theorem dX1_init_70 : decode cX1_init 70 = .ok (.putfield 36, 3) := by decide +kernel
theorem dX1_init_73 : decode cX1_init 73 = .ok (.return_, 1) := by decide +kernel
theorem dX1_has_0 : decode cX1_has 0 = .ok (.iload_n 1, 1) := by decide +kernel
theorem dX1_has_1 : decode cX1_has 1 = .ok (.ifCond .lt 15, 3) := by decide +kernel
theorem dX1_has_4 : decode cX1_has 4 = .ok (.iload_n 1, 1) := by decide +kernel
theorem dX1_has_5 : decode cX1_has 5 = .ok (.aload_n 0, 1) := by decide +kernel
theorem dX1_has_6 : decode cX1_has 6 = .ok (.getfield 36, 3) := by decide +kernel
theorem dX1_has_9 : decode cX1_has 9 = .ok (.if_icmp .ge 7, 3) := by decide +kernel
theorem dX1_has_12 : decode cX1_has 12 = .ok (.iconst 1, 1) := by decide +kernel
theorem dX1_has_13 : decode cX1_has 13 = .ok (.goto 4, 3) := by decide +kernel
theorem dX1_has_16 : decode cX1_has 16 = .ok (.iconst 0, 1) := by decide +kernel
theorem dX1_has_17 : decode cX1_has 17 = .ok (.ireturn, 1) := by decide +kernel
theorem dX1_isFull_0 : decode cX1_isFull 0 = .ok (.aload_n 0, 1) := by decide +kernel
theorem dX1_isFull_1 : decode cX1_isFull 1 = .ok (.getfield 36, 3) := by decide +kernel
theorem dX1_isFull_4 : decode cX1_isFull 4 = .ok (.bipush 30, 2) := by decide +kernel
theorem dX1_isFull_6 : decode cX1_isFull 6 = .ok (.if_icmp .lt 7, 3) := by decide +kernel
theorem dX1_isFull_9 : decode cX1_isFull 9 = .ok (.iconst 1, 1) := by decide +kernel
theorem dX1_isFull_10 : decode cX1_isFull 10 = .ok (.goto 4, 3) := by decide +kernel
theorem dX1_isFull_13 : decode cX1_isFull 13 = .ok (.iconst 0, 1) := by decide +kernel
theorem dX1_isFull_14 : decode cX1_isFull 14 = .ok (.ireturn, 1) := by decide +kernel
theorem dX1_add_0 : decode cX1_add 0 = .ok (.aload_n 0, 1) := by decide +kernel
theorem dX1_add_1 : decode cX1_add 1 = .ok (.getfield 36, 3) := by decide +kernel
theorem dX1_add_4 : decode cX1_add 4 = .ok (.istore_n 3, 1) := by decide +kernel
theorem dX1_add_5 : decode cX1_add 5 = .ok (.aload_n 0, 1) := by decide +kernel
theorem dX1_add_6 : decode cX1_add 6 = .ok (.getfield 9, 3) := by decide +kernel
theorem dX1_add_9 : decode cX1_add 9 = .ok (.iload_n 3, 1) := by decide +kernel
theorem dX1_add_10 : decode cX1_add 10 = .ok (.iload_n 2, 1) := by decide +kernel
theorem dX1_add_11 : decode cX1_add 11 = .ok (.iastore, 1) := by decide +kernel
theorem dX1_add_12 : decode cX1_add 12 = .ok (.aload_n 0, 1) := by decide +kernel
theorem dX1_add_13 : decode cX1_add 13 = .ok (.getfield 15, 3) := by decide +kernel
theorem dX1_add_16 : decode cX1_add 16 = .ok (.iload_n 3, 1) := by decide +kernel
theorem dX1_add_17 : decode cX1_add 17 = .ok (.iload_n 1, 1) := by decide +kernel
theorem dX1_add_18 : decode cX1_add 18 = .ok (.iastore, 1) := by decide +kernel
theorem dX1_add_19 : decode cX1_add 19 = .ok (.aload_n 0, 1) := by decide +kernel
theorem dX1_add_20 : decode cX1_add 20 = .ok (.getfield 18, 3) := by decide +kernel
theorem dX1_add_23 : decode cX1_add 23 = .ok (.iload_n 3, 1) := by decide +kernel
theorem dX1_add_24 : decode cX1_add 24 = .ok (.iconst 0, 1) := by decide +kernel
theorem dX1_add_25 : decode cX1_add 25 = .ok (.iastore, 1) := by decide +kernel
theorem dX1_add_26 : decode cX1_add 26 = .ok (.aload_n 0, 1) := by decide +kernel
theorem dX1_add_27 : decode cX1_add 27 = .ok (.dup, 1) := by decide +kernel
theorem dX1_add_28 : decode cX1_add 28 = .ok (.getfield 36, 3) := by decide +kernel
theorem dX1_add_31 : decode cX1_add 31 = .ok (.iconst 1, 1) := by decide +kernel
theorem dX1_add_32 : decode cX1_add 32 = .ok (.iadd, 1) := by decide +kernel
theorem dX1_add_33 : decode cX1_add 33 = .ok (.putfield 36, 3) := by decide +kernel
theorem dX1_add_36 : decode cX1_add 36 = .ok (.iload_n 3, 1) := by decide +kernel
theorem dX1_add_37 : decode cX1_add 37 = .ok (.ireturn, 1) := by decide +kernel
theorem dX1_holderOf_0 : decode cX1_holderOf 0 = .ok (.aload_n 0, 1) := by decide +kernel
theorem dX1_holderOf_1 : decode cX1_holderOf 1 = .ok (.getfield 18, 3) := by decide +kernel
theorem dX1_holderOf_4 : decode cX1_holderOf 4 = .ok (.iload_n 1, 1) := by decide +kernel
theorem dX1_holderOf_5 : decode cX1_holderOf 5 = .ok (.iaload, 1) := by decide +kernel
theorem dX1_holderOf_6 : decode cX1_holderOf 6 = .ok (.iconst 3, 1) := by decide +kernel
theorem dX1_holderOf_7 : decode cX1_holderOf 7 = .ok (.if_icmp .ne 12, 3) := by decide +kernel
theorem dX1_holderOf_10 : decode cX1_holderOf 10 = .ok (.aload_n 0, 1) := by decide +kernel
theorem dX1_holderOf_11 : decode cX1_holderOf 11 = .ok (.getfield 30, 3) := by decide +kernel
theorem dX1_holderOf_14 : decode cX1_holderOf 14 = .ok (.iload_n 1, 1) := by decide +kernel
theorem dX1_holderOf_15 : decode cX1_holderOf 15 = .ok (.iaload, 1) := by decide +kernel
theorem dX1_holderOf_16 : decode cX1_holderOf 16 = .ok (.goto 9, 3) := by decide +kernel
theorem dX1_holderOf_19 : decode cX1_holderOf 19 = .ok (.aload_n 0, 1) := by decide +kernel
theorem dX1_holderOf_20 : decode cX1_holderOf 20 = .ok (.getfield 15, 3) := by decide +kernel
theorem dX1_holderOf_23 : decode cX1_holderOf 23 = .ok (.iload_n 1, 1) := by decide +kernel
theorem dX1_holderOf_24 : decode cX1_holderOf 24 = .ok (.iaload, 1) := by decide +kernel
theorem dX1_holderOf_25 : decode cX1_holderOf 25 = .ok (.ireturn, 1) := by decide +kernel
theorem dX1_putSale_0 : decode cX1_putSale 0 = .ok (.aload_n 0, 1) := by decide +kernel
theorem dX1_putSale_1 : decode cX1_putSale 1 = .ok (.getfield 18, 3) := by decide +kernel
theorem dX1_putSale_4 : decode cX1_putSale 4 = .ok (.iload_n 1, 1) := by decide +kernel
theorem dX1_putSale_5 : decode cX1_putSale 5 = .ok (.iconst 1, 1) := by decide +kernel
theorem dX1_putSale_6 : decode cX1_putSale 6 = .ok (.iastore, 1) := by decide +kernel
theorem dX1_putSale_7 : decode cX1_putSale 7 = .ok (.aload_n 0, 1) := by decide +kernel
theorem dX1_putSale_8 : decode cX1_putSale 8 = .ok (.getfield 21, 3) := by decide +kernel
theorem dX1_putSale_11 : decode cX1_putSale 11 = .ok (.iload_n 1, 1) := by decide +kernel
theorem dX1_putSale_12 : decode cX1_putSale 12 = .ok (.iload_n 2, 1) := by decide +kernel
theorem dX1_putSale_13 : decode cX1_putSale 13 = .ok (.iastore, 1) := by decide +kernel
theorem dX1_putSale_14 : decode cX1_putSale 14 = .ok (.aload_n 0, 1) := by decide +kernel
theorem dX1_putSale_15 : decode cX1_putSale 15 = .ok (.getfield 24, 3) := by decide +kernel
theorem dX1_putSale_18 : decode cX1_putSale 18 = .ok (.iload_n 1, 1) := by decide +kernel
theorem dX1_putSale_19 : decode cX1_putSale 19 = .ok (.iload_n 3, 1) := by decide +kernel
theorem dX1_putSale_20 : decode cX1_putSale 20 = .ok (.iastore, 1) := by decide +kernel
theorem dX1_putSale_21 : decode cX1_putSale 21 = .ok (.return_, 1) := by decide +kernel
theorem dX1_takeSale_0 : decode cX1_takeSale 0 = .ok (.aload_n 0, 1) := by decide +kernel
theorem dX1_takeSale_1 : decode cX1_takeSale 1 = .ok (.getfield 18, 3) := by decide +kernel
theorem dX1_takeSale_4 : decode cX1_takeSale 4 = .ok (.iload_n 1, 1) := by decide +kernel
theorem dX1_takeSale_5 : decode cX1_takeSale 5 = .ok (.iconst 0, 1) := by decide +kernel
theorem dX1_takeSale_6 : decode cX1_takeSale 6 = .ok (.iastore, 1) := by decide +kernel
theorem dX1_takeSale_7 : decode cX1_takeSale 7 = .ok (.aload_n 0, 1) := by decide +kernel
theorem dX1_takeSale_8 : decode cX1_takeSale 8 = .ok (.getfield 21, 3) := by decide +kernel
theorem dX1_takeSale_11 : decode cX1_takeSale 11 = .ok (.iload_n 1, 1) := by decide +kernel
theorem dX1_takeSale_12 : decode cX1_takeSale 12 = .ok (.iaload, 1) := by decide +kernel
theorem dX1_takeSale_13 : decode cX1_takeSale 13 = .ok (.ireturn, 1) := by decide +kernel
theorem dX1_takeSalesOf_0 : decode cX1_takeSalesOf 0 = .ok (.iconst 0, 1) := by decide +kernel
theorem dX1_takeSalesOf_1 : decode cX1_takeSalesOf 1 = .ok (.istore_n 2, 1) := by decide +kernel
theorem dX1_takeSalesOf_2 : decode cX1_takeSalesOf 2 = .ok (.iconst 0, 1) := by decide +kernel
theorem dX1_takeSalesOf_3 : decode cX1_takeSalesOf 3 = .ok (.istore_n 3, 1) := by decide +kernel
theorem dX1_takeSalesOf_4 : decode cX1_takeSalesOf 4 = .ok (.iload_n 3, 1) := by decide +kernel
theorem dX1_takeSalesOf_5 : decode cX1_takeSalesOf 5 = .ok (.aload_n 0, 1) := by decide +kernel
theorem dX1_takeSalesOf_6 : decode cX1_takeSalesOf 6 = .ok (.getfield 36, 3) := by decide +kernel
theorem dX1_takeSalesOf_9 : decode cX1_takeSalesOf 9 = .ok (.if_icmp .ge 27, 3) := by decide +kernel
theorem dX1_takeSalesOf_12 : decode cX1_takeSalesOf 12 = .ok (.aload_n 0, 1) := by decide +kernel
theorem dX1_takeSalesOf_13 : decode cX1_takeSalesOf 13 = .ok (.iload_n 3, 1) := by decide +kernel
theorem dX1_takeSalesOf_14 : decode cX1_takeSalesOf 14 = .ok (.iload_n 1, 1) := by decide +kernel
theorem dX1_takeSalesOf_15 : decode cX1_takeSalesOf 15 = .ok (.invokevirtual 40, 3) := by decide +kernel
theorem dX1_takeSalesOf_18 : decode cX1_takeSalesOf 18 = .ok (.ifCond .eq 12, 3) := by decide +kernel
theorem dX1_takeSalesOf_21 : decode cX1_takeSalesOf 21 = .ok (.aload_n 0, 1) := by decide +kernel
theorem dX1_takeSalesOf_22 : decode cX1_takeSalesOf 22 = .ok (.iload_n 3, 1) := by decide +kernel
theorem dX1_takeSalesOf_23 : decode cX1_takeSalesOf 23 = .ok (.invokevirtual 44, 3) := by decide +kernel
theorem dX1_takeSalesOf_26 : decode cX1_takeSalesOf 26 = .ok (.pop, 1) := by decide +kernel
theorem dX1_takeSalesOf_27 : decode cX1_takeSalesOf 27 = .ok (.iinc 2 1, 3) := by decide +kernel
theorem dX1_takeSalesOf_30 : decode cX1_takeSalesOf 30 = .ok (.iinc 3 1, 3) := by decide +kernel
theorem dX1_takeSalesOf_33 : decode cX1_takeSalesOf 33 = .ok (.goto (-29), 3) := by decide +kernel
theorem dX1_takeSalesOf_36 : decode cX1_takeSalesOf 36 = .ok (.iload_n 2, 1) := by decide +kernel
theorem dX1_takeSalesOf_37 : decode cX1_takeSalesOf 37 = .ok (.ireturn, 1) := by decide +kernel
theorem dX1_isOnSale_0 : decode cX1_isOnSale 0 = .ok (.aload_n 0, 1) := by decide +kernel
theorem dX1_isOnSale_1 : decode cX1_isOnSale 1 = .ok (.getfield 18, 3) := by decide +kernel
theorem dX1_isOnSale_4 : decode cX1_isOnSale 4 = .ok (.iload_n 1, 1) := by decide +kernel
theorem dX1_isOnSale_5 : decode cX1_isOnSale 5 = .ok (.iaload, 1) := by decide +kernel
theorem dX1_isOnSale_6 : decode cX1_isOnSale 6 = .ok (.iconst 1, 1) := by decide +kernel
theorem dX1_isOnSale_7 : decode cX1_isOnSale 7 = .ok (.if_icmp .ne 17, 3) := by decide +kernel
theorem dX1_isOnSale_10 : decode cX1_isOnSale 10 = .ok (.aload_n 0, 1) := by decide +kernel
theorem dX1_isOnSale_11 : decode cX1_isOnSale 11 = .ok (.getfield 9, 3) := by decide +kernel
theorem dX1_isOnSale_14 : decode cX1_isOnSale 14 = .ok (.iload_n 1, 1) := by decide +kernel
theorem dX1_isOnSale_15 : decode cX1_isOnSale 15 = .ok (.iaload, 1) := by decide +kernel
theorem dX1_isOnSale_16 : decode cX1_isOnSale 16 = .ok (.iload_n 2, 1) := by decide +kernel
theorem dX1_isOnSale_17 : decode cX1_isOnSale 17 = .ok (.if_icmp .ne 7, 3) := by decide +kernel
theorem dX1_isOnSale_20 : decode cX1_isOnSale 20 = .ok (.iconst 1, 1) := by decide +kernel
theorem dX1_isOnSale_21 : decode cX1_isOnSale 21 = .ok (.goto 4, 3) := by decide +kernel
theorem dX1_isOnSale_24 : decode cX1_isOnSale 24 = .ok (.iconst 0, 1) := by decide +kernel
theorem dX1_isOnSale_25 : decode cX1_isOnSale 25 = .ok (.ireturn, 1) := by decide +kernel
theorem dX1_bestSale_0 : decode cX1_bestSale 0 = .ok (.iconst (-1), 1) := by decide +kernel
theorem dX1_bestSale_1 : decode cX1_bestSale 1 = .ok (.istore_n 3, 1) := by decide +kernel
theorem dX1_bestSale_2 : decode cX1_bestSale 2 = .ok (.iconst 0, 1) := by decide +kernel
theorem dX1_bestSale_3 : decode cX1_bestSale 3 = .ok (.istore 4, 2) := by decide +kernel
theorem dX1_bestSale_5 : decode cX1_bestSale 5 = .ok (.iload 4, 2) := by decide +kernel
theorem dX1_bestSale_7 : decode cX1_bestSale 7 = .ok (.aload_n 0, 1) := by decide +kernel
theorem dX1_bestSale_8 : decode cX1_bestSale 8 = .ok (.getfield 36, 3) := by decide +kernel
theorem dX1_bestSale_11 : decode cX1_bestSale 11 = .ok (.if_icmp .ge 48, 3) := by decide +kernel
theorem dX1_bestSale_14 : decode cX1_bestSale 14 = .ok (.aload_n 0, 1) := by decide +kernel
theorem dX1_bestSale_15 : decode cX1_bestSale 15 = .ok (.iload 4, 2) := by decide +kernel
theorem dX1_bestSale_17 : decode cX1_bestSale 17 = .ok (.iload_n 1, 1) := by decide +kernel
theorem dX1_bestSale_18 : decode cX1_bestSale 18 = .ok (.invokevirtual 40, 3) := by decide +kernel
theorem dX1_bestSale_21 : decode cX1_bestSale 21 = .ok (.ifCond .eq 32, 3) := by decide +kernel
theorem dX1_bestSale_24 : decode cX1_bestSale 24 = .ok (.aload_n 0, 1) := by decide +kernel
theorem dX1_bestSale_25 : decode cX1_bestSale 25 = .ok (.getfield 15, 3) := by decide +kernel
theorem dX1_bestSale_28 : decode cX1_bestSale 28 = .ok (.iload 4, 2) := by decide +kernel
theorem dX1_bestSale_30 : decode cX1_bestSale 30 = .ok (.iaload, 1) := by decide +kernel
theorem dX1_bestSale_31 : decode cX1_bestSale 31 = .ok (.iload_n 2, 1) := by decide +kernel
theorem dX1_bestSale_32 : decode cX1_bestSale 32 = .ok (.if_icmp .eq 21, 3) := by decide +kernel
theorem dX1_bestSale_35 : decode cX1_bestSale 35 = .ok (.iload_n 3, 1) := by decide +kernel
theorem dX1_bestSale_36 : decode cX1_bestSale 36 = .ok (.iconst (-1), 1) := by decide +kernel
theorem dX1_bestSale_37 : decode cX1_bestSale 37 = .ok (.if_icmp .eq 13, 3) := by decide +kernel
theorem dX1_bestSale_40 : decode cX1_bestSale 40 = .ok (.aload_n 0, 1) := by decide +kernel
theorem dX1_bestSale_41 : decode cX1_bestSale 41 = .ok (.iload 4, 2) := by decide +kernel
theorem dX1_bestSale_43 : decode cX1_bestSale 43 = .ok (.iload_n 3, 1) := by decide +kernel
theorem dX1_bestSale_44 : decode cX1_bestSale 44 = .ok (.invokevirtual 48, 3) := by decide +kernel
theorem dX1_bestSale_47 : decode cX1_bestSale 47 = .ok (.ifCond .eq 6, 3) := by decide +kernel
theorem dX1_bestSale_50 : decode cX1_bestSale 50 = .ok (.iload 4, 2) := by decide +kernel
theorem dX1_bestSale_52 : decode cX1_bestSale 52 = .ok (.istore_n 3, 1) := by decide +kernel
theorem dX1_bestSale_53 : decode cX1_bestSale 53 = .ok (.iinc 4 1, 3) := by decide +kernel
theorem dX1_bestSale_56 : decode cX1_bestSale 56 = .ok (.goto (-51), 3) := by decide +kernel
theorem dX1_bestSale_59 : decode cX1_bestSale 59 = .ok (.iload_n 3, 1) := by decide +kernel
theorem dX1_bestSale_60 : decode cX1_bestSale 60 = .ok (.ireturn, 1) := by decide +kernel
theorem dX1_saleIsBefore_0 : decode cX1_saleIsBefore 0 = .ok (.aload_n 0, 1) := by decide +kernel
theorem dX1_saleIsBefore_1 : decode cX1_saleIsBefore 1 = .ok (.getfield 21, 3) := by decide +kernel
theorem dX1_saleIsBefore_4 : decode cX1_saleIsBefore 4 = .ok (.iload_n 1, 1) := by decide +kernel
theorem dX1_saleIsBefore_5 : decode cX1_saleIsBefore 5 = .ok (.iaload, 1) := by decide +kernel
theorem dX1_saleIsBefore_6 : decode cX1_saleIsBefore 6 = .ok (.aload_n 0, 1) := by decide +kernel
theorem dX1_saleIsBefore_7 : decode cX1_saleIsBefore 7 = .ok (.getfield 21, 3) := by decide +kernel
theorem dX1_saleIsBefore_10 : decode cX1_saleIsBefore 10 = .ok (.iload_n 2, 1) := by decide +kernel
theorem dX1_saleIsBefore_11 : decode cX1_saleIsBefore 11 = .ok (.iaload, 1) := by decide +kernel
theorem dX1_saleIsBefore_12 : decode cX1_saleIsBefore 12 = .ok (.if_icmp .lt 33, 3) := by decide +kernel
theorem dX1_saleIsBefore_15 : decode cX1_saleIsBefore 15 = .ok (.aload_n 0, 1) := by decide +kernel
theorem dX1_saleIsBefore_16 : decode cX1_saleIsBefore 16 = .ok (.getfield 21, 3) := by decide +kernel
theorem dX1_saleIsBefore_19 : decode cX1_saleIsBefore 19 = .ok (.iload_n 1, 1) := by decide +kernel
theorem dX1_saleIsBefore_20 : decode cX1_saleIsBefore 20 = .ok (.iaload, 1) := by decide +kernel
theorem dX1_saleIsBefore_21 : decode cX1_saleIsBefore 21 = .ok (.aload_n 0, 1) := by decide +kernel
theorem dX1_saleIsBefore_22 : decode cX1_saleIsBefore 22 = .ok (.getfield 21, 3) := by decide +kernel
theorem dX1_saleIsBefore_25 : decode cX1_saleIsBefore 25 = .ok (.iload_n 2, 1) := by decide +kernel
theorem dX1_saleIsBefore_26 : decode cX1_saleIsBefore 26 = .ok (.iaload, 1) := by decide +kernel
theorem dX1_saleIsBefore_27 : decode cX1_saleIsBefore 27 = .ok (.if_icmp .ne 22, 3) := by decide +kernel
theorem dX1_saleIsBefore_30 : decode cX1_saleIsBefore 30 = .ok (.aload_n 0, 1) := by decide +kernel
theorem dX1_saleIsBefore_31 : decode cX1_saleIsBefore 31 = .ok (.getfield 24, 3) := by decide +kernel
theorem dX1_saleIsBefore_34 : decode cX1_saleIsBefore 34 = .ok (.iload_n 1, 1) := by decide +kernel
theorem dX1_saleIsBefore_35 : decode cX1_saleIsBefore 35 = .ok (.iaload, 1) := by decide +kernel
theorem dX1_saleIsBefore_36 : decode cX1_saleIsBefore 36 = .ok (.aload_n 0, 1) := by decide +kernel
theorem dX1_saleIsBefore_37 : decode cX1_saleIsBefore 37 = .ok (.getfield 24, 3) := by decide +kernel
theorem dX1_saleIsBefore_40 : decode cX1_saleIsBefore 40 = .ok (.iload_n 2, 1) := by decide +kernel
theorem dX1_saleIsBefore_41 : decode cX1_saleIsBefore 41 = .ok (.iaload, 1) := by decide +kernel
theorem dX1_saleIsBefore_42 : decode cX1_saleIsBefore 42 = .ok (.if_icmp .ge 7, 3) := by decide +kernel
theorem dX1_saleIsBefore_45 : decode cX1_saleIsBefore 45 = .ok (.iconst 1, 1) := by decide +kernel
theorem dX1_saleIsBefore_46 : decode cX1_saleIsBefore 46 = .ok (.goto 4, 3) := by decide +kernel
theorem dX1_saleIsBefore_49 : decode cX1_saleIsBefore 49 = .ok (.iconst 0, 1) := by decide +kernel
theorem dX1_saleIsBefore_50 : decode cX1_saleIsBefore 50 = .ok (.ireturn, 1) := by decide +kernel
theorem dX1_canBeSwapped_0 : decode cX1_canBeSwapped 0 = .ok (.aload_n 0, 1) := by decide +kernel
theorem dX1_canBeSwapped_1 : decode cX1_canBeSwapped 1 = .ok (.getfield 27, 3) := by decide +kernel
theorem dX1_canBeSwapped_4 : decode cX1_canBeSwapped 4 = .ok (.iload_n 1, 1) := by decide +kernel
theorem dX1_canBeSwapped_5 : decode cX1_canBeSwapped 5 = .ok (.iaload, 1) := by decide +kernel
theorem dX1_canBeSwapped_6 : decode cX1_canBeSwapped 6 = .ok (.istore_n 2, 1) := by decide +kernel
theorem dX1_canBeSwapped_7 : decode cX1_canBeSwapped 7 = .ok (.aload_n 0, 1) := by decide +kernel
theorem dX1_canBeSwapped_8 : decode cX1_canBeSwapped 8 = .ok (.getfield 18, 3) := by decide +kernel
theorem dX1_canBeSwapped_11 : decode cX1_canBeSwapped 11 = .ok (.iload_n 1, 1) := by decide +kernel
theorem dX1_canBeSwapped_12 : decode cX1_canBeSwapped 12 = .ok (.iaload, 1) := by decide +kernel
theorem dX1_canBeSwapped_13 : decode cX1_canBeSwapped 13 = .ok (.iconst 2, 1) := by decide +kernel
theorem dX1_canBeSwapped_14 : decode cX1_canBeSwapped 14 = .ok (.if_icmp .ne 39, 3) := by decide +kernel
theorem dX1_canBeSwapped_17 : decode cX1_canBeSwapped 17 = .ok (.aload_n 0, 1) := by decide +kernel
theorem dX1_canBeSwapped_18 : decode cX1_canBeSwapped 18 = .ok (.iload_n 2, 1) := by decide +kernel
theorem dX1_canBeSwapped_19 : decode cX1_canBeSwapped 19 = .ok (.invokevirtual 51, 3) := by decide +kernel
theorem dX1_canBeSwapped_22 : decode cX1_canBeSwapped 22 = .ok (.ifCond .eq 31, 3) := by decide +kernel
theorem dX1_canBeSwapped_25 : decode cX1_canBeSwapped 25 = .ok (.aload_n 0, 1) := by decide +kernel
theorem dX1_canBeSwapped_26 : decode cX1_canBeSwapped 26 = .ok (.getfield 18, 3) := by decide +kernel
theorem dX1_canBeSwapped_29 : decode cX1_canBeSwapped 29 = .ok (.iload_n 2, 1) := by decide +kernel
theorem dX1_canBeSwapped_30 : decode cX1_canBeSwapped 30 = .ok (.iaload, 1) := by decide +kernel
theorem dX1_canBeSwapped_31 : decode cX1_canBeSwapped 31 = .ok (.ifCond .ne 22, 3) := by decide +kernel
theorem dX1_canBeSwapped_34 : decode cX1_canBeSwapped 34 = .ok (.aload_n 0, 1) := by decide +kernel
theorem dX1_canBeSwapped_35 : decode cX1_canBeSwapped 35 = .ok (.getfield 15, 3) := by decide +kernel
theorem dX1_canBeSwapped_38 : decode cX1_canBeSwapped 38 = .ok (.iload_n 1, 1) := by decide +kernel
theorem dX1_canBeSwapped_39 : decode cX1_canBeSwapped 39 = .ok (.iaload, 1) := by decide +kernel
theorem dX1_canBeSwapped_40 : decode cX1_canBeSwapped 40 = .ok (.aload_n 0, 1) := by decide +kernel
theorem dX1_canBeSwapped_41 : decode cX1_canBeSwapped 41 = .ok (.getfield 15, 3) := by decide +kernel
theorem dX1_canBeSwapped_44 : decode cX1_canBeSwapped 44 = .ok (.iload_n 2, 1) := by decide +kernel
theorem dX1_canBeSwapped_45 : decode cX1_canBeSwapped 45 = .ok (.iaload, 1) := by decide +kernel
theorem dX1_canBeSwapped_46 : decode cX1_canBeSwapped 46 = .ok (.if_icmp .eq 7, 3) := by decide +kernel
theorem dX1_canBeSwapped_49 : decode cX1_canBeSwapped 49 = .ok (.iconst 1, 1) := by decide +kernel
theorem dX1_canBeSwapped_50 : decode cX1_canBeSwapped 50 = .ok (.goto 4, 3) := by decide +kernel
theorem dX1_canBeSwapped_53 : decode cX1_canBeSwapped 53 = .ok (.iconst 0, 1) := by decide +kernel
theorem dX1_canBeSwapped_54 : decode cX1_canBeSwapped 54 = .ok (.ireturn, 1) := by decide +kernel
theorem dX1_lendTo_0 : decode cX1_lendTo 0 = .ok (.aload_n 0, 1) := by decide +kernel
theorem dX1_lendTo_1 : decode cX1_lendTo 1 = .ok (.getfield 18, 3) := by decide +kernel
theorem dX1_lendTo_4 : decode cX1_lendTo 4 = .ok (.iload_n 1, 1) := by decide +kernel
theorem dX1_lendTo_5 : decode cX1_lendTo 5 = .ok (.iconst 3, 1) := by decide +kernel
theorem dX1_lendTo_6 : decode cX1_lendTo 6 = .ok (.iastore, 1) := by decide +kernel
theorem dX1_lendTo_7 : decode cX1_lendTo 7 = .ok (.aload_n 0, 1) := by decide +kernel
theorem dX1_lendTo_8 : decode cX1_lendTo 8 = .ok (.getfield 30, 3) := by decide +kernel
theorem dX1_lendTo_11 : decode cX1_lendTo 11 = .ok (.iload_n 1, 1) := by decide +kernel
theorem dX1_lendTo_12 : decode cX1_lendTo 12 = .ok (.iload_n 2, 1) := by decide +kernel
theorem dX1_lendTo_13 : decode cX1_lendTo 13 = .ok (.iastore, 1) := by decide +kernel
theorem dX1_lendTo_14 : decode cX1_lendTo 14 = .ok (.aload_n 0, 1) := by decide +kernel
theorem dX1_lendTo_15 : decode cX1_lendTo 15 = .ok (.getfield 33, 3) := by decide +kernel
theorem dX1_lendTo_18 : decode cX1_lendTo 18 = .ok (.iload_n 1, 1) := by decide +kernel
theorem dX1_lendTo_19 : decode cX1_lendTo 19 = .ok (.iload_n 3, 1) := by decide +kernel
theorem dX1_lendTo_20 : decode cX1_lendTo 20 = .ok (.iastore, 1) := by decide +kernel
theorem dX1_lendTo_21 : decode cX1_lendTo 21 = .ok (.return_, 1) := by decide +kernel
theorem dX1_endLoans_0 : decode cX1_endLoans 0 = .ok (.iconst 0, 1) := by decide +kernel
theorem dX1_endLoans_1 : decode cX1_endLoans 1 = .ok (.istore_n 2, 1) := by decide +kernel
theorem dX1_endLoans_2 : decode cX1_endLoans 2 = .ok (.iload_n 2, 1) := by decide +kernel
theorem dX1_endLoans_3 : decode cX1_endLoans 3 = .ok (.aload_n 0, 1) := by decide +kernel
theorem dX1_endLoans_4 : decode cX1_endLoans 4 = .ok (.getfield 36, 3) := by decide +kernel
theorem dX1_endLoans_7 : decode cX1_endLoans 7 = .ok (.if_icmp .ge 36, 3) := by decide +kernel
theorem dX1_endLoans_10 : decode cX1_endLoans 10 = .ok (.aload_n 0, 1) := by decide +kernel
theorem dX1_endLoans_11 : decode cX1_endLoans 11 = .ok (.getfield 18, 3) := by decide +kernel
theorem dX1_endLoans_14 : decode cX1_endLoans 14 = .ok (.iload_n 2, 1) := by decide +kernel
theorem dX1_endLoans_15 : decode cX1_endLoans 15 = .ok (.iaload, 1) := by decide +kernel
theorem dX1_endLoans_16 : decode cX1_endLoans 16 = .ok (.iconst 3, 1) := by decide +kernel
theorem dX1_endLoans_17 : decode cX1_endLoans 17 = .ok (.if_icmp .ne 20, 3) := by decide +kernel
theorem dX1_endLoans_20 : decode cX1_endLoans 20 = .ok (.aload_n 0, 1) := by decide +kernel
theorem dX1_endLoans_21 : decode cX1_endLoans 21 = .ok (.getfield 33, 3) := by decide +kernel
theorem dX1_endLoans_24 : decode cX1_endLoans 24 = .ok (.iload_n 2, 1) := by decide +kernel
theorem dX1_endLoans_25 : decode cX1_endLoans 25 = .ok (.iaload, 1) := by decide +kernel
theorem dX1_endLoans_26 : decode cX1_endLoans 26 = .ok (.iload_n 1, 1) := by decide +kernel
theorem dX1_endLoans_27 : decode cX1_endLoans 27 = .ok (.if_icmp .gt 10, 3) := by decide +kernel
theorem dX1_endLoans_30 : decode cX1_endLoans 30 = .ok (.aload_n 0, 1) := by decide +kernel
theorem dX1_endLoans_31 : decode cX1_endLoans 31 = .ok (.getfield 18, 3) := by decide +kernel
theorem dX1_endLoans_34 : decode cX1_endLoans 34 = .ok (.iload_n 2, 1) := by decide +kernel
theorem dX1_endLoans_35 : decode cX1_endLoans 35 = .ok (.iconst 0, 1) := by decide +kernel
theorem dX1_endLoans_36 : decode cX1_endLoans 36 = .ok (.iastore, 1) := by decide +kernel
theorem dX1_endLoans_37 : decode cX1_endLoans 37 = .ok (.iinc 2 1, 3) := by decide +kernel
theorem dX1_endLoans_40 : decode cX1_endLoans 40 = .ok (.goto (-38), 3) := by decide +kernel
theorem dX1_endLoans_43 : decode cX1_endLoans 43 = .ok (.return_, 1) := by decide +kernel
theorem dX2_init_0 : decode cX2_init 0 = .ok (.aload_n 0, 1) := by decide +kernel
theorem dX2_init_1 : decode cX2_init 1 = .ok (.invokespecial 3, 3) := by decide +kernel
theorem dX2_init_4 : decode cX2_init 4 = .ok (.aload_n 0, 1) := by decide +kernel
theorem dX2_init_5 : decode cX2_init 5 = .ok (.sipush 512, 3) := by decide +kernel
theorem dX2_init_8 : decode cX2_init 8 = .ok (.newarray .int, 2) := by decide +kernel
theorem dX2_init_10 : decode cX2_init 10 = .ok (.putfield 9, 3) := by decide +kernel
theorem dX2_init_13 : decode cX2_init 13 = .ok (.aload_n 0, 1) := by decide +kernel
theorem dX2_init_14 : decode cX2_init 14 = .ok (.sipush 512, 3) := by decide +kernel
theorem dX2_init_17 : decode cX2_init 17 = .ok (.newarray .int, 2) := by decide +kernel
theorem dX2_init_19 : decode cX2_init 19 = .ok (.putfield 15, 3) := by decide +kernel
theorem dX2_init_22 : decode cX2_init 22 = .ok (.aload_n 0, 1) := by decide +kernel
theorem dX2_init_23 : decode cX2_init 23 = .ok (.iconst 0, 1) := by decide +kernel
theorem dX2_init_24 : decode cX2_init 24 = .ok (.putfield 18, 3) := by decide +kernel
theorem dX2_init_27 : decode cX2_init 27 = .ok (.return_, 1) := by decide +kernel
theorem dX2_record_0 : decode cX2_record 0 = .ok (.aload_n 0, 1) := by decide +kernel
theorem dX2_record_1 : decode cX2_record 1 = .ok (.getfield 18, 3) := by decide +kernel
theorem dX2_record_4 : decode cX2_record 4 = .ok (.sipush 512, 3) := by decide +kernel
theorem dX2_record_7 : decode cX2_record 7 = .ok (.if_icmp .lt 4, 3) := by decide +kernel
theorem dX2_record_10 : decode cX2_record 10 = .ok (.return_, 1) := by decide +kernel
theorem dX2_record_11 : decode cX2_record 11 = .ok (.aload_n 0, 1) := by decide +kernel
theorem dX2_record_12 : decode cX2_record 12 = .ok (.getfield 9, 3) := by decide +kernel
theorem dX2_record_15 : decode cX2_record 15 = .ok (.aload_n 0, 1) := by decide +kernel
theorem dX2_record_16 : decode cX2_record 16 = .ok (.getfield 18, 3) := by decide +kernel
theorem dX2_record_19 : decode cX2_record 19 = .ok (.iload_n 1, 1) := by decide +kernel
theorem dX2_record_20 : decode cX2_record 20 = .ok (.iastore, 1) := by decide +kernel
theorem dX2_record_21 : decode cX2_record 21 = .ok (.aload_n 0, 1) := by decide +kernel
theorem dX2_record_22 : decode cX2_record 22 = .ok (.getfield 15, 3) := by decide +kernel
theorem dX2_record_25 : decode cX2_record 25 = .ok (.aload_n 0, 1) := by decide +kernel
theorem dX2_record_26 : decode cX2_record 26 = .ok (.getfield 18, 3) := by decide +kernel
theorem dX2_record_29 : decode cX2_record 29 = .ok (.iload_n 2, 1) := by decide +kernel
theorem dX2_record_30 : decode cX2_record 30 = .ok (.iastore, 1) := by decide +kernel
theorem dX2_record_31 : decode cX2_record 31 = .ok (.aload_n 0, 1) := by decide +kernel
theorem dX2_record_32 : decode cX2_record 32 = .ok (.dup, 1) := by decide +kernel
theorem dX2_record_33 : decode cX2_record 33 = .ok (.getfield 18, 3) := by decide +kernel
theorem dX2_record_36 : decode cX2_record 36 = .ok (.iconst 1, 1) := by decide +kernel
theorem dX2_record_37 : decode cX2_record 37 = .ok (.iadd, 1) := by decide +kernel
theorem dX2_record_38 : decode cX2_record 38 = .ok (.putfield 18, 3) := by decide +kernel
theorem dX2_record_41 : decode cX2_record 41 = .ok (.return_, 1) := by decide +kernel
theorem dX2_lastOwner_0 : decode cX2_lastOwner 0 = .ok (.iconst (-1), 1) := by decide +kernel
theorem dX2_lastOwner_1 : decode cX2_lastOwner 1 = .ok (.istore_n 2, 1) := by decide +kernel
theorem dX2_lastOwner_2 : decode cX2_lastOwner 2 = .ok (.iconst 0, 1) := by decide +kernel
theorem dX2_lastOwner_3 : decode cX2_lastOwner 3 = .ok (.istore_n 3, 1) := by decide +kernel
theorem dX2_lastOwner_4 : decode cX2_lastOwner 4 = .ok (.iload_n 3, 1) := by decide +kernel
theorem dX2_lastOwner_5 : decode cX2_lastOwner 5 = .ok (.aload_n 0, 1) := by decide +kernel
theorem dX2_lastOwner_6 : decode cX2_lastOwner 6 = .ok (.getfield 18, 3) := by decide +kernel
theorem dX2_lastOwner_9 : decode cX2_lastOwner 9 = .ok (.if_icmp .ge 26, 3) := by decide +kernel
theorem dX2_lastOwner_12 : decode cX2_lastOwner 12 = .ok (.aload_n 0, 1) := by decide +kernel
theorem dX2_lastOwner_13 : decode cX2_lastOwner 13 = .ok (.getfield 9, 3) := by decide +kernel
theorem dX2_lastOwner_16 : decode cX2_lastOwner 16 = .ok (.iload_n 3, 1) := by decide +kernel
theorem dX2_lastOwner_17 : decode cX2_lastOwner 17 = .ok (.iaload, 1) := by decide +kernel
theorem dX2_lastOwner_18 : decode cX2_lastOwner 18 = .ok (.iload_n 1, 1) := by decide +kernel
theorem dX2_lastOwner_19 : decode cX2_lastOwner 19 = .ok (.if_icmp .ne 10, 3) := by decide +kernel
theorem dX2_lastOwner_22 : decode cX2_lastOwner 22 = .ok (.aload_n 0, 1) := by decide +kernel
theorem dX2_lastOwner_23 : decode cX2_lastOwner 23 = .ok (.getfield 15, 3) := by decide +kernel
theorem dX2_lastOwner_26 : decode cX2_lastOwner 26 = .ok (.iload_n 3, 1) := by decide +kernel
theorem dX2_lastOwner_27 : decode cX2_lastOwner 27 = .ok (.iaload, 1) := by decide +kernel
theorem dX2_lastOwner_28 : decode cX2_lastOwner 28 = .ok (.istore_n 2, 1) := by decide +kernel
theorem dX2_lastOwner_29 : decode cX2_lastOwner 29 = .ok (.iinc 3 1, 3) := by decide +kernel
theorem dX2_lastOwner_32 : decode cX2_lastOwner 32 = .ok (.goto (-28), 3) := by decide +kernel
theorem dX2_lastOwner_35 : decode cX2_lastOwner 35 = .ok (.iload_n 2, 1) := by decide +kernel
theorem dX2_lastOwner_36 : decode cX2_lastOwner 36 = .ok (.ireturn, 1) := by decide +kernel
theorem dX3_init_0 : decode cX3_init 0 = .ok (.aload_n 0, 1) := by decide +kernel
theorem dX3_init_1 : decode cX3_init 1 = .ok (.invokespecial 1, 3) := by decide +kernel
theorem dX3_init_4 : decode cX3_init 4 = .ok (.aload_n 0, 1) := by decide +kernel
theorem dX3_init_5 : decode cX3_init 5 = .ok (.new 7, 3) := by decide +kernel
theorem dX3_init_8 : decode cX3_init 8 = .ok (.dup, 1) := by decide +kernel
theorem dX3_init_9 : decode cX3_init 9 = .ok (.invokespecial 9, 3) := by decide +kernel
theorem dX3_init_12 : decode cX3_init 12 = .ok (.putfield 10, 3) := by decide +kernel
theorem dX3_init_15 : decode cX3_init 15 = .ok (.aload_n 0, 1) := by decide +kernel
theorem dX3_init_16 : decode cX3_init 16 = .ok (.new 16, 3) := by decide +kernel
theorem dX3_init_19 : decode cX3_init 19 = .ok (.dup, 1) := by decide +kernel
theorem dX3_init_20 : decode cX3_init 20 = .ok (.invokespecial 18, 3) := by decide +kernel
theorem dX3_init_23 : decode cX3_init 23 = .ok (.putfield 19, 3) := by decide +kernel
theorem dX3_init_26 : decode cX3_init 26 = .ok (.aload_n 0, 1) := by decide +kernel
theorem dX3_init_27 : decode cX3_init 27 = .ok (.new 23, 3) := by decide +kernel
theorem dX3_init_30 : decode cX3_init 30 = .ok (.dup, 1) := by decide +kernel
theorem dX3_init_31 : decode cX3_init 31 = .ok (.invokespecial 25, 3) := by decide +kernel
theorem dX3_init_34 : decode cX3_init 34 = .ok (.putfield 26, 3) := by decide +kernel
theorem dX3_init_37 : decode cX3_init 37 = .ok (.aload_n 0, 1) := by decide +kernel
theorem dX3_init_38 : decode cX3_init 38 = .ok (.iconst 5, 1) := by decide +kernel
theorem dX3_init_39 : decode cX3_init 39 = .ok (.newarray .int, 2) := by decide +kernel
theorem dX3_init_41 : decode cX3_init 41 = .ok (.putfield 30, 3) := by decide +kernel
theorem dX3_init_44 : decode cX3_init 44 = .ok (.aload_n 0, 1) := by decide +kernel
theorem dX3_init_45 : decode cX3_init 45 = .ok (.getfield 30, 3) := by decide +kernel
theorem dX3_init_48 : decode cX3_init 48 = .ok (.bipush 100, 2) := by decide +kernel
theorem dX3_init_50 : decode cX3_init 50 = .ok (.invokestatic 34, 3) := by decide +kernel
theorem dX3_init_53 : decode cX3_init 53 = .ok (.aload_n 0, 1) := by decide +kernel
theorem dX3_init_54 : decode cX3_init 54 = .ok (.bipush 8, 2) := by decide +kernel
theorem dX3_init_56 : decode cX3_init 56 = .ok (.newarray .int, 2) := by decide +kernel
theorem dX3_init_58 : decode cX3_init 58 = .ok (.putfield 40, 3) := by decide +kernel
theorem dX3_init_61 : decode cX3_init 61 = .ok (.aload_n 0, 1) := by decide +kernel
theorem dX3_init_62 : decode cX3_init 62 = .ok (.getfield 40, 3) := by decide +kernel
theorem dX3_init_65 : decode cX3_init 65 = .ok (.iconst (-1), 1) := by decide +kernel
theorem dX3_init_66 : decode cX3_init 66 = .ok (.invokestatic 34, 3) := by decide +kernel
theorem dX3_init_69 : decode cX3_init 69 = .ok (.aload_n 0, 1) := by decide +kernel
theorem dX3_init_70 : decode cX3_init 70 = .ok (.iconst 5, 1) := by decide +kernel
theorem dX3_init_71 : decode cX3_init 71 = .ok (.newarray .int, 2) := by decide +kernel
theorem dX3_init_73 : decode cX3_init 73 = .ok (.putfield 43, 3) := by decide +kernel
theorem dX3_init_76 : decode cX3_init 76 = .ok (.aload_n 0, 1) := by decide +kernel
theorem dX3_init_77 : decode cX3_init 77 = .ok (.iconst 0, 1) := by decide +kernel
theorem dX3_init_78 : decode cX3_init 78 = .ok (.putfield 46, 3) := by decide +kernel
theorem dX3_init_81 : decode cX3_init 81 = .ok (.aload_n 0, 1) := by decide +kernel
theorem dX3_init_82 : decode cX3_init 82 = .ok (.iconst 0, 1) := by decide +kernel
theorem dX3_init_83 : decode cX3_init 83 = .ok (.putfield 50, 3) := by decide +kernel
theorem dX3_init_86 : decode cX3_init 86 = .ok (.return_, 1) := by decide +kernel
theorem dX3_mint_0 : decode cX3_mint 0 = .ok (.iload_n 1, 1) := by decide +kernel
theorem dX3_mint_1 : decode cX3_mint 1 = .ok (.invokestatic 53, 3) := by decide +kernel
theorem dX3_mint_4 : decode cX3_mint 4 = .ok (.iload_n 2, 1) := by decide +kernel
theorem dX3_mint_5 : decode cX3_mint 5 = .ok (.invokestatic 57, 3) := by decide +kernel
theorem dX3_mint_8 : decode cX3_mint 8 = .ok (.aload_n 0, 1) := by decide +kernel
theorem dX3_mint_9 : decode cX3_mint 9 = .ok (.getfield 10, 3) := by decide +kernel
theorem dX3_mint_12 : decode cX3_mint 12 = .ok (.invokevirtual 60, 3) := by decide +kernel
theorem dX3_mint_15 : decode cX3_mint 15 = .ok (.ifCond .eq 13, 3) := by decide +kernel
theorem dX3_mint_18 : decode cX3_mint 18 = .ok (.new 64, 3) := by decide +kernel
theorem dX3_mint_21 : decode cX3_mint 21 = .ok (.dup, 1) := by decide +kernel
theorem dX3_mint_22 : decode cX3_mint 22 = .ok (.ldc 66, 2) := by decide +kernel
theorem dX3_mint_24 : decode cX3_mint 24 = .ok (.invokespecial 68, 3) := by decide +kernel
theorem dX3_mint_27 : decode cX3_mint 27 = .ok (.athrow, 1) := by decide +kernel
theorem dX3_mint_28 : decode cX3_mint 28 = .ok (.aload_n 0, 1) := by decide +kernel
theorem dX3_mint_29 : decode cX3_mint 29 = .ok (.getfield 10, 3) := by decide +kernel
theorem dX3_mint_32 : decode cX3_mint 32 = .ok (.iload_n 1, 1) := by decide +kernel
theorem dX3_mint_33 : decode cX3_mint 33 = .ok (.iload_n 2, 1) := by decide +kernel
theorem dX3_mint_34 : decode cX3_mint 34 = .ok (.invokevirtual 71, 3) := by decide +kernel
theorem dX3_mint_37 : decode cX3_mint 37 = .ok (.istore_n 3, 1) := by decide +kernel
theorem dX3_mint_38 : decode cX3_mint 38 = .ok (.aload_n 0, 1) := by decide +kernel
theorem dX3_mint_39 : decode cX3_mint 39 = .ok (.getfield 26, 3) := by decide +kernel
theorem dX3_mint_42 : decode cX3_mint 42 = .ok (.iload_n 3, 1) := by decide +kernel
theorem dX3_mint_43 : decode cX3_mint 43 = .ok (.iload_n 1, 1) := by decide +kernel
theorem dX3_mint_44 : decode cX3_mint 44 = .ok (.invokevirtual 75, 3) := by decide +kernel
theorem dX3_mint_47 : decode cX3_mint 47 = .ok (.iload_n 3, 1) := by decide +kernel
theorem dX3_mint_48 : decode cX3_mint 48 = .ok (.ireturn, 1) := by decide +kernel
theorem dX3_owner_0 : decode cX3_owner 0 = .ok (.aload_n 0, 1) := by decide +kernel
theorem dX3_owner_1 : decode cX3_owner 1 = .ok (.iload_n 1, 1) := by decide +kernel
theorem dX3_owner_2 : decode cX3_owner 2 = .ok (.invokevirtual 79, 3) := by decide +kernel
theorem dX3_owner_5 : decode cX3_owner 5 = .ok (.aload_n 0, 1) := by decide +kernel
theorem dX3_owner_6 : decode cX3_owner 6 = .ok (.getfield 10, 3) := by decide +kernel
theorem dX3_owner_9 : decode cX3_owner 9 = .ok (.getfield 82, 3) := by decide +kernel
theorem dX3_owner_12 : decode cX3_owner 12 = .ok (.iload_n 1, 1) := by decide +kernel
theorem dX3_owner_13 : decode cX3_owner 13 = .ok (.iaload, 1) := by decide +kernel
theorem dX3_owner_14 : decode cX3_owner 14 = .ok (.ireturn, 1) := by decide +kernel
theorem dX3_ownerByHistory_0 : decode cX3_ownerByHistory 0 = .ok (.aload_n 0, 1) := by decide +kernel
theorem dX3_ownerByHistory_1 : decode cX3_ownerByHistory 1 = .ok (.iload_n 1, 1) := by decide +kernel
theorem dX3_ownerByHistory_2 : decode cX3_ownerByHistory 2 = .ok (.invokevirtual 79, 3) := by decide +kernel
theorem dX3_ownerByHistory_5 : decode cX3_ownerByHistory 5 = .ok (.aload_n 0, 1) := by decide +kernel
theorem dX3_ownerByHistory_6 : decode cX3_ownerByHistory 6 = .ok (.getfield 26, 3) := by decide +kernel
theorem dX3_ownerByHistory_9 : decode cX3_ownerByHistory 9 = .ok (.iload_n 1, 1) := by decide +kernel
theorem dX3_ownerByHistory_10 : decode cX3_ownerByHistory 10 = .ok (.invokevirtual 85, 3) := by decide +kernel
theorem dX3_ownerByHistory_13 : decode cX3_ownerByHistory 13 = .ok (.ireturn, 1) := by decide +kernel
theorem dX3_holder_0 : decode cX3_holder 0 = .ok (.aload_n 0, 1) := by decide +kernel
theorem dX3_holder_1 : decode cX3_holder 1 = .ok (.iload_n 1, 1) := by decide +kernel
theorem dX3_holder_2 : decode cX3_holder 2 = .ok (.invokevirtual 79, 3) := by decide +kernel
theorem dX3_holder_5 : decode cX3_holder 5 = .ok (.aload_n 0, 1) := by decide +kernel
theorem dX3_holder_6 : decode cX3_holder 6 = .ok (.getfield 10, 3) := by decide +kernel
theorem dX3_holder_9 : decode cX3_holder 9 = .ok (.iload_n 1, 1) := by decide +kernel
theorem dX3_holder_10 : decode cX3_holder 10 = .ok (.invokevirtual 89, 3) := by decide +kernel
theorem dX3_holder_13 : decode cX3_holder 13 = .ok (.ireturn, 1) := by decide +kernel
theorem dX3_stateOf_0 : decode cX3_stateOf 0 = .ok (.aload_n 0, 1) := by decide +kernel
theorem dX3_stateOf_1 : decode cX3_stateOf 1 = .ok (.iload_n 1, 1) := by decide +kernel
theorem dX3_stateOf_2 : decode cX3_stateOf 2 = .ok (.invokevirtual 79, 3) := by decide +kernel
theorem dX3_stateOf_5 : decode cX3_stateOf 5 = .ok (.aload_n 0, 1) := by decide +kernel
theorem dX3_stateOf_6 : decode cX3_stateOf 6 = .ok (.getfield 10, 3) := by decide +kernel
theorem dX3_stateOf_9 : decode cX3_stateOf 9 = .ok (.getfield 92, 3) := by decide +kernel
theorem dX3_stateOf_12 : decode cX3_stateOf 12 = .ok (.iload_n 1, 1) := by decide +kernel
theorem dX3_stateOf_13 : decode cX3_stateOf 13 = .ok (.iaload, 1) := by decide +kernel
theorem dX3_stateOf_14 : decode cX3_stateOf 14 = .ok (.ireturn, 1) := by decide +kernel
theorem dX3_coins_0 : decode cX3_coins 0 = .ok (.iload_n 1, 1) := by decide +kernel
theorem dX3_coins_1 : decode cX3_coins 1 = .ok (.invokestatic 53, 3) := by decide +kernel
theorem dX3_coins_4 : decode cX3_coins 4 = .ok (.aload_n 0, 1) := by decide +kernel
theorem dX3_coins_5 : decode cX3_coins 5 = .ok (.getfield 30, 3) := by decide +kernel
theorem dX3_coins_8 : decode cX3_coins 8 = .ok (.iload_n 1, 1) := by decide +kernel
theorem dX3_coins_9 : decode cX3_coins 9 = .ok (.iaload, 1) := by decide +kernel
theorem dX3_coins_10 : decode cX3_coins 10 = .ok (.ireturn, 1) := by decide +kernel
theorem dX3_sell_0 : decode cX3_sell 0 = .ok (.aload_n 0, 1) := by decide +kernel
theorem dX3_sell_1 : decode cX3_sell 1 = .ok (.iload_n 1, 1) := by decide +kernel
theorem dX3_sell_2 : decode cX3_sell 2 = .ok (.invokevirtual 79, 3) := by decide +kernel
theorem dX3_sell_5 : decode cX3_sell 5 = .ok (.iload_n 2, 1) := by decide +kernel
theorem dX3_sell_6 : decode cX3_sell 6 = .ok (.invokestatic 95, 3) := by decide +kernel
theorem dX3_sell_9 : decode cX3_sell 9 = .ok (.aload_n 0, 1) := by decide +kernel
theorem dX3_sell_10 : decode cX3_sell 10 = .ok (.getfield 10, 3) := by decide +kernel
theorem dX3_sell_13 : decode cX3_sell 13 = .ok (.getfield 98, 3) := by decide +kernel
theorem dX3_sell_16 : decode cX3_sell 16 = .ok (.iload_n 1, 1) := by decide +kernel
theorem dX3_sell_17 : decode cX3_sell 17 = .ok (.iaload, 1) := by decide +kernel
theorem dX3_sell_18 : decode cX3_sell 18 = .ok (.istore_n 3, 1) := by decide +kernel
theorem dX3_sell_19 : decode cX3_sell 19 = .ok (.aload_n 0, 1) := by decide +kernel
theorem dX3_sell_20 : decode cX3_sell 20 = .ok (.getfield 10, 3) := by decide +kernel
theorem dX3_sell_23 : decode cX3_sell 23 = .ok (.getfield 92, 3) := by decide +kernel
theorem dX3_sell_26 : decode cX3_sell 26 = .ok (.iload_n 1, 1) := by decide +kernel
theorem dX3_sell_27 : decode cX3_sell 27 = .ok (.iaload, 1) := by decide +kernel
theorem dX3_sell_28 : decode cX3_sell 28 = .ok (.ifCond .ne 11, 3) := by decide +kernel
theorem dX3_sell_31 : decode cX3_sell 31 = .ok (.aload_n 0, 1) := by decide +kernel
theorem dX3_sell_32 : decode cX3_sell 32 = .ok (.iload_n 3, 1) := by decide +kernel
theorem dX3_sell_33 : decode cX3_sell 33 = .ok (.invokevirtual 101, 3) := by decide +kernel
theorem dX3_sell_36 : decode cX3_sell 36 = .ok (.ifCond .eq 13, 3) := by decide +kernel
theorem dX3_sell_39 : decode cX3_sell 39 = .ok (.new 64, 3) := by decide +kernel
theorem dX3_sell_42 : decode cX3_sell 42 = .ok (.dup, 1) := by decide +kernel
theorem dX3_sell_43 : decode cX3_sell 43 = .ok (.ldc 105, 2) := by decide +kernel
theorem dX3_sell_45 : decode cX3_sell 45 = .ok (.invokespecial 68, 3) := by decide +kernel
theorem dX3_sell_48 : decode cX3_sell 48 = .ok (.athrow, 1) := by decide +kernel
theorem dX3_sell_49 : decode cX3_sell 49 = .ok (.aload_n 0, 1) := by decide +kernel
theorem dX3_sell_50 : decode cX3_sell 50 = .ok (.getfield 19, 3) := by decide +kernel
theorem dX3_sell_53 : decode cX3_sell 53 = .ok (.iload_n 3, 1) := by decide +kernel
theorem dX3_sell_54 : decode cX3_sell 54 = .ok (.aload_n 0, 1) := by decide +kernel
theorem dX3_sell_55 : decode cX3_sell 55 = .ok (.getfield 10, 3) := by decide +kernel
theorem dX3_sell_58 : decode cX3_sell 58 = .ok (.getfield 82, 3) := by decide +kernel
theorem dX3_sell_61 : decode cX3_sell 61 = .ok (.iload_n 1, 1) := by decide +kernel
theorem dX3_sell_62 : decode cX3_sell 62 = .ok (.iaload, 1) := by decide +kernel
theorem dX3_sell_63 : decode cX3_sell 63 = .ok (.invokevirtual 107, 3) := by decide +kernel
theorem dX3_sell_66 : decode cX3_sell 66 = .ok (.istore 4, 2) := by decide +kernel
theorem dX3_sell_68 : decode cX3_sell 68 = .ok (.iload 4, 2) := by decide +kernel
theorem dX3_sell_70 : decode cX3_sell 70 = .ok (.iconst (-1), 1) := by decide +kernel
theorem dX3_sell_71 : decode cX3_sell 71 = .ok (.if_icmp .eq 19, 3) := by decide +kernel
theorem dX3_sell_74 : decode cX3_sell 74 = .ok (.aload_n 0, 1) := by decide +kernel
theorem dX3_sell_75 : decode cX3_sell 75 = .ok (.getfield 19, 3) := by decide +kernel
theorem dX3_sell_78 : decode cX3_sell 78 = .ok (.getfield 110, 3) := by decide +kernel
theorem dX3_sell_81 : decode cX3_sell 81 = .ok (.iload 4, 2) := by decide +kernel
theorem dX3_sell_83 : decode cX3_sell 83 = .ok (.aaload, 1) := by decide +kernel
theorem dX3_sell_84 : decode cX3_sell 84 = .ok (.iload_n 3, 1) := by decide +kernel
theorem dX3_sell_85 : decode cX3_sell 85 = .ok (.iaload, 1) := by decide +kernel
theorem dX3_sell_86 : decode cX3_sell 86 = .ok (.iload_n 2, 1) := by decide +kernel
theorem dX3_sell_87 : decode cX3_sell 87 = .ok (.if_icmp .ge 28, 3) := by decide +kernel
theorem dX3_sell_90 : decode cX3_sell 90 = .ok (.aload_n 0, 1) := by decide +kernel
theorem dX3_sell_91 : decode cX3_sell 91 = .ok (.getfield 10, 3) := by decide +kernel
theorem dX3_sell_94 : decode cX3_sell 94 = .ok (.iload_n 1, 1) := by decide +kernel
theorem dX3_sell_95 : decode cX3_sell 95 = .ok (.iload_n 2, 1) := by decide +kernel
theorem dX3_sell_96 : decode cX3_sell 96 = .ok (.aload_n 0, 1) := by decide +kernel
theorem dX3_sell_97 : decode cX3_sell 97 = .ok (.getfield 46, 3) := by decide +kernel
theorem dX3_sell_100 : decode cX3_sell 100 = .ok (.invokevirtual 114, 3) := by decide +kernel
theorem dX3_sell_103 : decode cX3_sell 103 = .ok (.aload_n 0, 1) := by decide +kernel
theorem dX3_sell_104 : decode cX3_sell 104 = .ok (.dup, 1) := by decide +kernel
theorem dX3_sell_105 : decode cX3_sell 105 = .ok (.getfield 46, 3) := by decide +kernel
theorem dX3_sell_108 : decode cX3_sell 108 = .ok (.iconst 1, 1) := by decide +kernel
theorem dX3_sell_109 : decode cX3_sell 109 = .ok (.iadd, 1) := by decide +kernel
theorem dX3_sell_110 : decode cX3_sell 110 = .ok (.putfield 46, 3) := by decide +kernel
theorem dX3_sell_113 : decode cX3_sell 113 = .ok (.iconst 0, 1) := by decide +kernel
theorem dX3_sell_114 : decode cX3_sell 114 = .ok (.ireturn, 1) := by decide +kernel
theorem dX3_sell_115 : decode cX3_sell 115 = .ok (.aload_n 0, 1) := by decide +kernel
theorem dX3_sell_116 : decode cX3_sell 116 = .ok (.getfield 19, 3) := by decide +kernel
theorem dX3_sell_119 : decode cX3_sell 119 = .ok (.iload 4, 2) := by decide +kernel
theorem dX3_sell_121 : decode cX3_sell 121 = .ok (.iload_n 3, 1) := by decide +kernel
theorem dX3_sell_122 : decode cX3_sell 122 = .ok (.invokevirtual 118, 3) := by decide +kernel
theorem dX3_sell_125 : decode cX3_sell 125 = .ok (.istore 5, 2) := by decide +kernel
theorem dX3_sell_127 : decode cX3_sell 127 = .ok (.aload_n 0, 1) := by decide +kernel
theorem dX3_sell_128 : decode cX3_sell 128 = .ok (.getfield 30, 3) := by decide +kernel
theorem dX3_sell_131 : decode cX3_sell 131 = .ok (.aload_n 0, 1) := by decide +kernel
theorem dX3_sell_132 : decode cX3_sell 132 = .ok (.getfield 10, 3) := by decide +kernel
theorem dX3_sell_135 : decode cX3_sell 135 = .ok (.getfield 82, 3) := by decide +kernel
theorem dX3_sell_138 : decode cX3_sell 138 = .ok (.iload_n 1, 1) := by decide +kernel
theorem dX3_sell_139 : decode cX3_sell 139 = .ok (.iaload, 1) := by decide +kernel
theorem dX3_sell_140 : decode cX3_sell 140 = .ok (.dup2, 1) := by decide +kernel
theorem dX3_sell_141 : decode cX3_sell 141 = .ok (.iaload, 1) := by decide +kernel
theorem dX3_sell_142 : decode cX3_sell 142 = .ok (.iload 5, 2) := by decide +kernel
theorem dX3_sell_144 : decode cX3_sell 144 = .ok (.iadd, 1) := by decide +kernel
theorem dX3_sell_145 : decode cX3_sell 145 = .ok (.iastore, 1) := by decide +kernel
theorem dX3_sell_146 : decode cX3_sell 146 = .ok (.aload_n 0, 1) := by decide +kernel
theorem dX3_sell_147 : decode cX3_sell 147 = .ok (.iload_n 1, 1) := by decide +kernel
theorem dX3_sell_148 : decode cX3_sell 148 = .ok (.iload 4, 2) := by decide +kernel
theorem dX3_sell_150 : decode cX3_sell 150 = .ok (.invokevirtual 121, 3) := by decide +kernel
theorem dX3_sell_153 : decode cX3_sell 153 = .ok (.iload 5, 2) := by decide +kernel
theorem dX3_sell_155 : decode cX3_sell 155 = .ok (.ireturn, 1) := by decide +kernel
theorem dX3_bid_0 : decode cX3_bid 0 = .ok (.iload_n 1, 1) := by decide +kernel
theorem dX3_bid_1 : decode cX3_bid 1 = .ok (.invokestatic 53, 3) := by decide +kernel
theorem dX3_bid_4 : decode cX3_bid 4 = .ok (.iload_n 2, 1) := by decide +kernel
theorem dX3_bid_5 : decode cX3_bid 5 = .ok (.invokestatic 57, 3) := by decide +kernel
theorem dX3_bid_8 : decode cX3_bid 8 = .ok (.iload_n 3, 1) := by decide +kernel
theorem dX3_bid_9 : decode cX3_bid 9 = .ok (.invokestatic 95, 3) := by decide +kernel
theorem dX3_bid_12 : decode cX3_bid 12 = .ok (.aload_n 0, 1) := by decide +kernel
theorem dX3_bid_13 : decode cX3_bid 13 = .ok (.getfield 30, 3) := by decide +kernel
theorem dX3_bid_16 : decode cX3_bid 16 = .ok (.iload_n 1, 1) := by decide +kernel
theorem dX3_bid_17 : decode cX3_bid 17 = .ok (.iaload, 1) := by decide +kernel
theorem dX3_bid_18 : decode cX3_bid 18 = .ok (.iload_n 3, 1) := by decide +kernel
theorem dX3_bid_19 : decode cX3_bid 19 = .ok (.if_icmp .lt 23, 3) := by decide +kernel
theorem dX3_bid_22 : decode cX3_bid 22 = .ok (.aload_n 0, 1) := by decide +kernel
theorem dX3_bid_23 : decode cX3_bid 23 = .ok (.getfield 19, 3) := by decide +kernel
theorem dX3_bid_26 : decode cX3_bid 26 = .ok (.iload_n 1, 1) := by decide +kernel
theorem dX3_bid_27 : decode cX3_bid 27 = .ok (.iload_n 2, 1) := by decide +kernel
theorem dX3_bid_28 : decode cX3_bid 28 = .ok (.invokevirtual 124, 3) := by decide +kernel
theorem dX3_bid_31 : decode cX3_bid 31 = .ok (.ifCond .ne 11, 3) := by decide +kernel
theorem dX3_bid_34 : decode cX3_bid 34 = .ok (.aload_n 0, 1) := by decide +kernel
theorem dX3_bid_35 : decode cX3_bid 35 = .ok (.iload_n 2, 1) := by decide +kernel
theorem dX3_bid_36 : decode cX3_bid 36 = .ok (.invokevirtual 101, 3) := by decide +kernel
theorem dX3_bid_39 : decode cX3_bid 39 = .ok (.ifCond .eq 13, 3) := by decide +kernel
theorem dX3_bid_42 : decode cX3_bid 42 = .ok (.new 64, 3) := by decide +kernel
theorem dX3_bid_45 : decode cX3_bid 45 = .ok (.dup, 1) := by decide +kernel
theorem dX3_bid_46 : decode cX3_bid 46 = .ok (.ldc 128, 2) := by decide +kernel
theorem dX3_bid_48 : decode cX3_bid 48 = .ok (.invokespecial 68, 3) := by decide +kernel
theorem dX3_bid_51 : decode cX3_bid 51 = .ok (.athrow, 1) := by decide +kernel
theorem dX3_bid_52 : decode cX3_bid 52 = .ok (.aload_n 0, 1) := by decide +kernel
theorem dX3_bid_53 : decode cX3_bid 53 = .ok (.getfield 10, 3) := by decide +kernel
theorem dX3_bid_56 : decode cX3_bid 56 = .ok (.iload_n 2, 1) := by decide +kernel
theorem dX3_bid_57 : decode cX3_bid 57 = .ok (.iload_n 1, 1) := by decide +kernel
theorem dX3_bid_58 : decode cX3_bid 58 = .ok (.invokevirtual 130, 3) := by decide +kernel
theorem dX3_bid_61 : decode cX3_bid 61 = .ok (.istore 4, 2) := by decide +kernel
theorem dX3_bid_63 : decode cX3_bid 63 = .ok (.iload 4, 2) := by decide +kernel
theorem dX3_bid_65 : decode cX3_bid 65 = .ok (.iconst (-1), 1) := by decide +kernel
theorem dX3_bid_66 : decode cX3_bid 66 = .ok (.if_icmp .eq 17, 3) := by decide +kernel
theorem dX3_bid_69 : decode cX3_bid 69 = .ok (.aload_n 0, 1) := by decide +kernel
theorem dX3_bid_70 : decode cX3_bid 70 = .ok (.getfield 10, 3) := by decide +kernel
theorem dX3_bid_73 : decode cX3_bid 73 = .ok (.getfield 133, 3) := by decide +kernel
theorem dX3_bid_76 : decode cX3_bid 76 = .ok (.iload 4, 2) := by decide +kernel
theorem dX3_bid_78 : decode cX3_bid 78 = .ok (.iaload, 1) := by decide +kernel
theorem dX3_bid_79 : decode cX3_bid 79 = .ok (.iload_n 3, 1) := by decide +kernel
theorem dX3_bid_80 : decode cX3_bid 80 = .ok (.if_icmp .le 39, 3) := by decide +kernel
theorem dX3_bid_83 : decode cX3_bid 83 = .ok (.aload_n 0, 1) := by decide +kernel
theorem dX3_bid_84 : decode cX3_bid 84 = .ok (.getfield 30, 3) := by decide +kernel
theorem dX3_bid_87 : decode cX3_bid 87 = .ok (.iload_n 1, 1) := by decide +kernel
theorem dX3_bid_88 : decode cX3_bid 88 = .ok (.dup2, 1) := by decide +kernel
theorem dX3_bid_89 : decode cX3_bid 89 = .ok (.iaload, 1) := by decide +kernel
theorem dX3_bid_90 : decode cX3_bid 90 = .ok (.iload_n 3, 1) := by decide +kernel
theorem dX3_bid_91 : decode cX3_bid 91 = .ok (.isub, 1) := by decide +kernel
theorem dX3_bid_92 : decode cX3_bid 92 = .ok (.iastore, 1) := by decide +kernel
theorem dX3_bid_93 : decode cX3_bid 93 = .ok (.aload_n 0, 1) := by decide +kernel
theorem dX3_bid_94 : decode cX3_bid 94 = .ok (.getfield 19, 3) := by decide +kernel
theorem dX3_bid_97 : decode cX3_bid 97 = .ok (.iload_n 1, 1) := by decide +kernel
theorem dX3_bid_98 : decode cX3_bid 98 = .ok (.iload_n 2, 1) := by decide +kernel
theorem dX3_bid_99 : decode cX3_bid 99 = .ok (.iload_n 3, 1) := by decide +kernel
theorem dX3_bid_100 : decode cX3_bid 100 = .ok (.aload_n 0, 1) := by decide +kernel
theorem dX3_bid_101 : decode cX3_bid 101 = .ok (.getfield 46, 3) := by decide +kernel
theorem dX3_bid_104 : decode cX3_bid 104 = .ok (.invokevirtual 136, 3) := by decide +kernel
theorem dX3_bid_107 : decode cX3_bid 107 = .ok (.aload_n 0, 1) := by decide +kernel
theorem dX3_bid_108 : decode cX3_bid 108 = .ok (.dup, 1) := by decide +kernel
theorem dX3_bid_109 : decode cX3_bid 109 = .ok (.getfield 46, 3) := by decide +kernel
theorem dX3_bid_112 : decode cX3_bid 112 = .ok (.iconst 1, 1) := by decide +kernel
theorem dX3_bid_113 : decode cX3_bid 113 = .ok (.iadd, 1) := by decide +kernel
theorem dX3_bid_114 : decode cX3_bid 114 = .ok (.putfield 46, 3) := by decide +kernel
theorem dX3_bid_117 : decode cX3_bid 117 = .ok (.iconst (-1), 1) := by decide +kernel
theorem dX3_bid_118 : decode cX3_bid 118 = .ok (.ireturn, 1) := by decide +kernel
theorem dX3_bid_119 : decode cX3_bid 119 = .ok (.aload_n 0, 1) := by decide +kernel
theorem dX3_bid_120 : decode cX3_bid 120 = .ok (.getfield 10, 3) := by decide +kernel
theorem dX3_bid_123 : decode cX3_bid 123 = .ok (.iload 4, 2) := by decide +kernel
theorem dX3_bid_125 : decode cX3_bid 125 = .ok (.invokevirtual 140, 3) := by decide +kernel
theorem dX3_bid_128 : decode cX3_bid 128 = .ok (.istore 5, 2) := by decide +kernel
theorem dX3_bid_130 : decode cX3_bid 130 = .ok (.aload_n 0, 1) := by decide +kernel
theorem dX3_bid_131 : decode cX3_bid 131 = .ok (.getfield 30, 3) := by decide +kernel
theorem dX3_bid_134 : decode cX3_bid 134 = .ok (.iload_n 1, 1) := by decide +kernel
theorem dX3_bid_135 : decode cX3_bid 135 = .ok (.dup2, 1) := by decide +kernel
theorem dX3_bid_136 : decode cX3_bid 136 = .ok (.iaload, 1) := by decide +kernel
theorem dX3_bid_137 : decode cX3_bid 137 = .ok (.iload 5, 2) := by decide +kernel
theorem dX3_bid_139 : decode cX3_bid 139 = .ok (.isub, 1) := by decide +kernel
theorem dX3_bid_140 : decode cX3_bid 140 = .ok (.iastore, 1) := by decide +kernel
theorem dX3_bid_141 : decode cX3_bid 141 = .ok (.aload_n 0, 1) := by decide +kernel
theorem dX3_bid_142 : decode cX3_bid 142 = .ok (.getfield 30, 3) := by decide +kernel
theorem dX3_bid_145 : decode cX3_bid 145 = .ok (.aload_n 0, 1) := by decide +kernel
theorem dX3_bid_146 : decode cX3_bid 146 = .ok (.getfield 10, 3) := by decide +kernel
theorem dX3_bid_149 : decode cX3_bid 149 = .ok (.getfield 82, 3) := by decide +kernel
theorem dX3_bid_152 : decode cX3_bid 152 = .ok (.iload 4, 2) := by decide +kernel
theorem dX3_bid_154 : decode cX3_bid 154 = .ok (.iaload, 1) := by decide +kernel
theorem dX3_bid_155 : decode cX3_bid 155 = .ok (.dup2, 1) := by decide +kernel
theorem dX3_bid_156 : decode cX3_bid 156 = .ok (.iaload, 1) := by decide +kernel
theorem dX3_bid_157 : decode cX3_bid 157 = .ok (.iload 5, 2) := by decide +kernel
theorem dX3_bid_159 : decode cX3_bid 159 = .ok (.iadd, 1) := by decide +kernel
theorem dX3_bid_160 : decode cX3_bid 160 = .ok (.iastore, 1) := by decide +kernel
theorem dX3_bid_161 : decode cX3_bid 161 = .ok (.aload_n 0, 1) := by decide +kernel
theorem dX3_bid_162 : decode cX3_bid 162 = .ok (.iload 4, 2) := by decide +kernel
theorem dX3_bid_164 : decode cX3_bid 164 = .ok (.iload_n 1, 1) := by decide +kernel
theorem dX3_bid_165 : decode cX3_bid 165 = .ok (.invokevirtual 121, 3) := by decide +kernel
theorem dX3_bid_168 : decode cX3_bid 168 = .ok (.iload 4, 2) := by decide +kernel
theorem dX3_bid_170 : decode cX3_bid 170 = .ok (.ireturn, 1) := by decide +kernel
theorem dX3_cancelSale_0 : decode cX3_cancelSale 0 = .ok (.aload_n 0, 1) := by decide +kernel
theorem dX3_cancelSale_1 : decode cX3_cancelSale 1 = .ok (.iload_n 1, 1) := by decide +kernel
theorem dX3_cancelSale_2 : decode cX3_cancelSale 2 = .ok (.invokevirtual 79, 3) := by decide +kernel
theorem dX3_cancelSale_5 : decode cX3_cancelSale 5 = .ok (.aload_n 0, 1) := by decide +kernel
theorem dX3_cancelSale_6 : decode cX3_cancelSale 6 = .ok (.getfield 10, 3) := by decide +kernel
theorem dX3_cancelSale_9 : decode cX3_cancelSale 9 = .ok (.getfield 92, 3) := by decide +kernel
theorem dX3_cancelSale_12 : decode cX3_cancelSale 12 = .ok (.iload_n 1, 1) := by decide +kernel
theorem dX3_cancelSale_13 : decode cX3_cancelSale 13 = .ok (.iaload, 1) := by decide +kernel
theorem dX3_cancelSale_14 : decode cX3_cancelSale 14 = .ok (.iconst 1, 1) := by decide +kernel
theorem dX3_cancelSale_15 : decode cX3_cancelSale 15 = .ok (.if_icmp .eq 13, 3) := by decide +kernel
theorem dX3_cancelSale_18 : decode cX3_cancelSale 18 = .ok (.new 64, 3) := by decide +kernel
theorem dX3_cancelSale_21 : decode cX3_cancelSale 21 = .ok (.dup, 1) := by decide +kernel
theorem dX3_cancelSale_22 : decode cX3_cancelSale 22 = .ok (.ldc 143, 2) := by decide +kernel
theorem dX3_cancelSale_24 : decode cX3_cancelSale 24 = .ok (.invokespecial 68, 3) := by decide +kernel
theorem dX3_cancelSale_27 : decode cX3_cancelSale 27 = .ok (.athrow, 1) := by decide +kernel
theorem dX3_cancelSale_28 : decode cX3_cancelSale 28 = .ok (.aload_n 0, 1) := by decide +kernel
theorem dX3_cancelSale_29 : decode cX3_cancelSale 29 = .ok (.getfield 10, 3) := by decide +kernel
theorem dX3_cancelSale_32 : decode cX3_cancelSale 32 = .ok (.iload_n 1, 1) := by decide +kernel
theorem dX3_cancelSale_33 : decode cX3_cancelSale 33 = .ok (.invokevirtual 140, 3) := by decide +kernel
theorem dX3_cancelSale_36 : decode cX3_cancelSale 36 = .ok (.ireturn, 1) := by decide +kernel
theorem dX3_cancelBid_0 : decode cX3_cancelBid 0 = .ok (.iload_n 1, 1) := by decide +kernel
theorem dX3_cancelBid_1 : decode cX3_cancelBid 1 = .ok (.invokestatic 53, 3) := by decide +kernel
theorem dX3_cancelBid_4 : decode cX3_cancelBid 4 = .ok (.iload_n 2, 1) := by decide +kernel
theorem dX3_cancelBid_5 : decode cX3_cancelBid 5 = .ok (.invokestatic 57, 3) := by decide +kernel
theorem dX3_cancelBid_8 : decode cX3_cancelBid 8 = .ok (.aload_n 0, 1) := by decide +kernel
theorem dX3_cancelBid_9 : decode cX3_cancelBid 9 = .ok (.getfield 19, 3) := by decide +kernel
theorem dX3_cancelBid_12 : decode cX3_cancelBid 12 = .ok (.iload_n 1, 1) := by decide +kernel
theorem dX3_cancelBid_13 : decode cX3_cancelBid 13 = .ok (.iload_n 2, 1) := by decide +kernel
theorem dX3_cancelBid_14 : decode cX3_cancelBid 14 = .ok (.invokevirtual 124, 3) := by decide +kernel
theorem dX3_cancelBid_17 : decode cX3_cancelBid 17 = .ok (.ifCond .ne 13, 3) := by decide +kernel
theorem dX3_cancelBid_20 : decode cX3_cancelBid 20 = .ok (.new 64, 3) := by decide +kernel
theorem dX3_cancelBid_23 : decode cX3_cancelBid 23 = .ok (.dup, 1) := by decide +kernel
theorem dX3_cancelBid_24 : decode cX3_cancelBid 24 = .ok (.ldc 145, 2) := by decide +kernel
theorem dX3_cancelBid_26 : decode cX3_cancelBid 26 = .ok (.invokespecial 68, 3) := by decide +kernel
theorem dX3_cancelBid_29 : decode cX3_cancelBid 29 = .ok (.athrow, 1) := by decide +kernel
theorem dX3_cancelBid_30 : decode cX3_cancelBid 30 = .ok (.aload_n 0, 1) := by decide +kernel
theorem dX3_cancelBid_31 : decode cX3_cancelBid 31 = .ok (.iload_n 1, 1) := by decide +kernel
theorem dX3_cancelBid_32 : decode cX3_cancelBid 32 = .ok (.iload_n 2, 1) := by decide +kernel
theorem dX3_cancelBid_33 : decode cX3_cancelBid 33 = .ok (.invokevirtual 147, 3) := by decide +kernel
theorem dX3_cancelBid_36 : decode cX3_cancelBid 36 = .ok (.ireturn, 1) := by decide +kernel
theorem dX3_leastSale_0 : decode cX3_leastSale 0 = .ok (.iload_n 1, 1) := by decide +kernel
theorem dX3_leastSale_1 : decode cX3_leastSale 1 = .ok (.invokestatic 57, 3) := by decide +kernel
theorem dX3_leastSale_4 : decode cX3_leastSale 4 = .ok (.aload_n 0, 1) := by decide +kernel
theorem dX3_leastSale_5 : decode cX3_leastSale 5 = .ok (.getfield 10, 3) := by decide +kernel
theorem dX3_leastSale_8 : decode cX3_leastSale 8 = .ok (.iload_n 1, 1) := by decide +kernel
theorem dX3_leastSale_9 : decode cX3_leastSale 9 = .ok (.iconst (-1), 1) := by decide +kernel
theorem dX3_leastSale_10 : decode cX3_leastSale 10 = .ok (.invokevirtual 130, 3) := by decide +kernel
theorem dX3_leastSale_13 : decode cX3_leastSale 13 = .ok (.istore_n 2, 1) := by decide +kernel
theorem dX3_leastSale_14 : decode cX3_leastSale 14 = .ok (.iload_n 2, 1) := by decide +kernel
theorem dX3_leastSale_15 : decode cX3_leastSale 15 = .ok (.iconst (-1), 1) := by decide +kernel
theorem dX3_leastSale_16 : decode cX3_leastSale 16 = .ok (.if_icmp .ne 7, 3) := by decide +kernel
theorem dX3_leastSale_19 : decode cX3_leastSale 19 = .ok (.iconst (-1), 1) := by decide +kernel
theorem dX3_leastSale_20 : decode cX3_leastSale 20 = .ok (.goto 12, 3) := by decide +kernel
theorem dX3_leastSale_23 : decode cX3_leastSale 23 = .ok (.aload_n 0, 1) := by decide +kernel
theorem dX3_leastSale_24 : decode cX3_leastSale 24 = .ok (.getfield 10, 3) := by decide +kernel
theorem dX3_leastSale_27 : decode cX3_leastSale 27 = .ok (.getfield 133, 3) := by decide +kernel
theorem dX3_leastSale_30 : decode cX3_leastSale 30 = .ok (.iload_n 2, 1) := by decide +kernel
theorem dX3_leastSale_31 : decode cX3_leastSale 31 = .ok (.iaload, 1) := by decide +kernel
theorem dX3_leastSale_32 : decode cX3_leastSale 32 = .ok (.ireturn, 1) := by decide +kernel
theorem dX3_greatestBid_0 : decode cX3_greatestBid 0 = .ok (.iload_n 1, 1) := by decide +kernel
theorem dX3_greatestBid_1 : decode cX3_greatestBid 1 = .ok (.invokestatic 57, 3) := by decide +kernel
theorem dX3_greatestBid_4 : decode cX3_greatestBid 4 = .ok (.aload_n 0, 1) := by decide +kernel
theorem dX3_greatestBid_5 : decode cX3_greatestBid 5 = .ok (.getfield 19, 3) := by decide +kernel
theorem dX3_greatestBid_8 : decode cX3_greatestBid 8 = .ok (.iload_n 1, 1) := by decide +kernel
theorem dX3_greatestBid_9 : decode cX3_greatestBid 9 = .ok (.iconst (-1), 1) := by decide +kernel
theorem dX3_greatestBid_10 : decode cX3_greatestBid 10 = .ok (.invokevirtual 107, 3) := by decide +kernel
theorem dX3_greatestBid_13 : decode cX3_greatestBid 13 = .ok (.istore_n 2, 1) := by decide +kernel
theorem dX3_greatestBid_14 : decode cX3_greatestBid 14 = .ok (.iload_n 2, 1) := by decide +kernel
theorem dX3_greatestBid_15 : decode cX3_greatestBid 15 = .ok (.iconst (-1), 1) := by decide +kernel
theorem dX3_greatestBid_16 : decode cX3_greatestBid 16 = .ok (.if_icmp .ne 7, 3) := by decide +kernel
theorem dX3_greatestBid_19 : decode cX3_greatestBid 19 = .ok (.iconst (-1), 1) := by decide +kernel
theorem dX3_greatestBid_20 : decode cX3_greatestBid 20 = .ok (.goto 14, 3) := by decide +kernel
theorem dX3_greatestBid_23 : decode cX3_greatestBid 23 = .ok (.aload_n 0, 1) := by decide +kernel
theorem dX3_greatestBid_24 : decode cX3_greatestBid 24 = .ok (.getfield 19, 3) := by decide +kernel
theorem dX3_greatestBid_27 : decode cX3_greatestBid 27 = .ok (.getfield 110, 3) := by decide +kernel
theorem dX3_greatestBid_30 : decode cX3_greatestBid 30 = .ok (.iload_n 2, 1) := by decide +kernel
theorem dX3_greatestBid_31 : decode cX3_greatestBid 31 = .ok (.aaload, 1) := by decide +kernel
theorem dX3_greatestBid_32 : decode cX3_greatestBid 32 = .ok (.iload_n 1, 1) := by decide +kernel
theorem dX3_greatestBid_33 : decode cX3_greatestBid 33 = .ok (.iaload, 1) := by decide +kernel
theorem dX3_greatestBid_34 : decode cX3_greatestBid 34 = .ok (.ireturn, 1) := by decide +kernel
theorem dX3_swap_0 : decode cX3_swap 0 = .ok (.aload_n 0, 1) := by decide +kernel
theorem dX3_swap_1 : decode cX3_swap 1 = .ok (.iload_n 1, 1) := by decide +kernel
theorem dX3_swap_2 : decode cX3_swap 2 = .ok (.invokevirtual 79, 3) := by decide +kernel
theorem dX3_swap_5 : decode cX3_swap 5 = .ok (.aload_n 0, 1) := by decide +kernel
theorem dX3_swap_6 : decode cX3_swap 6 = .ok (.iload_n 2, 1) := by decide +kernel
theorem dX3_swap_7 : decode cX3_swap 7 = .ok (.invokevirtual 79, 3) := by decide +kernel
theorem dX3_swap_10 : decode cX3_swap 10 = .ok (.aload_n 0, 1) := by decide +kernel
theorem dX3_swap_11 : decode cX3_swap 11 = .ok (.getfield 10, 3) := by decide +kernel
theorem dX3_swap_14 : decode cX3_swap 14 = .ok (.getfield 82, 3) := by decide +kernel
theorem dX3_swap_17 : decode cX3_swap 17 = .ok (.iload_n 1, 1) := by decide +kernel
theorem dX3_swap_18 : decode cX3_swap 18 = .ok (.iaload, 1) := by decide +kernel
theorem dX3_swap_19 : decode cX3_swap 19 = .ok (.aload_n 0, 1) := by decide +kernel
theorem dX3_swap_20 : decode cX3_swap 20 = .ok (.getfield 10, 3) := by decide +kernel
theorem dX3_swap_23 : decode cX3_swap 23 = .ok (.getfield 82, 3) := by decide +kernel
theorem dX3_swap_26 : decode cX3_swap 26 = .ok (.iload_n 2, 1) := by decide +kernel
theorem dX3_swap_27 : decode cX3_swap 27 = .ok (.iaload, 1) := by decide +kernel
theorem dX3_swap_28 : decode cX3_swap 28 = .ok (.if_icmp .ne 13, 3) := by decide +kernel
theorem dX3_swap_31 : decode cX3_swap 31 = .ok (.new 150, 3) := by decide +kernel
theorem dX3_swap_34 : decode cX3_swap 34 = .ok (.dup, 1) := by decide +kernel
theorem dX3_swap_35 : decode cX3_swap 35 = .ok (.ldc 152, 2) := by decide +kernel
theorem dX3_swap_37 : decode cX3_swap 37 = .ok (.invokespecial 154, 3) := by decide +kernel
theorem dX3_swap_40 : decode cX3_swap 40 = .ok (.athrow, 1) := by decide +kernel
theorem dX3_swap_41 : decode cX3_swap 41 = .ok (.aload_n 0, 1) := by decide +kernel
theorem dX3_swap_42 : decode cX3_swap 42 = .ok (.getfield 10, 3) := by decide +kernel
theorem dX3_swap_45 : decode cX3_swap 45 = .ok (.getfield 92, 3) := by decide +kernel
theorem dX3_swap_48 : decode cX3_swap 48 = .ok (.iload_n 1, 1) := by decide +kernel
theorem dX3_swap_49 : decode cX3_swap 49 = .ok (.iaload, 1) := by decide +kernel
theorem dX3_swap_50 : decode cX3_swap 50 = .ok (.ifCond .eq 13, 3) := by decide +kernel
theorem dX3_swap_53 : decode cX3_swap 53 = .ok (.new 64, 3) := by decide +kernel
theorem dX3_swap_56 : decode cX3_swap 56 = .ok (.dup, 1) := by decide +kernel
theorem dX3_swap_57 : decode cX3_swap 57 = .ok (.ldc 155, 2) := by decide +kernel
theorem dX3_swap_59 : decode cX3_swap 59 = .ok (.invokespecial 68, 3) := by decide +kernel
theorem dX3_swap_62 : decode cX3_swap 62 = .ok (.athrow, 1) := by decide +kernel
theorem dX3_swap_63 : decode cX3_swap 63 = .ok (.aload_n 0, 1) := by decide +kernel
theorem dX3_swap_64 : decode cX3_swap 64 = .ok (.getfield 10, 3) := by decide +kernel
theorem dX3_swap_67 : decode cX3_swap 67 = .ok (.getfield 92, 3) := by decide +kernel
theorem dX3_swap_70 : decode cX3_swap 70 = .ok (.iload_n 1, 1) := by decide +kernel
theorem dX3_swap_71 : decode cX3_swap 71 = .ok (.iconst 2, 1) := by decide +kernel
theorem dX3_swap_72 : decode cX3_swap 72 = .ok (.iastore, 1) := by decide +kernel
theorem dX3_swap_73 : decode cX3_swap 73 = .ok (.aload_n 0, 1) := by decide +kernel
theorem dX3_swap_74 : decode cX3_swap 74 = .ok (.getfield 10, 3) := by decide +kernel
theorem dX3_swap_77 : decode cX3_swap 77 = .ok (.getfield 157, 3) := by decide +kernel
theorem dX3_swap_80 : decode cX3_swap 80 = .ok (.iload_n 1, 1) := by decide +kernel
theorem dX3_swap_81 : decode cX3_swap 81 = .ok (.iload_n 2, 1) := by decide +kernel
theorem dX3_swap_82 : decode cX3_swap 82 = .ok (.iastore, 1) := by decide +kernel
theorem dX3_swap_83 : decode cX3_swap 83 = .ok (.return_, 1) := by decide +kernel
theorem dX3_agree_0 : decode cX3_agree 0 = .ok (.aload_n 0, 1) := by decide +kernel
theorem dX3_agree_1 : decode cX3_agree 1 = .ok (.iload_n 1, 1) := by decide +kernel
theorem dX3_agree_2 : decode cX3_agree 2 = .ok (.invokevirtual 79, 3) := by decide +kernel
theorem dX3_agree_5 : decode cX3_agree 5 = .ok (.aload_n 0, 1) := by decide +kernel
theorem dX3_agree_6 : decode cX3_agree 6 = .ok (.getfield 10, 3) := by decide +kernel
theorem dX3_agree_9 : decode cX3_agree 9 = .ok (.iload_n 1, 1) := by decide +kernel
theorem dX3_agree_10 : decode cX3_agree 10 = .ok (.invokevirtual 160, 3) := by decide +kernel
theorem dX3_agree_13 : decode cX3_agree 13 = .ok (.ifCond .ne 13, 3) := by decide +kernel
theorem dX3_agree_16 : decode cX3_agree 16 = .ok (.new 64, 3) := by decide +kernel
theorem dX3_agree_19 : decode cX3_agree 19 = .ok (.dup, 1) := by decide +kernel
theorem dX3_agree_20 : decode cX3_agree 20 = .ok (.ldc 163, 2) := by decide +kernel
theorem dX3_agree_22 : decode cX3_agree 22 = .ok (.invokespecial 68, 3) := by decide +kernel
theorem dX3_agree_25 : decode cX3_agree 25 = .ok (.athrow, 1) := by decide +kernel
theorem dX3_agree_26 : decode cX3_agree 26 = .ok (.aload_n 0, 1) := by decide +kernel
theorem dX3_agree_27 : decode cX3_agree 27 = .ok (.getfield 10, 3) := by decide +kernel
theorem dX3_agree_30 : decode cX3_agree 30 = .ok (.getfield 157, 3) := by decide +kernel
theorem dX3_agree_33 : decode cX3_agree 33 = .ok (.iload_n 1, 1) := by decide +kernel
theorem dX3_agree_34 : decode cX3_agree 34 = .ok (.iaload, 1) := by decide +kernel
theorem dX3_agree_35 : decode cX3_agree 35 = .ok (.istore_n 2, 1) := by decide +kernel
theorem dX3_agree_36 : decode cX3_agree 36 = .ok (.aload_n 0, 1) := by decide +kernel
theorem dX3_agree_37 : decode cX3_agree 37 = .ok (.getfield 10, 3) := by decide +kernel
theorem dX3_agree_40 : decode cX3_agree 40 = .ok (.getfield 82, 3) := by decide +kernel
theorem dX3_agree_43 : decode cX3_agree 43 = .ok (.iload_n 1, 1) := by decide +kernel
theorem dX3_agree_44 : decode cX3_agree 44 = .ok (.iaload, 1) := by decide +kernel
theorem dX3_agree_45 : decode cX3_agree 45 = .ok (.istore_n 3, 1) := by decide +kernel
theorem dX3_agree_46 : decode cX3_agree 46 = .ok (.aload_n 0, 1) := by decide +kernel
theorem dX3_agree_47 : decode cX3_agree 47 = .ok (.iload_n 1, 1) := by decide +kernel
theorem dX3_agree_48 : decode cX3_agree 48 = .ok (.aload_n 0, 1) := by decide +kernel
theorem dX3_agree_49 : decode cX3_agree 49 = .ok (.getfield 10, 3) := by decide +kernel
theorem dX3_agree_52 : decode cX3_agree 52 = .ok (.getfield 82, 3) := by decide +kernel
theorem dX3_agree_55 : decode cX3_agree 55 = .ok (.iload_n 2, 1) := by decide +kernel
theorem dX3_agree_56 : decode cX3_agree 56 = .ok (.iaload, 1) := by decide +kernel
theorem dX3_agree_57 : decode cX3_agree 57 = .ok (.invokevirtual 121, 3) := by decide +kernel
theorem dX3_agree_60 : decode cX3_agree 60 = .ok (.aload_n 0, 1) := by decide +kernel
theorem dX3_agree_61 : decode cX3_agree 61 = .ok (.iload_n 2, 1) := by decide +kernel
theorem dX3_agree_62 : decode cX3_agree 62 = .ok (.iload_n 3, 1) := by decide +kernel
theorem dX3_agree_63 : decode cX3_agree 63 = .ok (.invokevirtual 121, 3) := by decide +kernel
theorem dX3_agree_66 : decode cX3_agree 66 = .ok (.iload_n 2, 1) := by decide +kernel
theorem dX3_agree_67 : decode cX3_agree 67 = .ok (.ireturn, 1) := by decide +kernel
theorem dX3_cancelSwap_0 : decode cX3_cancelSwap 0 = .ok (.aload_n 0, 1) := by decide +kernel
theorem dX3_cancelSwap_1 : decode cX3_cancelSwap 1 = .ok (.iload_n 1, 1) := by decide +kernel
theorem dX3_cancelSwap_2 : decode cX3_cancelSwap 2 = .ok (.invokevirtual 79, 3) := by decide +kernel
theorem dX3_cancelSwap_5 : decode cX3_cancelSwap 5 = .ok (.aload_n 0, 1) := by decide +kernel
theorem dX3_cancelSwap_6 : decode cX3_cancelSwap 6 = .ok (.getfield 10, 3) := by decide +kernel
theorem dX3_cancelSwap_9 : decode cX3_cancelSwap 9 = .ok (.getfield 92, 3) := by decide +kernel
theorem dX3_cancelSwap_12 : decode cX3_cancelSwap 12 = .ok (.iload_n 1, 1) := by decide +kernel
theorem dX3_cancelSwap_13 : decode cX3_cancelSwap 13 = .ok (.iaload, 1) := by decide +kernel
theorem dX3_cancelSwap_14 : decode cX3_cancelSwap 14 = .ok (.iconst 2, 1) := by decide +kernel
theorem dX3_cancelSwap_15 : decode cX3_cancelSwap 15 = .ok (.if_icmp .eq 13, 3) := by decide +kernel
theorem dX3_cancelSwap_18 : decode cX3_cancelSwap 18 = .ok (.new 64, 3) := by decide +kernel
theorem dX3_cancelSwap_21 : decode cX3_cancelSwap 21 = .ok (.dup, 1) := by decide +kernel
theorem dX3_cancelSwap_22 : decode cX3_cancelSwap 22 = .ok (.ldc 165, 2) := by decide +kernel
theorem dX3_cancelSwap_24 : decode cX3_cancelSwap 24 = .ok (.invokespecial 68, 3) := by decide +kernel
theorem dX3_cancelSwap_27 : decode cX3_cancelSwap 27 = .ok (.athrow, 1) := by decide +kernel
theorem dX3_cancelSwap_28 : decode cX3_cancelSwap 28 = .ok (.aload_n 0, 1) := by decide +kernel
theorem dX3_cancelSwap_29 : decode cX3_cancelSwap 29 = .ok (.getfield 10, 3) := by decide +kernel
theorem dX3_cancelSwap_32 : decode cX3_cancelSwap 32 = .ok (.getfield 92, 3) := by decide +kernel
theorem dX3_cancelSwap_35 : decode cX3_cancelSwap 35 = .ok (.iload_n 1, 1) := by decide +kernel
theorem dX3_cancelSwap_36 : decode cX3_cancelSwap 36 = .ok (.iconst 0, 1) := by decide +kernel
theorem dX3_cancelSwap_37 : decode cX3_cancelSwap 37 = .ok (.iastore, 1) := by decide +kernel
theorem dX3_cancelSwap_38 : decode cX3_cancelSwap 38 = .ok (.return_, 1) := by decide +kernel
theorem dX3_lend_0 : decode cX3_lend 0 = .ok (.aload_n 0, 1) := by decide +kernel
theorem dX3_lend_1 : decode cX3_lend 1 = .ok (.iload_n 1, 1) := by decide +kernel
theorem dX3_lend_2 : decode cX3_lend 2 = .ok (.invokevirtual 79, 3) := by decide +kernel
theorem dX3_lend_5 : decode cX3_lend 5 = .ok (.iload_n 2, 1) := by decide +kernel
theorem dX3_lend_6 : decode cX3_lend 6 = .ok (.invokestatic 53, 3) := by decide +kernel
theorem dX3_lend_9 : decode cX3_lend 9 = .ok (.iload_n 3, 1) := by decide +kernel
theorem dX3_lend_10 : decode cX3_lend 10 = .ok (.iconst 1, 1) := by decide +kernel
theorem dX3_lend_11 : decode cX3_lend 11 = .ok (.if_icmp .lt 22, 3) := by decide +kernel
theorem dX3_lend_14 : decode cX3_lend 14 = .ok (.iload_n 3, 1) := by decide +kernel
theorem dX3_lend_15 : decode cX3_lend 15 = .ok (.bipush 50, 2) := by decide +kernel
theorem dX3_lend_17 : decode cX3_lend 17 = .ok (.if_icmp .gt 16, 3) := by decide +kernel
theorem dX3_lend_20 : decode cX3_lend 20 = .ok (.iload_n 2, 1) := by decide +kernel
theorem dX3_lend_21 : decode cX3_lend 21 = .ok (.aload_n 0, 1) := by decide +kernel
theorem dX3_lend_22 : decode cX3_lend 22 = .ok (.getfield 10, 3) := by decide +kernel
theorem dX3_lend_25 : decode cX3_lend 25 = .ok (.getfield 82, 3) := by decide +kernel
theorem dX3_lend_28 : decode cX3_lend 28 = .ok (.iload_n 1, 1) := by decide +kernel
theorem dX3_lend_29 : decode cX3_lend 29 = .ok (.iaload, 1) := by decide +kernel
theorem dX3_lend_30 : decode cX3_lend 30 = .ok (.if_icmp .ne 13, 3) := by decide +kernel
theorem dX3_lend_33 : decode cX3_lend 33 = .ok (.new 150, 3) := by decide +kernel
theorem dX3_lend_36 : decode cX3_lend 36 = .ok (.dup, 1) := by decide +kernel
theorem dX3_lend_37 : decode cX3_lend 37 = .ok (.ldc 167, 2) := by decide +kernel
theorem dX3_lend_39 : decode cX3_lend 39 = .ok (.invokespecial 154, 3) := by decide +kernel
theorem dX3_lend_42 : decode cX3_lend 42 = .ok (.athrow, 1) := by decide +kernel
theorem dX3_lend_43 : decode cX3_lend 43 = .ok (.aload_n 0, 1) := by decide +kernel
theorem dX3_lend_44 : decode cX3_lend 44 = .ok (.getfield 10, 3) := by decide +kernel
theorem dX3_lend_47 : decode cX3_lend 47 = .ok (.getfield 92, 3) := by decide +kernel
theorem dX3_lend_50 : decode cX3_lend 50 = .ok (.iload_n 1, 1) := by decide +kernel
theorem dX3_lend_51 : decode cX3_lend 51 = .ok (.iaload, 1) := by decide +kernel
theorem dX3_lend_52 : decode cX3_lend 52 = .ok (.ifCond .eq 13, 3) := by decide +kernel
theorem dX3_lend_55 : decode cX3_lend 55 = .ok (.new 64, 3) := by decide +kernel
theorem dX3_lend_58 : decode cX3_lend 58 = .ok (.dup, 1) := by decide +kernel
theorem dX3_lend_59 : decode cX3_lend 59 = .ok (.ldc 155, 2) := by decide +kernel
theorem dX3_lend_61 : decode cX3_lend 61 = .ok (.invokespecial 68, 3) := by decide +kernel
theorem dX3_lend_64 : decode cX3_lend 64 = .ok (.athrow, 1) := by decide +kernel
theorem dX3_lend_65 : decode cX3_lend 65 = .ok (.aload_n 0, 1) := by decide +kernel
theorem dX3_lend_66 : decode cX3_lend 66 = .ok (.getfield 50, 3) := by decide +kernel
theorem dX3_lend_69 : decode cX3_lend 69 = .ok (.iload_n 3, 1) := by decide +kernel
theorem dX3_lend_70 : decode cX3_lend 70 = .ok (.iadd, 1) := by decide +kernel
theorem dX3_lend_71 : decode cX3_lend 71 = .ok (.istore 4, 2) := by decide +kernel
theorem dX3_lend_73 : decode cX3_lend 73 = .ok (.aload_n 0, 1) := by decide +kernel
theorem dX3_lend_74 : decode cX3_lend 74 = .ok (.getfield 10, 3) := by decide +kernel
theorem dX3_lend_77 : decode cX3_lend 77 = .ok (.iload_n 1, 1) := by decide +kernel
theorem dX3_lend_78 : decode cX3_lend 78 = .ok (.iload_n 2, 1) := by decide +kernel
theorem dX3_lend_79 : decode cX3_lend 79 = .ok (.iload 4, 2) := by decide +kernel
theorem dX3_lend_81 : decode cX3_lend 81 = .ok (.invokevirtual 169, 3) := by decide +kernel
theorem dX3_lend_84 : decode cX3_lend 84 = .ok (.iload 4, 2) := by decide +kernel
theorem dX3_lend_86 : decode cX3_lend 86 = .ok (.ireturn, 1) := by decide +kernel
theorem dX3_ban_0 : decode cX3_ban 0 = .ok (.iload_n 1, 1) := by decide +kernel
theorem dX3_ban_1 : decode cX3_ban 1 = .ok (.invokestatic 57, 3) := by decide +kernel
theorem dX3_ban_4 : decode cX3_ban 4 = .ok (.iload_n 2, 1) := by decide +kernel
theorem dX3_ban_5 : decode cX3_ban 5 = .ok (.aload_n 0, 1) := by decide +kernel
theorem dX3_ban_6 : decode cX3_ban 6 = .ok (.getfield 50, 3) := by decide +kernel
theorem dX3_ban_9 : decode cX3_ban 9 = .ok (.if_icmp .lt 14, 3) := by decide +kernel
theorem dX3_ban_12 : decode cX3_ban 12 = .ok (.iload_n 2, 1) := by decide +kernel
theorem dX3_ban_13 : decode cX3_ban 13 = .ok (.aload_n 0, 1) := by decide +kernel
theorem dX3_ban_14 : decode cX3_ban 14 = .ok (.getfield 50, 3) := by decide +kernel
theorem dX3_ban_17 : decode cX3_ban 17 = .ok (.bipush 50, 2) := by decide +kernel
theorem dX3_ban_19 : decode cX3_ban 19 = .ok (.iadd, 1) := by decide +kernel
theorem dX3_ban_20 : decode cX3_ban 20 = .ok (.if_icmp .le 13, 3) := by decide +kernel
theorem dX3_ban_23 : decode cX3_ban 23 = .ok (.new 150, 3) := by decide +kernel
theorem dX3_ban_26 : decode cX3_ban 26 = .ok (.dup, 1) := by decide +kernel
theorem dX3_ban_27 : decode cX3_ban 27 = .ok (.ldc 172, 2) := by decide +kernel
theorem dX3_ban_29 : decode cX3_ban 29 = .ok (.invokespecial 154, 3) := by decide +kernel
theorem dX3_ban_32 : decode cX3_ban 32 = .ok (.athrow, 1) := by decide +kernel
theorem dX3_ban_33 : decode cX3_ban 33 = .ok (.aload_n 0, 1) := by decide +kernel
theorem dX3_ban_34 : decode cX3_ban 34 = .ok (.getfield 40, 3) := by decide +kernel
theorem dX3_ban_37 : decode cX3_ban 37 = .ok (.iload_n 1, 1) := by decide +kernel
theorem dX3_ban_38 : decode cX3_ban 38 = .ok (.iload_n 2, 1) := by decide +kernel
theorem dX3_ban_39 : decode cX3_ban 39 = .ok (.iastore, 1) := by decide +kernel
theorem dX3_ban_40 : decode cX3_ban 40 = .ok (.aload_n 0, 1) := by decide +kernel
theorem dX3_ban_41 : decode cX3_ban 41 = .ok (.iload_n 1, 1) := by decide +kernel
theorem dX3_ban_42 : decode cX3_ban 42 = .ok (.invokevirtual 101, 3) := by decide +kernel
theorem dX3_ban_45 : decode cX3_ban 45 = .ok (.ifCond .eq 11, 3) := by decide +kernel
theorem dX3_ban_48 : decode cX3_ban 48 = .ok (.aload_n 0, 1) := by decide +kernel
theorem dX3_ban_49 : decode cX3_ban 49 = .ok (.iload_n 1, 1) := by decide +kernel
theorem dX3_ban_50 : decode cX3_ban 50 = .ok (.invokevirtual 174, 3) := by decide +kernel
theorem dX3_ban_53 : decode cX3_ban 53 = .ok (.goto 4, 3) := by decide +kernel
theorem dX3_ban_56 : decode cX3_ban 56 = .ok (.iconst 0, 1) := by decide +kernel
theorem dX3_ban_57 : decode cX3_ban 57 = .ok (.ireturn, 1) := by decide +kernel
theorem dX3_lift_0 : decode cX3_lift 0 = .ok (.iload_n 1, 1) := by decide +kernel
theorem dX3_lift_1 : decode cX3_lift 1 = .ok (.invokestatic 57, 3) := by decide +kernel
theorem dX3_lift_4 : decode cX3_lift 4 = .ok (.aload_n 0, 1) := by decide +kernel
theorem dX3_lift_5 : decode cX3_lift 5 = .ok (.getfield 40, 3) := by decide +kernel
theorem dX3_lift_8 : decode cX3_lift 8 = .ok (.iload_n 1, 1) := by decide +kernel
theorem dX3_lift_9 : decode cX3_lift 9 = .ok (.iaload, 1) := by decide +kernel
theorem dX3_lift_10 : decode cX3_lift 10 = .ok (.iconst (-1), 1) := by decide +kernel
theorem dX3_lift_11 : decode cX3_lift 11 = .ok (.if_icmp .eq 7, 3) := by decide +kernel
theorem dX3_lift_14 : decode cX3_lift 14 = .ok (.iconst 1, 1) := by decide +kernel
theorem dX3_lift_15 : decode cX3_lift 15 = .ok (.goto 4, 3) := by decide +kernel
theorem dX3_lift_18 : decode cX3_lift 18 = .ok (.iconst 0, 1) := by decide +kernel
theorem dX3_lift_19 : decode cX3_lift 19 = .ok (.istore_n 2, 1) := by decide +kernel
theorem dX3_lift_20 : decode cX3_lift 20 = .ok (.aload_n 0, 1) := by decide +kernel
theorem dX3_lift_21 : decode cX3_lift 21 = .ok (.getfield 40, 3) := by decide +kernel
theorem dX3_lift_24 : decode cX3_lift 24 = .ok (.iload_n 1, 1) := by decide +kernel
theorem dX3_lift_25 : decode cX3_lift 25 = .ok (.iconst (-1), 1) := by decide +kernel
theorem dX3_lift_26 : decode cX3_lift 26 = .ok (.iastore, 1) := by decide +kernel
theorem dX3_lift_27 : decode cX3_lift 27 = .ok (.iload_n 2, 1) := by decide +kernel
theorem dX3_lift_28 : decode cX3_lift 28 = .ok (.ireturn, 1) := by decide +kernel
theorem dX3_isBanned_0 : decode cX3_isBanned 0 = .ok (.iload_n 1, 1) := by decide +kernel
theorem dX3_isBanned_1 : decode cX3_isBanned 1 = .ok (.invokestatic 57, 3) := by decide +kernel
theorem dX3_isBanned_4 : decode cX3_isBanned 4 = .ok (.aload_n 0, 1) := by decide +kernel
theorem dX3_isBanned_5 : decode cX3_isBanned 5 = .ok (.iload_n 1, 1) := by decide +kernel
theorem dX3_isBanned_6 : decode cX3_isBanned 6 = .ok (.invokevirtual 101, 3) := by decide +kernel
theorem dX3_isBanned_9 : decode cX3_isBanned 9 = .ok (.ireturn, 1) := by decide +kernel
theorem dX3_pass_0 : decode cX3_pass 0 = .ok (.iload_n 1, 1) := by decide +kernel
theorem dX3_pass_1 : decode cX3_pass 1 = .ok (.iconst 1, 1) := by decide +kernel
theorem dX3_pass_2 : decode cX3_pass 2 = .ok (.if_icmp .lt 9, 3) := by decide +kernel
theorem dX3_pass_5 : decode cX3_pass 5 = .ok (.iload_n 1, 1) := by decide +kernel
theorem dX3_pass_6 : decode cX3_pass 6 = .ok (.bipush 100, 2) := by decide +kernel
theorem dX3_pass_8 : decode cX3_pass 8 = .ok (.if_icmp .le 13, 3) := by decide +kernel
theorem dX3_pass_11 : decode cX3_pass 11 = .ok (.new 150, 3) := by decide +kernel
theorem dX3_pass_14 : decode cX3_pass 14 = .ok (.dup, 1) := by decide +kernel
theorem dX3_pass_15 : decode cX3_pass 15 = .ok (.ldc 177, 2) := by decide +kernel
theorem dX3_pass_17 : decode cX3_pass 17 = .ok (.invokespecial 154, 3) := by decide +kernel
theorem dX3_pass_20 : decode cX3_pass 20 = .ok (.athrow, 1) := by decide +kernel
theorem dX3_pass_21 : decode cX3_pass 21 = .ok (.aload_n 0, 1) := by decide +kernel
theorem dX3_pass_22 : decode cX3_pass 22 = .ok (.dup, 1) := by decide +kernel
theorem dX3_pass_23 : decode cX3_pass 23 = .ok (.getfield 50, 3) := by decide +kernel
theorem dX3_pass_26 : decode cX3_pass 26 = .ok (.iload_n 1, 1) := by decide +kernel
theorem dX3_pass_27 : decode cX3_pass 27 = .ok (.iadd, 1) := by decide +kernel
theorem dX3_pass_28 : decode cX3_pass 28 = .ok (.putfield 50, 3) := by decide +kernel
theorem dX3_pass_31 : decode cX3_pass 31 = .ok (.aload_n 0, 1) := by decide +kernel
theorem dX3_pass_32 : decode cX3_pass 32 = .ok (.getfield 10, 3) := by decide +kernel
theorem dX3_pass_35 : decode cX3_pass 35 = .ok (.aload_n 0, 1) := by decide +kernel
theorem dX3_pass_36 : decode cX3_pass 36 = .ok (.getfield 50, 3) := by decide +kernel
theorem dX3_pass_39 : decode cX3_pass 39 = .ok (.invokevirtual 179, 3) := by decide +kernel
theorem dX3_pass_42 : decode cX3_pass 42 = .ok (.iconst 0, 1) := by decide +kernel
theorem dX3_pass_43 : decode cX3_pass 43 = .ok (.istore_n 2, 1) := by decide +kernel
theorem dX3_pass_44 : decode cX3_pass 44 = .ok (.iload_n 2, 1) := by decide +kernel
theorem dX3_pass_45 : decode cX3_pass 45 = .ok (.bipush 8, 2) := by decide +kernel
theorem dX3_pass_47 : decode cX3_pass 47 = .ok (.if_icmp .ge 23, 3) := by decide +kernel
theorem dX3_pass_50 : decode cX3_pass 50 = .ok (.aload_n 0, 1) := by decide +kernel
theorem dX3_pass_51 : decode cX3_pass 51 = .ok (.iload_n 2, 1) := by decide +kernel
theorem dX3_pass_52 : decode cX3_pass 52 = .ok (.invokevirtual 101, 3) := by decide +kernel
theorem dX3_pass_55 : decode cX3_pass 55 = .ok (.ifCond .eq 9, 3) := by decide +kernel
theorem dX3_pass_58 : decode cX3_pass 58 = .ok (.aload_n 0, 1) := by decide +kernel
theorem dX3_pass_59 : decode cX3_pass 59 = .ok (.iload_n 2, 1) := by decide +kernel
theorem dX3_pass_60 : decode cX3_pass 60 = .ok (.invokevirtual 174, 3) := by decide +kernel
theorem dX3_pass_63 : decode cX3_pass 63 = .ok (.pop, 1) := by decide +kernel
theorem dX3_pass_64 : decode cX3_pass 64 = .ok (.iinc 2 1, 3) := by decide +kernel
theorem dX3_pass_67 : decode cX3_pass 67 = .ok (.goto (-23), 3) := by decide +kernel
theorem dX3_pass_70 : decode cX3_pass 70 = .ok (.aload_n 0, 1) := by decide +kernel
theorem dX3_pass_71 : decode cX3_pass 71 = .ok (.getfield 50, 3) := by decide +kernel
theorem dX3_pass_74 : decode cX3_pass 74 = .ok (.ireturn, 1) := by decide +kernel
theorem dX3_toggleDeck_0 : decode cX3_toggleDeck 0 = .ok (.iload_n 1, 1) := by decide +kernel
theorem dX3_toggleDeck_1 : decode cX3_toggleDeck 1 = .ok (.invokestatic 53, 3) := by decide +kernel
theorem dX3_toggleDeck_4 : decode cX3_toggleDeck 4 = .ok (.aload_n 0, 1) := by decide +kernel
theorem dX3_toggleDeck_5 : decode cX3_toggleDeck 5 = .ok (.iload_n 2, 1) := by decide +kernel
theorem dX3_toggleDeck_6 : decode cX3_toggleDeck 6 = .ok (.invokevirtual 79, 3) := by decide +kernel
theorem dX3_toggleDeck_9 : decode cX3_toggleDeck 9 = .ok (.aload_n 0, 1) := by decide +kernel
theorem dX3_toggleDeck_10 : decode cX3_toggleDeck 10 = .ok (.getfield 43, 3) := by decide +kernel
theorem dX3_toggleDeck_13 : decode cX3_toggleDeck 13 = .ok (.iload_n 1, 1) := by decide +kernel
theorem dX3_toggleDeck_14 : decode cX3_toggleDeck 14 = .ok (.dup2, 1) := by decide +kernel
theorem dX3_toggleDeck_15 : decode cX3_toggleDeck 15 = .ok (.iaload, 1) := by decide +kernel
theorem dX3_toggleDeck_16 : decode cX3_toggleDeck 16 = .ok (.iconst 1, 1) := by decide +kernel
theorem dX3_toggleDeck_17 : decode cX3_toggleDeck 17 = .ok (.iload_n 2, 1) := by decide +kernel
theorem dX3_toggleDeck_18 : decode cX3_toggleDeck 18 = .ok (.ishl, 1) := by decide +kernel
theorem dX3_toggleDeck_19 : decode cX3_toggleDeck 19 = .ok (.ixor, 1) := by decide +kernel
theorem dX3_toggleDeck_20 : decode cX3_toggleDeck 20 = .ok (.iastore, 1) := by decide +kernel
theorem dX3_toggleDeck_21 : decode cX3_toggleDeck 21 = .ok (.aload_n 0, 1) := by decide +kernel
theorem dX3_toggleDeck_22 : decode cX3_toggleDeck 22 = .ok (.getfield 43, 3) := by decide +kernel
theorem dX3_toggleDeck_25 : decode cX3_toggleDeck 25 = .ok (.iload_n 1, 1) := by decide +kernel
theorem dX3_toggleDeck_26 : decode cX3_toggleDeck 26 = .ok (.iaload, 1) := by decide +kernel
theorem dX3_toggleDeck_27 : decode cX3_toggleDeck 27 = .ok (.invokestatic 182, 3) := by decide +kernel
theorem dX3_toggleDeck_30 : decode cX3_toggleDeck 30 = .ok (.ireturn, 1) := by decide +kernel
theorem dX3_isRight_0 : decode cX3_isRight 0 = .ok (.iload_n 1, 1) := by decide +kernel
theorem dX3_isRight_1 : decode cX3_isRight 1 = .ok (.invokestatic 53, 3) := by decide +kernel
theorem dX3_isRight_4 : decode cX3_isRight 4 = .ok (.aload_n 0, 1) := by decide +kernel
theorem dX3_isRight_5 : decode cX3_isRight 5 = .ok (.iload_n 1, 1) := by decide +kernel
theorem dX3_isRight_6 : decode cX3_isRight 6 = .ok (.invokevirtual 187, 3) := by decide +kernel
theorem dX3_isRight_9 : decode cX3_isRight 9 = .ok (.ireturn, 1) := by decide +kernel
theorem dX3_strength_0 : decode cX3_strength 0 = .ok (.iload_n 1, 1) := by decide +kernel
theorem dX3_strength_1 : decode cX3_strength 1 = .ok (.invokestatic 53, 3) := by decide +kernel
theorem dX3_strength_4 : decode cX3_strength 4 = .ok (.aload_n 0, 1) := by decide +kernel
theorem dX3_strength_5 : decode cX3_strength 5 = .ok (.iload_n 1, 1) := by decide +kernel
theorem dX3_strength_6 : decode cX3_strength 6 = .ok (.invokevirtual 190, 3) := by decide +kernel
theorem dX3_strength_9 : decode cX3_strength 9 = .ok (.ireturn, 1) := by decide +kernel
theorem dX3_play_0 : decode cX3_play 0 = .ok (.iload_n 1, 1) := by decide +kernel
theorem dX3_play_1 : decode cX3_play 1 = .ok (.invokestatic 53, 3) := by decide +kernel
theorem dX3_play_4 : decode cX3_play 4 = .ok (.iload_n 2, 1) := by decide +kernel
theorem dX3_play_5 : decode cX3_play 5 = .ok (.invokestatic 53, 3) := by decide +kernel
theorem dX3_play_8 : decode cX3_play 8 = .ok (.iload_n 1, 1) := by decide +kernel
theorem dX3_play_9 : decode cX3_play 9 = .ok (.iload_n 2, 1) := by decide +kernel
theorem dX3_play_10 : decode cX3_play 10 = .ok (.if_icmp .ne 13, 3) := by decide +kernel
theorem dX3_play_13 : decode cX3_play 13 = .ok (.new 150, 3) := by decide +kernel
theorem dX3_play_16 : decode cX3_play 16 = .ok (.dup, 1) := by decide +kernel
theorem dX3_play_17 : decode cX3_play 17 = .ok (.ldc 193, 2) := by decide +kernel
theorem dX3_play_19 : decode cX3_play 19 = .ok (.invokespecial 154, 3) := by decide +kernel
theorem dX3_play_22 : decode cX3_play 22 = .ok (.athrow, 1) := by decide +kernel
theorem dX3_play_23 : decode cX3_play 23 = .ok (.aload_n 0, 1) := by decide +kernel
theorem dX3_play_24 : decode cX3_play 24 = .ok (.iload_n 1, 1) := by decide +kernel
theorem dX3_play_25 : decode cX3_play 25 = .ok (.invokevirtual 187, 3) := by decide +kernel
theorem dX3_play_28 : decode cX3_play 28 = .ok (.ifCond .eq 11, 3) := by decide +kernel
theorem dX3_play_31 : decode cX3_play 31 = .ok (.aload_n 0, 1) := by decide +kernel
theorem dX3_play_32 : decode cX3_play 32 = .ok (.iload_n 2, 1) := by decide +kernel
theorem dX3_play_33 : decode cX3_play 33 = .ok (.invokevirtual 187, 3) := by decide +kernel
theorem dX3_play_36 : decode cX3_play 36 = .ok (.ifCond .ne 13, 3) := by decide +kernel
theorem dX3_play_39 : decode cX3_play 39 = .ok (.new 64, 3) := by decide +kernel
theorem dX3_play_42 : decode cX3_play 42 = .ok (.dup, 1) := by decide +kernel
theorem dX3_play_43 : decode cX3_play 43 = .ok (.ldc 195, 2) := by decide +kernel
theorem dX3_play_45 : decode cX3_play 45 = .ok (.invokespecial 68, 3) := by decide +kernel
theorem dX3_play_48 : decode cX3_play 48 = .ok (.athrow, 1) := by decide +kernel
theorem dX3_play_49 : decode cX3_play 49 = .ok (.aload_n 0, 1) := by decide +kernel
theorem dX3_play_50 : decode cX3_play 50 = .ok (.iload_n 2, 1) := by decide +kernel
theorem dX3_play_51 : decode cX3_play 51 = .ok (.invokevirtual 190, 3) := by decide +kernel
theorem dX3_play_54 : decode cX3_play 54 = .ok (.aload_n 0, 1) := by decide +kernel
theorem dX3_play_55 : decode cX3_play 55 = .ok (.iload_n 1, 1) := by decide +kernel
theorem dX3_play_56 : decode cX3_play 56 = .ok (.invokevirtual 190, 3) := by decide +kernel
theorem dX3_play_59 : decode cX3_play 59 = .ok (.if_icmp .le 7, 3) := by decide +kernel
theorem dX3_play_62 : decode cX3_play 62 = .ok (.iload_n 2, 1) := by decide +kernel
theorem dX3_play_63 : decode cX3_play 63 = .ok (.goto 4, 3) := by decide +kernel
theorem dX3_play_66 : decode cX3_play 66 = .ok (.iload_n 1, 1) := by decide +kernel
theorem dX3_play_67 : decode cX3_play 67 = .ok (.istore_n 3, 1) := by decide +kernel
theorem dX3_play_68 : decode cX3_play 68 = .ok (.aload_n 0, 1) := by decide +kernel
theorem dX3_play_69 : decode cX3_play 69 = .ok (.getfield 30, 3) := by decide +kernel
theorem dX3_play_72 : decode cX3_play 72 = .ok (.iload_n 3, 1) := by decide +kernel
theorem dX3_play_73 : decode cX3_play 73 = .ok (.dup2, 1) := by decide +kernel
theorem dX3_play_74 : decode cX3_play 74 = .ok (.iaload, 1) := by decide +kernel
theorem dX3_play_75 : decode cX3_play 75 = .ok (.iconst 5, 1) := by decide +kernel
theorem dX3_play_76 : decode cX3_play 76 = .ok (.iadd, 1) := by decide +kernel
theorem dX3_play_77 : decode cX3_play 77 = .ok (.iastore, 1) := by decide +kernel
theorem dX3_play_78 : decode cX3_play 78 = .ok (.iload_n 3, 1) := by decide +kernel
theorem dX3_play_79 : decode cX3_play 79 = .ok (.ireturn, 1) := by decide +kernel
theorem dX3_needPlayer_0 : decode cX3_needPlayer 0 = .ok (.iload_n 0, 1) := by decide +kernel
theorem dX3_needPlayer_1 : decode cX3_needPlayer 1 = .ok (.ifCond .lt 8, 3) := by decide +kernel
theorem dX3_needPlayer_4 : decode cX3_needPlayer 4 = .ok (.iload_n 0, 1) := by decide +kernel
theorem dX3_needPlayer_5 : decode cX3_needPlayer 5 = .ok (.iconst 5, 1) := by decide +kernel
theorem dX3_needPlayer_6 : decode cX3_needPlayer 6 = .ok (.if_icmp .lt 13, 3) := by decide +kernel
theorem dX3_needPlayer_9 : decode cX3_needPlayer 9 = .ok (.new 197, 3) := by decide +kernel
theorem dX3_needPlayer_12 : decode cX3_needPlayer 12 = .ok (.dup, 1) := by decide +kernel
theorem dX3_needPlayer_13 : decode cX3_needPlayer 13 = .ok (.ldc 199, 2) := by decide +kernel
theorem dX3_needPlayer_15 : decode cX3_needPlayer 15 = .ok (.invokespecial 201, 3) := by decide +kernel
theorem dX3_needPlayer_18 : decode cX3_needPlayer 18 = .ok (.athrow, 1) := by decide +kernel
theorem dX3_needPlayer_19 : decode cX3_needPlayer 19 = .ok (.return_, 1) := by decide +kernel
theorem dX3_needKind_0 : decode cX3_needKind 0 = .ok (.iload_n 0, 1) := by decide +kernel
theorem dX3_needKind_1 : decode cX3_needKind 1 = .ok (.ifCond .lt 9, 3) := by decide +kernel
theorem dX3_needKind_4 : decode cX3_needKind 4 = .ok (.iload_n 0, 1) := by decide +kernel
theorem dX3_needKind_5 : decode cX3_needKind 5 = .ok (.bipush 8, 2) := by decide +kernel
theorem dX3_needKind_7 : decode cX3_needKind 7 = .ok (.if_icmp .lt 13, 3) := by decide +kernel
theorem dX3_needKind_10 : decode cX3_needKind 10 = .ok (.new 197, 3) := by decide +kernel
theorem dX3_needKind_13 : decode cX3_needKind 13 = .ok (.dup, 1) := by decide +kernel
theorem dX3_needKind_14 : decode cX3_needKind 14 = .ok (.ldc 202, 2) := by decide +kernel
theorem dX3_needKind_16 : decode cX3_needKind 16 = .ok (.invokespecial 201, 3) := by decide +kernel
theorem dX3_needKind_19 : decode cX3_needKind 19 = .ok (.athrow, 1) := by decide +kernel
theorem dX3_needKind_20 : decode cX3_needKind 20 = .ok (.return_, 1) := by decide +kernel
theorem dX3_needCard_0 : decode cX3_needCard 0 = .ok (.aload_n 0, 1) := by decide +kernel
theorem dX3_needCard_1 : decode cX3_needCard 1 = .ok (.getfield 10, 3) := by decide +kernel
theorem dX3_needCard_4 : decode cX3_needCard 4 = .ok (.iload_n 1, 1) := by decide +kernel
theorem dX3_needCard_5 : decode cX3_needCard 5 = .ok (.invokevirtual 204, 3) := by decide +kernel
theorem dX3_needCard_8 : decode cX3_needCard 8 = .ok (.ifCond .ne 13, 3) := by decide +kernel
theorem dX3_needCard_11 : decode cX3_needCard 11 = .ok (.new 197, 3) := by decide +kernel
theorem dX3_needCard_14 : decode cX3_needCard 14 = .ok (.dup, 1) := by decide +kernel
theorem dX3_needCard_15 : decode cX3_needCard 15 = .ok (.ldc 206, 2) := by decide +kernel
theorem dX3_needCard_17 : decode cX3_needCard 17 = .ok (.invokespecial 201, 3) := by decide +kernel
theorem dX3_needCard_20 : decode cX3_needCard 20 = .ok (.athrow, 1) := by decide +kernel
theorem dX3_needCard_21 : decode cX3_needCard 21 = .ok (.return_, 1) := by decide +kernel
theorem dX3_needPrice_0 : decode cX3_needPrice 0 = .ok (.iload_n 0, 1) := by decide +kernel
theorem dX3_needPrice_1 : decode cX3_needPrice 1 = .ok (.iconst 1, 1) := by decide +kernel
theorem dX3_needPrice_2 : decode cX3_needPrice 2 = .ok (.if_icmp .lt 10, 3) := by decide +kernel
theorem dX3_needPrice_5 : decode cX3_needPrice 5 = .ok (.iload_n 0, 1) := by decide +kernel
theorem dX3_needPrice_6 : decode cX3_needPrice 6 = .ok (.sipush 1000, 3) := by decide +kernel
theorem dX3_needPrice_9 : decode cX3_needPrice 9 = .ok (.if_icmp .le 13, 3) := by decide +kernel
theorem dX3_needPrice_12 : decode cX3_needPrice 12 = .ok (.new 150, 3) := by decide +kernel
theorem dX3_needPrice_15 : decode cX3_needPrice 15 = .ok (.dup, 1) := by decide +kernel
theorem dX3_needPrice_16 : decode cX3_needPrice 16 = .ok (.ldc 208, 2) := by decide +kernel
theorem dX3_needPrice_18 : decode cX3_needPrice 18 = .ok (.invokespecial 154, 3) := by decide +kernel
theorem dX3_needPrice_21 : decode cX3_needPrice 21 = .ok (.athrow, 1) := by decide +kernel
theorem dX3_needPrice_22 : decode cX3_needPrice 22 = .ok (.return_, 1) := by decide +kernel
theorem dX3_bannedToday_0 : decode cX3_bannedToday 0 = .ok (.aload_n 0, 1) := by decide +kernel
theorem dX3_bannedToday_1 : decode cX3_bannedToday 1 = .ok (.getfield 40, 3) := by decide +kernel
theorem dX3_bannedToday_4 : decode cX3_bannedToday 4 = .ok (.iload_n 1, 1) := by decide +kernel
theorem dX3_bannedToday_5 : decode cX3_bannedToday 5 = .ok (.iaload, 1) := by decide +kernel
theorem dX3_bannedToday_6 : decode cX3_bannedToday 6 = .ok (.iconst (-1), 1) := by decide +kernel
theorem dX3_bannedToday_7 : decode cX3_bannedToday 7 = .ok (.if_icmp .eq 20, 3) := by decide +kernel
theorem dX3_bannedToday_10 : decode cX3_bannedToday 10 = .ok (.aload_n 0, 1) := by decide +kernel
theorem dX3_bannedToday_11 : decode cX3_bannedToday 11 = .ok (.getfield 40, 3) := by decide +kernel
theorem dX3_bannedToday_14 : decode cX3_bannedToday 14 = .ok (.iload_n 1, 1) := by decide +kernel
theorem dX3_bannedToday_15 : decode cX3_bannedToday 15 = .ok (.iaload, 1) := by decide +kernel
theorem dX3_bannedToday_16 : decode cX3_bannedToday 16 = .ok (.aload_n 0, 1) := by decide +kernel
theorem dX3_bannedToday_17 : decode cX3_bannedToday 17 = .ok (.getfield 50, 3) := by decide +kernel
theorem dX3_bannedToday_20 : decode cX3_bannedToday 20 = .ok (.if_icmp .gt 7, 3) := by decide +kernel
theorem dX3_bannedToday_23 : decode cX3_bannedToday 23 = .ok (.iconst 1, 1) := by decide +kernel
theorem dX3_bannedToday_24 : decode cX3_bannedToday 24 = .ok (.goto 4, 3) := by decide +kernel
theorem dX3_bannedToday_27 : decode cX3_bannedToday 27 = .ok (.iconst 0, 1) := by decide +kernel
theorem dX3_bannedToday_28 : decode cX3_bannedToday 28 = .ok (.ireturn, 1) := by decide +kernel
theorem dX3_giveTo_0 : decode cX3_giveTo 0 = .ok (.aload_n 0, 1) := by decide +kernel
theorem dX3_giveTo_1 : decode cX3_giveTo 1 = .ok (.getfield 10, 3) := by decide +kernel
theorem dX3_giveTo_4 : decode cX3_giveTo 4 = .ok (.getfield 82, 3) := by decide +kernel
theorem dX3_giveTo_7 : decode cX3_giveTo 7 = .ok (.iload_n 1, 1) := by decide +kernel
theorem dX3_giveTo_8 : decode cX3_giveTo 8 = .ok (.iload_n 2, 1) := by decide +kernel
theorem dX3_giveTo_9 : decode cX3_giveTo 9 = .ok (.iastore, 1) := by decide +kernel
theorem dX3_giveTo_10 : decode cX3_giveTo 10 = .ok (.aload_n 0, 1) := by decide +kernel
theorem dX3_giveTo_11 : decode cX3_giveTo 11 = .ok (.getfield 10, 3) := by decide +kernel
theorem dX3_giveTo_14 : decode cX3_giveTo 14 = .ok (.getfield 92, 3) := by decide +kernel
theorem dX3_giveTo_17 : decode cX3_giveTo 17 = .ok (.iload_n 1, 1) := by decide +kernel
theorem dX3_giveTo_18 : decode cX3_giveTo 18 = .ok (.iconst 0, 1) := by decide +kernel
theorem dX3_giveTo_19 : decode cX3_giveTo 19 = .ok (.iastore, 1) := by decide +kernel
theorem dX3_giveTo_20 : decode cX3_giveTo 20 = .ok (.aload_n 0, 1) := by decide +kernel
theorem dX3_giveTo_21 : decode cX3_giveTo 21 = .ok (.getfield 26, 3) := by decide +kernel
theorem dX3_giveTo_24 : decode cX3_giveTo 24 = .ok (.iload_n 1, 1) := by decide +kernel
theorem dX3_giveTo_25 : decode cX3_giveTo 25 = .ok (.iload_n 2, 1) := by decide +kernel
theorem dX3_giveTo_26 : decode cX3_giveTo 26 = .ok (.invokevirtual 75, 3) := by decide +kernel
theorem dX3_giveTo_29 : decode cX3_giveTo 29 = .ok (.return_, 1) := by decide +kernel
theorem dX3_giveBidBack_0 : decode cX3_giveBidBack 0 = .ok (.aload_n 0, 1) := by decide +kernel
theorem dX3_giveBidBack_1 : decode cX3_giveBidBack 1 = .ok (.getfield 19, 3) := by decide +kernel
theorem dX3_giveBidBack_4 : decode cX3_giveBidBack 4 = .ok (.iload_n 1, 1) := by decide +kernel
theorem dX3_giveBidBack_5 : decode cX3_giveBidBack 5 = .ok (.iload_n 2, 1) := by decide +kernel
theorem dX3_giveBidBack_6 : decode cX3_giveBidBack 6 = .ok (.invokevirtual 118, 3) := by decide +kernel
theorem dX3_giveBidBack_9 : decode cX3_giveBidBack 9 = .ok (.istore_n 3, 1) := by decide +kernel
theorem dX3_giveBidBack_10 : decode cX3_giveBidBack 10 = .ok (.aload_n 0, 1) := by decide +kernel
theorem dX3_giveBidBack_11 : decode cX3_giveBidBack 11 = .ok (.getfield 30, 3) := by decide +kernel
theorem dX3_giveBidBack_14 : decode cX3_giveBidBack 14 = .ok (.iload_n 1, 1) := by decide +kernel
theorem dX3_giveBidBack_15 : decode cX3_giveBidBack 15 = .ok (.dup2, 1) := by decide +kernel
theorem dX3_giveBidBack_16 : decode cX3_giveBidBack 16 = .ok (.iaload, 1) := by decide +kernel
theorem dX3_giveBidBack_17 : decode cX3_giveBidBack 17 = .ok (.iload_n 3, 1) := by decide +kernel
theorem dX3_giveBidBack_18 : decode cX3_giveBidBack 18 = .ok (.iadd, 1) := by decide +kernel
theorem dX3_giveBidBack_19 : decode cX3_giveBidBack 19 = .ok (.iastore, 1) := by decide +kernel
theorem dX3_giveBidBack_20 : decode cX3_giveBidBack 20 = .ok (.iload_n 3, 1) := by decide +kernel
theorem dX3_giveBidBack_21 : decode cX3_giveBidBack 21 = .ok (.ireturn, 1) := by decide +kernel
theorem dX3_clearMarket_0 : decode cX3_clearMarket 0 = .ok (.aload_n 0, 1) := by decide +kernel
theorem dX3_clearMarket_1 : decode cX3_clearMarket 1 = .ok (.getfield 10, 3) := by decide +kernel
theorem dX3_clearMarket_4 : decode cX3_clearMarket 4 = .ok (.iload_n 1, 1) := by decide +kernel
theorem dX3_clearMarket_5 : decode cX3_clearMarket 5 = .ok (.invokevirtual 210, 3) := by decide +kernel
theorem dX3_clearMarket_8 : decode cX3_clearMarket 8 = .ok (.istore_n 2, 1) := by decide +kernel
theorem dX3_clearMarket_9 : decode cX3_clearMarket 9 = .ok (.iconst 0, 1) := by decide +kernel
theorem dX3_clearMarket_10 : decode cX3_clearMarket 10 = .ok (.istore_n 3, 1) := by decide +kernel
theorem dX3_clearMarket_11 : decode cX3_clearMarket 11 = .ok (.iload_n 3, 1) := by decide +kernel
theorem dX3_clearMarket_12 : decode cX3_clearMarket 12 = .ok (.iconst 5, 1) := by decide +kernel
theorem dX3_clearMarket_13 : decode cX3_clearMarket 13 = .ok (.if_icmp .ge 31, 3) := by decide +kernel
theorem dX3_clearMarket_16 : decode cX3_clearMarket 16 = .ok (.aload_n 0, 1) := by decide +kernel
theorem dX3_clearMarket_17 : decode cX3_clearMarket 17 = .ok (.getfield 19, 3) := by decide +kernel
theorem dX3_clearMarket_20 : decode cX3_clearMarket 20 = .ok (.iload_n 3, 1) := by decide +kernel
theorem dX3_clearMarket_21 : decode cX3_clearMarket 21 = .ok (.iload_n 1, 1) := by decide +kernel
theorem dX3_clearMarket_22 : decode cX3_clearMarket 22 = .ok (.invokevirtual 124, 3) := by decide +kernel
theorem dX3_clearMarket_25 : decode cX3_clearMarket 25 = .ok (.ifCond .eq 13, 3) := by decide +kernel
theorem dX3_clearMarket_28 : decode cX3_clearMarket 28 = .ok (.aload_n 0, 1) := by decide +kernel
theorem dX3_clearMarket_29 : decode cX3_clearMarket 29 = .ok (.iload_n 3, 1) := by decide +kernel
theorem dX3_clearMarket_30 : decode cX3_clearMarket 30 = .ok (.iload_n 1, 1) := by decide +kernel
theorem dX3_clearMarket_31 : decode cX3_clearMarket 31 = .ok (.invokevirtual 147, 3) := by decide +kernel
theorem dX3_clearMarket_34 : decode cX3_clearMarket 34 = .ok (.pop, 1) := by decide +kernel
theorem dX3_clearMarket_35 : decode cX3_clearMarket 35 = .ok (.iinc 2 1, 3) := by decide +kernel
theorem dX3_clearMarket_38 : decode cX3_clearMarket 38 = .ok (.iinc 3 1, 3) := by decide +kernel
theorem dX3_clearMarket_41 : decode cX3_clearMarket 41 = .ok (.goto (-30), 3) := by decide +kernel
theorem dX3_clearMarket_44 : decode cX3_clearMarket 44 = .ok (.iload_n 2, 1) := by decide +kernel
theorem dX3_clearMarket_45 : decode cX3_clearMarket 45 = .ok (.ireturn, 1) := by decide +kernel
theorem dX3_inDeck_0 : decode cX3_inDeck 0 = .ok (.aload_n 0, 1) := by decide +kernel
theorem dX3_inDeck_1 : decode cX3_inDeck 1 = .ok (.getfield 43, 3) := by decide +kernel
theorem dX3_inDeck_4 : decode cX3_inDeck 4 = .ok (.iload_n 1, 1) := by decide +kernel
theorem dX3_inDeck_5 : decode cX3_inDeck 5 = .ok (.iaload, 1) := by decide +kernel
theorem dX3_inDeck_6 : decode cX3_inDeck 6 = .ok (.iconst 1, 1) := by decide +kernel
theorem dX3_inDeck_7 : decode cX3_inDeck 7 = .ok (.iload_n 2, 1) := by decide +kernel
theorem dX3_inDeck_8 : decode cX3_inDeck 8 = .ok (.ishl, 1) := by decide +kernel
theorem dX3_inDeck_9 : decode cX3_inDeck 9 = .ok (.iand, 1) := by decide +kernel
theorem dX3_inDeck_10 : decode cX3_inDeck 10 = .ok (.ifCond .eq 7, 3) := by decide +kernel
theorem dX3_inDeck_13 : decode cX3_inDeck 13 = .ok (.iconst 1, 1) := by decide +kernel
theorem dX3_inDeck_14 : decode cX3_inDeck 14 = .ok (.goto 4, 3) := by decide +kernel
theorem dX3_inDeck_17 : decode cX3_inDeck 17 = .ok (.iconst 0, 1) := by decide +kernel
theorem dX3_inDeck_18 : decode cX3_inDeck 18 = .ok (.ireturn, 1) := by decide +kernel
theorem dX3_deckIsRight_0 : decode cX3_deckIsRight 0 = .ok (.aload_n 0, 1) := by decide +kernel
theorem dX3_deckIsRight_1 : decode cX3_deckIsRight 1 = .ok (.getfield 43, 3) := by decide +kernel
theorem dX3_deckIsRight_4 : decode cX3_deckIsRight 4 = .ok (.iload_n 1, 1) := by decide +kernel
theorem dX3_deckIsRight_5 : decode cX3_deckIsRight 5 = .ok (.iaload, 1) := by decide +kernel
theorem dX3_deckIsRight_6 : decode cX3_deckIsRight 6 = .ok (.invokestatic 182, 3) := by decide +kernel
theorem dX3_deckIsRight_9 : decode cX3_deckIsRight 9 = .ok (.istore_n 2, 1) := by decide +kernel
theorem dX3_deckIsRight_10 : decode cX3_deckIsRight 10 = .ok (.iload_n 2, 1) := by decide +kernel
theorem dX3_deckIsRight_11 : decode cX3_deckIsRight 11 = .ok (.iconst 1, 1) := by decide +kernel
theorem dX3_deckIsRight_12 : decode cX3_deckIsRight 12 = .ok (.if_icmp .lt 8, 3) := by decide +kernel
theorem dX3_deckIsRight_15 : decode cX3_deckIsRight 15 = .ok (.iload_n 2, 1) := by decide +kernel
theorem dX3_deckIsRight_16 : decode cX3_deckIsRight 16 = .ok (.iconst 5, 1) := by decide +kernel
theorem dX3_deckIsRight_17 : decode cX3_deckIsRight 17 = .ok (.if_icmp .le 5, 3) := by decide +kernel
theorem dX3_deckIsRight_20 : decode cX3_deckIsRight 20 = .ok (.iconst 0, 1) := by decide +kernel
theorem dX3_deckIsRight_21 : decode cX3_deckIsRight 21 = .ok (.ireturn, 1) := by decide +kernel
theorem dX3_deckIsRight_22 : decode cX3_deckIsRight 22 = .ok (.iconst 0, 1) := by decide +kernel
theorem dX3_deckIsRight_23 : decode cX3_deckIsRight 23 = .ok (.istore_n 3, 1) := by decide +kernel
theorem dX3_deckIsRight_24 : decode cX3_deckIsRight 24 = .ok (.iload_n 3, 1) := by decide +kernel
theorem dX3_deckIsRight_25 : decode cX3_deckIsRight 25 = .ok (.aload_n 0, 1) := by decide +kernel
theorem dX3_deckIsRight_26 : decode cX3_deckIsRight 26 = .ok (.getfield 10, 3) := by decide +kernel
theorem dX3_deckIsRight_29 : decode cX3_deckIsRight 29 = .ok (.getfield 213, 3) := by decide +kernel
theorem dX3_deckIsRight_32 : decode cX3_deckIsRight 32 = .ok (.if_icmp .ge 29, 3) := by decide +kernel
theorem dX3_deckIsRight_35 : decode cX3_deckIsRight 35 = .ok (.aload_n 0, 1) := by decide +kernel
theorem dX3_deckIsRight_36 : decode cX3_deckIsRight 36 = .ok (.iload_n 1, 1) := by decide +kernel
theorem dX3_deckIsRight_37 : decode cX3_deckIsRight 37 = .ok (.iload_n 3, 1) := by decide +kernel
theorem dX3_deckIsRight_38 : decode cX3_deckIsRight 38 = .ok (.invokevirtual 216, 3) := by decide +kernel
theorem dX3_deckIsRight_41 : decode cX3_deckIsRight 41 = .ok (.ifCond .eq 14, 3) := by decide +kernel
theorem dX3_deckIsRight_44 : decode cX3_deckIsRight 44 = .ok (.aload_n 0, 1) := by decide +kernel
theorem dX3_deckIsRight_45 : decode cX3_deckIsRight 45 = .ok (.iload_n 1, 1) := by decide +kernel
theorem dX3_deckIsRight_46 : decode cX3_deckIsRight 46 = .ok (.iload_n 3, 1) := by decide +kernel
theorem dX3_deckIsRight_47 : decode cX3_deckIsRight 47 = .ok (.invokevirtual 219, 3) := by decide +kernel
theorem dX3_deckIsRight_50 : decode cX3_deckIsRight 50 = .ok (.ifCond .ne 5, 3) := by decide +kernel
theorem dX3_deckIsRight_53 : decode cX3_deckIsRight 53 = .ok (.iconst 0, 1) := by decide +kernel
theorem dX3_deckIsRight_54 : decode cX3_deckIsRight 54 = .ok (.ireturn, 1) := by decide +kernel
theorem dX3_deckIsRight_55 : decode cX3_deckIsRight 55 = .ok (.iinc 3 1, 3) := by decide +kernel
theorem dX3_deckIsRight_58 : decode cX3_deckIsRight 58 = .ok (.goto (-34), 3) := by decide +kernel
theorem dX3_deckIsRight_61 : decode cX3_deckIsRight 61 = .ok (.iconst 1, 1) := by decide +kernel
theorem dX3_deckIsRight_62 : decode cX3_deckIsRight 62 = .ok (.ireturn, 1) := by decide +kernel
theorem dX3_isPlayable_0 : decode cX3_isPlayable 0 = .ok (.aload_n 0, 1) := by decide +kernel
theorem dX3_isPlayable_1 : decode cX3_isPlayable 1 = .ok (.getfield 10, 3) := by decide +kernel
theorem dX3_isPlayable_4 : decode cX3_isPlayable 4 = .ok (.getfield 92, 3) := by decide +kernel
theorem dX3_isPlayable_7 : decode cX3_isPlayable 7 = .ok (.iload_n 2, 1) := by decide +kernel
theorem dX3_isPlayable_8 : decode cX3_isPlayable 8 = .ok (.iaload, 1) := by decide +kernel
theorem dX3_isPlayable_9 : decode cX3_isPlayable 9 = .ok (.istore_n 3, 1) := by decide +kernel
theorem dX3_isPlayable_10 : decode cX3_isPlayable 10 = .ok (.aload_n 0, 1) := by decide +kernel
theorem dX3_isPlayable_11 : decode cX3_isPlayable 11 = .ok (.getfield 10, 3) := by decide +kernel
theorem dX3_isPlayable_14 : decode cX3_isPlayable 14 = .ok (.iload_n 2, 1) := by decide +kernel
theorem dX3_isPlayable_15 : decode cX3_isPlayable 15 = .ok (.invokevirtual 89, 3) := by decide +kernel
theorem dX3_isPlayable_18 : decode cX3_isPlayable 18 = .ok (.iload_n 1, 1) := by decide +kernel
theorem dX3_isPlayable_19 : decode cX3_isPlayable 19 = .ok (.if_icmp .ne 33, 3) := by decide +kernel
theorem dX3_isPlayable_22 : decode cX3_isPlayable 22 = .ok (.iload_n 3, 1) := by decide +kernel
theorem dX3_isPlayable_23 : decode cX3_isPlayable 23 = .ok (.iconst 1, 1) := by decide +kernel
theorem dX3_isPlayable_24 : decode cX3_isPlayable 24 = .ok (.if_icmp .eq 28, 3) := by decide +kernel
theorem dX3_isPlayable_27 : decode cX3_isPlayable 27 = .ok (.iload_n 3, 1) := by decide +kernel
theorem dX3_isPlayable_28 : decode cX3_isPlayable 28 = .ok (.iconst 2, 1) := by decide +kernel
theorem dX3_isPlayable_29 : decode cX3_isPlayable 29 = .ok (.if_icmp .eq 23, 3) := by decide +kernel
theorem dX3_isPlayable_32 : decode cX3_isPlayable 32 = .ok (.aload_n 0, 1) := by decide +kernel
theorem dX3_isPlayable_33 : decode cX3_isPlayable 33 = .ok (.aload_n 0, 1) := by decide +kernel
theorem dX3_isPlayable_34 : decode cX3_isPlayable 34 = .ok (.getfield 10, 3) := by decide +kernel
theorem dX3_isPlayable_37 : decode cX3_isPlayable 37 = .ok (.getfield 98, 3) := by decide +kernel
theorem dX3_isPlayable_40 : decode cX3_isPlayable 40 = .ok (.iload_n 2, 1) := by decide +kernel
theorem dX3_isPlayable_41 : decode cX3_isPlayable 41 = .ok (.iaload, 1) := by decide +kernel
theorem dX3_isPlayable_42 : decode cX3_isPlayable 42 = .ok (.invokevirtual 101, 3) := by decide +kernel
theorem dX3_isPlayable_45 : decode cX3_isPlayable 45 = .ok (.ifCond .ne 7, 3) := by decide +kernel
theorem dX3_isPlayable_48 : decode cX3_isPlayable 48 = .ok (.iconst 1, 1) := by decide +kernel
theorem dX3_isPlayable_49 : decode cX3_isPlayable 49 = .ok (.goto 4, 3) := by decide +kernel
theorem dX3_isPlayable_52 : decode cX3_isPlayable 52 = .ok (.iconst 0, 1) := by decide +kernel
theorem dX3_isPlayable_53 : decode cX3_isPlayable 53 = .ok (.ireturn, 1) := by decide +kernel
theorem dX3_deckStrength_0 : decode cX3_deckStrength 0 = .ok (.iconst 0, 1) := by decide +kernel
theorem dX3_deckStrength_1 : decode cX3_deckStrength 1 = .ok (.istore_n 2, 1) := by decide +kernel
theorem dX3_deckStrength_2 : decode cX3_deckStrength 2 = .ok (.iconst 0, 1) := by decide +kernel
theorem dX3_deckStrength_3 : decode cX3_deckStrength 3 = .ok (.istore_n 3, 1) := by decide +kernel
theorem dX3_deckStrength_4 : decode cX3_deckStrength 4 = .ok (.iload_n 3, 1) := by decide +kernel
theorem dX3_deckStrength_5 : decode cX3_deckStrength 5 = .ok (.aload_n 0, 1) := by decide +kernel
theorem dX3_deckStrength_6 : decode cX3_deckStrength 6 = .ok (.getfield 10, 3) := by decide +kernel
theorem dX3_deckStrength_9 : decode cX3_deckStrength 9 = .ok (.getfield 213, 3) := by decide +kernel
theorem dX3_deckStrength_12 : decode cX3_deckStrength 12 = .ok (.if_icmp .ge 32, 3) := by decide +kernel
theorem dX3_deckStrength_15 : decode cX3_deckStrength 15 = .ok (.aload_n 0, 1) := by decide +kernel
theorem dX3_deckStrength_16 : decode cX3_deckStrength 16 = .ok (.iload_n 1, 1) := by decide +kernel
theorem dX3_deckStrength_17 : decode cX3_deckStrength 17 = .ok (.iload_n 3, 1) := by decide +kernel
theorem dX3_deckStrength_18 : decode cX3_deckStrength 18 = .ok (.invokevirtual 216, 3) := by decide +kernel
theorem dX3_deckStrength_21 : decode cX3_deckStrength 21 = .ok (.ifCond .eq 17, 3) := by decide +kernel
theorem dX3_deckStrength_24 : decode cX3_deckStrength 24 = .ok (.iload_n 2, 1) := by decide +kernel
theorem dX3_deckStrength_25 : decode cX3_deckStrength 25 = .ok (.aload_n 0, 1) := by decide +kernel
theorem dX3_deckStrength_26 : decode cX3_deckStrength 26 = .ok (.getfield 10, 3) := by decide +kernel
theorem dX3_deckStrength_29 : decode cX3_deckStrength 29 = .ok (.getfield 98, 3) := by decide +kernel
theorem dX3_deckStrength_32 : decode cX3_deckStrength 32 = .ok (.iload_n 3, 1) := by decide +kernel
theorem dX3_deckStrength_33 : decode cX3_deckStrength 33 = .ok (.iaload, 1) := by decide +kernel
theorem dX3_deckStrength_34 : decode cX3_deckStrength 34 = .ok (.iconst 1, 1) := by decide +kernel
theorem dX3_deckStrength_35 : decode cX3_deckStrength 35 = .ok (.iadd, 1) := by decide +kernel
theorem dX3_deckStrength_36 : decode cX3_deckStrength 36 = .ok (.iadd, 1) := by decide +kernel
theorem dX3_deckStrength_37 : decode cX3_deckStrength 37 = .ok (.istore_n 2, 1) := by decide +kernel
theorem dX3_deckStrength_38 : decode cX3_deckStrength 38 = .ok (.iinc 3 1, 3) := by decide +kernel
theorem dX3_deckStrength_41 : decode cX3_deckStrength 41 = .ok (.goto (-37), 3) := by decide +kernel
theorem dX3_deckStrength_44 : decode cX3_deckStrength 44 = .ok (.iload_n 2, 1) := by decide +kernel
theorem dX3_deckStrength_45 : decode cX3_deckStrength 45 = .ok (.ireturn, 1) := by decide +kernel
theorem dX4_init_0 : decode cX4_init 0 = .ok (.aload_n 0, 1) := by decide +kernel
theorem dX4_init_1 : decode cX4_init 1 = .ok (.invokespecial 1, 3) := by decide +kernel
theorem dX4_init_4 : decode cX4_init 4 = .ok (.aload_n 0, 1) := by decide +kernel
theorem dX4_init_5 : decode cX4_init 5 = .ok (.iconst 5, 1) := by decide +kernel
theorem dX4_init_6 : decode cX4_init 6 = .ok (.newarray .int, 2) := by decide +kernel
theorem dX4_init_8 : decode cX4_init 8 = .ok (.putfield 7, 3) := by decide +kernel
theorem dX4_init_11 : decode cX4_init 11 = .ok (.aload_n 0, 1) := by decide +kernel
theorem dX4_init_12 : decode cX4_init 12 = .ok (.bipush 30, 2) := by decide +kernel
theorem dX4_init_14 : decode cX4_init 14 = .ok (.newarray .int, 2) := by decide +kernel
theorem dX4_init_16 : decode cX4_init 16 = .ok (.putfield 13, 3) := by decide +kernel
theorem dX4_init_19 : decode cX4_init 19 = .ok (.aload_n 0, 1) := by decide +kernel
theorem dX4_init_20 : decode cX4_init 20 = .ok (.bipush 30, 2) := by decide +kernel
theorem dX4_init_22 : decode cX4_init 22 = .ok (.newarray .int, 2) := by decide +kernel
theorem dX4_init_24 : decode cX4_init 24 = .ok (.putfield 16, 3) := by decide +kernel
theorem dX4_init_27 : decode cX4_init 27 = .ok (.aload_n 0, 1) := by decide +kernel
theorem dX4_init_28 : decode cX4_init 28 = .ok (.bipush 30, 2) := by decide +kernel
theorem dX4_init_30 : decode cX4_init 30 = .ok (.newarray .int, 2) := by decide +kernel
theorem dX4_init_32 : decode cX4_init 32 = .ok (.putfield 19, 3) := by decide +kernel
theorem dX4_init_35 : decode cX4_init 35 = .ok (.aload_n 0, 1) := by decide +kernel
theorem dX4_init_36 : decode cX4_init 36 = .ok (.bipush 30, 2) := by decide +kernel
theorem dX4_init_38 : decode cX4_init 38 = .ok (.newarray .int, 2) := by decide +kernel
theorem dX4_init_40 : decode cX4_init 40 = .ok (.putfield 22, 3) := by decide +kernel
theorem dX4_init_43 : decode cX4_init 43 = .ok (.aload_n 0, 1) := by decide +kernel
theorem dX4_init_44 : decode cX4_init 44 = .ok (.bipush 30, 2) := by decide +kernel
theorem dX4_init_46 : decode cX4_init 46 = .ok (.newarray .int, 2) := by decide +kernel
theorem dX4_init_48 : decode cX4_init 48 = .ok (.putfield 25, 3) := by decide +kernel
theorem dX4_init_51 : decode cX4_init 51 = .ok (.aload_n 0, 1) := by decide +kernel
theorem dX4_init_52 : decode cX4_init 52 = .ok (.bipush 30, 2) := by decide +kernel
theorem dX4_init_54 : decode cX4_init 54 = .ok (.newarray .int, 2) := by decide +kernel
theorem dX4_init_56 : decode cX4_init 56 = .ok (.putfield 28, 3) := by decide +kernel
theorem dX4_init_59 : decode cX4_init 59 = .ok (.aload_n 0, 1) := by decide +kernel
theorem dX4_init_60 : decode cX4_init 60 = .ok (.bipush 30, 2) := by decide +kernel
theorem dX4_init_62 : decode cX4_init 62 = .ok (.newarray .int, 2) := by decide +kernel
theorem dX4_init_64 : decode cX4_init 64 = .ok (.putfield 31, 3) := by decide +kernel
theorem dX4_init_67 : decode cX4_init 67 = .ok (.aload_n 0, 1) := by decide +kernel
theorem dX4_init_68 : decode cX4_init 68 = .ok (.bipush 30, 2) := by decide +kernel
theorem dX4_init_70 : decode cX4_init 70 = .ok (.newarray .int, 2) := by decide +kernel
theorem dX4_init_72 : decode cX4_init 72 = .ok (.putfield 34, 3) := by decide +kernel
theorem dX4_init_75 : decode cX4_init 75 = .ok (.aload_n 0, 1) := by decide +kernel
theorem dX4_init_76 : decode cX4_init 76 = .ok (.bipush 40, 2) := by decide +kernel
theorem dX4_init_78 : decode cX4_init 78 = .ok (.newarray .int, 2) := by decide +kernel
theorem dX4_init_80 : decode cX4_init 80 = .ok (.putfield 37, 3) := by decide +kernel
theorem dX4_init_83 : decode cX4_init 83 = .ok (.aload_n 0, 1) := by decide +kernel
theorem dX4_init_84 : decode cX4_init 84 = .ok (.bipush 40, 2) := by decide +kernel
