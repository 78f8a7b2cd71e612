theorem dX0_init_0 : decode cX0_init 0 = .ok (.aload_n 0, 1) := by decide +kernel
theorem dX0_init_1 : decode cX0_init 1 = .ok (.invokespecial 3, 3) := by decide +kernel
theorem dX0_init_4 : decode cX0_init 4 = .ok (.aload_n 0, 1) := by decide +kernel
theorem dX0_init_5 : decode cX0_init 5 = .ok (.bipush 12, 2) := by decide +kernel
theorem dX0_init_7 : decode cX0_init 7 = .ok (.newarray .int, 2) := by decide +kernel
theorem dX0_init_9 : decode cX0_init 9 = .ok (.putfield 9, 3) := by decide +kernel
theorem dX0_init_12 : decode cX0_init 12 = .ok (.aload_n 0, 1) := by decide +kernel
theorem dX0_init_13 : decode cX0_init 13 = .ok (.bipush 12, 2) := by decide +kernel
theorem dX0_init_15 : decode cX0_init 15 = .ok (.newarray .int, 2) := by decide +kernel
theorem dX0_init_17 : decode cX0_init 17 = .ok (.putfield 15, 3) := by decide +kernel
theorem dX0_init_20 : decode cX0_init 20 = .ok (.aload_n 0, 1) := by decide +kernel
theorem dX0_init_21 : decode cX0_init 21 = .ok (.iconst 0, 1) := by decide +kernel
theorem dX0_init_22 : decode cX0_init 22 = .ok (.putfield 18, 3) := by decide +kernel
theorem dX0_init_25 : decode cX0_init 25 = .ok (.aload_n 0, 1) := by decide +kernel
theorem dX0_init_26 : decode cX0_init 26 = .ok (.iconst 0, 1) := by decide +kernel
theorem dX0_init_27 : decode cX0_init 27 = .ok (.putfield 22, 3) := by decide +kernel
theorem dX0_init_30 : decode cX0_init 30 = .ok (.return_, 1) := by decide +kernel
theorem dX0_more_0 : decode cX0_more 0 = .ok (.aload_n 0, 1) := by decide +kernel
theorem dX0_more_1 : decode cX0_more 1 = .ok (.getfield 18, 3) := by decide +kernel
theorem dX0_more_4 : decode cX0_more 4 = .ok (.bipush 12, 2) := by decide +kernel
theorem dX0_more_6 : decode cX0_more 6 = .ok (.if_icmp .lt 5, 3) := by decide +kernel
theorem dX0_more_9 : decode cX0_more 9 = .ok (.iconst (-1), 1) := by decide +kernel
theorem dX0_more_10 : decode cX0_more 10 = .ok (.ireturn, 1) := by decide +kernel
theorem dX0_more_11 : decode cX0_more 11 = .ok (.aload_n 0, 1) := by decide +kernel
theorem dX0_more_12 : decode cX0_more 12 = .ok (.getfield 9, 3) := by decide +kernel
theorem dX0_more_15 : decode cX0_more 15 = .ok (.aload_n 0, 1) := by decide +kernel
theorem dX0_more_16 : decode cX0_more 16 = .ok (.getfield 18, 3) := by decide +kernel
theorem dX0_more_19 : decode cX0_more 19 = .ok (.iload_n 1, 1) := by decide +kernel
theorem dX0_more_20 : decode cX0_more 20 = .ok (.iastore, 1) := by decide +kernel
theorem dX0_more_21 : decode cX0_more 21 = .ok (.aload_n 0, 1) := by decide +kernel
theorem dX0_more_22 : decode cX0_more 22 = .ok (.getfield 15, 3) := by decide +kernel
theorem dX0_more_25 : decode cX0_more 25 = .ok (.aload_n 0, 1) := by decide +kernel
theorem dX0_more_26 : decode cX0_more 26 = .ok (.getfield 18, 3) := by decide +kernel
theorem dX0_more_29 : decode cX0_more 29 = .ok (.iload_n 2, 1) := by decide +kernel
theorem dX0_more_30 : decode cX0_more 30 = .ok (.iastore, 1) := by decide +kernel
theorem dX0_more_31 : decode cX0_more 31 = .ok (.aload_n 0, 1) := by decide +kernel
theorem dX0_more_32 : decode cX0_more 32 = .ok (.dup, 1) := by decide +kernel
theorem dX0_more_33 : decode cX0_more 33 = .ok (.getfield 22, 3) := by decide +kernel
theorem dX0_more_36 : decode cX0_more 36 = .ok (.iload_n 2, 1) := by decide +kernel
theorem dX0_more_37 : decode cX0_more 37 = .ok (.iadd, 1) := by decide +kernel
theorem dX0_more_38 : decode cX0_more 38 = .ok (.putfield 22, 3) := by decide +kernel
theorem dX0_more_41 : decode cX0_more 41 = .ok (.aload_n 0, 1) := by decide +kernel
theorem dX0_more_42 : decode cX0_more 42 = .ok (.dup, 1) := by decide +kernel
theorem dX0_more_43 : decode cX0_more 43 = .ok (.getfield 18, 3) := by decide +kernel
theorem dX0_more_46 : decode cX0_more 46 = .ok (.iconst 1, 1) := by decide +kernel
theorem dX0_more_47 : decode cX0_more 47 = .ok (.iadd, 1) := by decide +kernel
theorem dX0_more_48 : decode cX0_more 48 = .ok (.putfield 18, 3) := by decide +kernel
theorem dX0_more_51 : decode cX0_more 51 = .ok (.aload_n 0, 1) := by decide +kernel
theorem dX0_more_52 : decode cX0_more 52 = .ok (.getfield 18, 3) := by decide +kernel
theorem dX0_more_55 : decode cX0_more 55 = .ok (.ireturn, 1) := by decide +kernel
theorem dX0_forget_0 : decode cX0_forget 0 = .ok (.aload_n 0, 1) := by decide +kernel
theorem dX0_forget_1 : decode cX0_forget 1 = .ok (.getfield 18, 3) := by decide +kernel
theorem dX0_forget_4 : decode cX0_forget 4 = .ok (.istore_n 1, 1) := by decide +kernel
theorem dX0_forget_5 : decode cX0_forget 5 = .ok (.aload_n 0, 1) := by decide +kernel
theorem dX0_forget_6 : decode cX0_forget 6 = .ok (.iconst 0, 1) := by decide +kernel
theorem dX0_forget_7 : decode cX0_forget 7 = .ok (.putfield 18, 3) := by decide +kernel
theorem dX0_forget_10 : decode cX0_forget 10 = .ok (.aload_n 0, 1) := by decide +kernel
theorem dX0_forget_11 : decode cX0_forget 11 = .ok (.iconst 0, 1) := by decide +kernel
theorem dX0_forget_12 : decode cX0_forget 12 = .ok (.putfield 22, 3) := by decide +kernel
theorem dX0_forget_15 : decode cX0_forget 15 = .ok (.iload_n 1, 1) := by decide +kernel
theorem dX0_forget_16 : decode cX0_forget 16 = .ok (.ireturn, 1) := by decide +kernel
theorem dX0_leftOf_0 : decode cX0_leftOf 0 = .ok (.iconst 0, 1) := by decide +kernel
theorem dX0_leftOf_1 : decode cX0_leftOf 1 = .ok (.istore_n 2, 1) := by decide +kernel
theorem dX0_leftOf_2 : decode cX0_leftOf 2 = .ok (.iconst 0, 1) := by decide +kernel
theorem dX0_leftOf_3 : decode cX0_leftOf 3 = .ok (.istore_n 3, 1) := by decide +kernel
theorem dX0_leftOf_4 : decode cX0_leftOf 4 = .ok (.iload_n 3, 1) := by decide +kernel
theorem dX0_leftOf_5 : decode cX0_leftOf 5 = .ok (.aload_n 0, 1) := by decide +kernel
theorem dX0_leftOf_6 : decode cX0_leftOf 6 = .ok (.getfield 18, 3) := by decide +kernel
theorem dX0_leftOf_9 : decode cX0_leftOf 9 = .ok (.if_icmp .ge 31, 3) := by decide +kernel
theorem dX0_leftOf_12 : decode cX0_leftOf 12 = .ok (.iload_n 2, 1) := by decide +kernel
theorem dX0_leftOf_13 : decode cX0_leftOf 13 = .ok (.aload_n 0, 1) := by decide +kernel
theorem dX0_leftOf_14 : decode cX0_leftOf 14 = .ok (.getfield 15, 3) := by decide +kernel
theorem dX0_leftOf_17 : decode cX0_leftOf 17 = .ok (.iload_n 3, 1) := by decide +kernel
theorem dX0_leftOf_18 : decode cX0_leftOf 18 = .ok (.iaload, 1) := by decide +kernel
theorem dX0_leftOf_19 : decode cX0_leftOf 19 = .ok (.iconst 0, 1) := by decide +kernel
theorem dX0_leftOf_20 : decode cX0_leftOf 20 = .ok (.iload_n 1, 1) := by decide +kernel
theorem dX0_leftOf_21 : decode cX0_leftOf 21 = .ok (.aload_n 0, 1) := by decide +kernel
theorem dX0_leftOf_22 : decode cX0_leftOf 22 = .ok (.getfield 9, 3) := by decide +kernel
theorem dX0_leftOf_25 : decode cX0_leftOf 25 = .ok (.iload_n 3, 1) := by decide +kernel
theorem dX0_leftOf_26 : decode cX0_leftOf 26 = .ok (.iaload, 1) := by decide +kernel
theorem dX0_leftOf_27 : decode cX0_leftOf 27 = .ok (.isub, 1) := by decide +kernel
theorem dX0_leftOf_28 : decode cX0_leftOf 28 = .ok (.invokestatic 25, 3) := by decide +kernel
theorem dX0_leftOf_31 : decode cX0_leftOf 31 = .ok (.imul, 1) := by decide +kernel
theorem dX0_leftOf_32 : decode cX0_leftOf 32 = .ok (.iadd, 1) := by decide +kernel
theorem dX0_leftOf_33 : decode cX0_leftOf 33 = .ok (.istore_n 2, 1) := by decide +kernel
theorem dX0_leftOf_34 : decode cX0_leftOf 34 = .ok (.iinc 3 1, 3) := by decide +kernel
theorem dX0_leftOf_37 : decode cX0_leftOf 37 = .ok (.goto (-33), 3) := by decide +kernel
theorem dX0_leftOf_40 : decode cX0_leftOf 40 = .ok (.iload_n 2, 1) := by decide +kernel
theorem dX0_leftOf_41 : decode cX0_leftOf 41 = .ok (.ireturn, 1) := by decide +kernel
theorem dX0_expected_0 : decode cX0_expected 0 = .ok (.aload_n 0, 1) := by decide +kernel
theorem dX0_expected_1 : decode cX0_expected 1 = .ok (.iload 4, 2) := by decide +kernel
theorem dX0_expected_3 : decode cX0_expected 3 = .ok (.invokevirtual 31, 3) := by decide +kernel
theorem dX0_expected_6 : decode cX0_expected 6 = .ok (.istore 5, 2) := by decide +kernel
theorem dX0_expected_8 : decode cX0_expected 8 = .ok (.iload 4, 2) := by decide +kernel
theorem dX0_expected_10 : decode cX0_expected 10 = .ok (.aload_n 0, 1) := by decide +kernel
theorem dX0_expected_11 : decode cX0_expected 11 = .ok (.getfield 22, 3) := by decide +kernel
theorem dX0_expected_14 : decode cX0_expected 14 = .ok (.imul, 1) := by decide +kernel
theorem dX0_expected_15 : decode cX0_expected 15 = .ok (.iload 5, 2) := by decide +kernel
theorem dX0_expected_17 : decode cX0_expected 17 = .ok (.isub, 1) := by decide +kernel
theorem dX0_expected_18 : decode cX0_expected 18 = .ok (.istore 6, 2) := by decide +kernel
theorem dX0_expected_20 : decode cX0_expected 20 = .ok (.iload_n 1, 1) := by decide +kernel
theorem dX0_expected_21 : decode cX0_expected 21 = .ok (.iload 6, 2) := by decide +kernel
theorem dX0_expected_23 : decode cX0_expected 23 = .ok (.imul, 1) := by decide +kernel
theorem dX0_expected_24 : decode cX0_expected 24 = .ok (.iload_n 3, 1) := by decide +kernel
theorem dX0_expected_25 : decode cX0_expected 25 = .ok (.iload 5, 2) := by decide +kernel
theorem dX0_expected_27 : decode cX0_expected 27 = .ok (.imul, 1) := by decide +kernel
theorem dX0_expected_28 : decode cX0_expected 28 = .ok (.iadd, 1) := by decide +kernel
theorem dX0_expected_29 : decode cX0_expected 29 = .ok (.iload_n 2, 1) := by decide +kernel
theorem dX0_expected_30 : decode cX0_expected 30 = .ok (.iload 4, 2) := by decide +kernel
theorem dX0_expected_32 : decode cX0_expected 32 = .ok (.imul, 1) := by decide +kernel
theorem dX0_expected_33 : decode cX0_expected 33 = .ok (.aload_n 0, 1) := by decide +kernel
theorem dX0_expected_34 : decode cX0_expected 34 = .ok (.getfield 22, 3) := by decide +kernel
theorem dX0_expected_37 : decode cX0_expected 37 = .ok (.imul, 1) := by decide +kernel
theorem dX0_expected_38 : decode cX0_expected 38 = .ok (.isub, 1) := by decide +kernel
theorem dX0_expected_39 : decode cX0_expected 39 = .ok (.ireturn, 1) := by decide +kernel
theorem dX0_bestStock_0 : decode cX0_bestStock 0 = .ok (.iconst 0, 1) := by decide +kernel
theorem dX0_bestStock_1 : decode cX0_bestStock 1 = .ok (.istore 4, 2) := by decide +kernel
theorem dX0_bestStock_3 : decode cX0_bestStock 3 = .ok (.aload_n 0, 1) := by decide +kernel
theorem dX0_bestStock_4 : decode cX0_bestStock 4 = .ok (.iload_n 1, 1) := by decide +kernel
theorem dX0_bestStock_5 : decode cX0_bestStock 5 = .ok (.iload_n 2, 1) := by decide +kernel
theorem dX0_bestStock_6 : decode cX0_bestStock 6 = .ok (.iload_n 3, 1) := by decide +kernel
theorem dX0_bestStock_7 : decode cX0_bestStock 7 = .ok (.iconst 0, 1) := by decide +kernel
theorem dX0_bestStock_8 : decode cX0_bestStock 8 = .ok (.invokevirtual 35, 3) := by decide +kernel
theorem dX0_bestStock_11 : decode cX0_bestStock 11 = .ok (.istore 5, 2) := by decide +kernel
theorem dX0_bestStock_13 : decode cX0_bestStock 13 = .ok (.iconst 1, 1) := by decide +kernel
theorem dX0_bestStock_14 : decode cX0_bestStock 14 = .ok (.istore 6, 2) := by decide +kernel
theorem dX0_bestStock_16 : decode cX0_bestStock 16 = .ok (.iload 6, 2) := by decide +kernel
theorem dX0_bestStock_18 : decode cX0_bestStock 18 = .ok (.bipush 60, 2) := by decide +kernel
theorem dX0_bestStock_20 : decode cX0_bestStock 20 = .ok (.if_icmp .gt 35, 3) := by decide +kernel
theorem dX0_bestStock_23 : decode cX0_bestStock 23 = .ok (.aload_n 0, 1) := by decide +kernel
theorem dX0_bestStock_24 : decode cX0_bestStock 24 = .ok (.iload_n 1, 1) := by decide +kernel
theorem dX0_bestStock_25 : decode cX0_bestStock 25 = .ok (.iload_n 2, 1) := by decide +kernel
theorem dX0_bestStock_26 : decode cX0_bestStock 26 = .ok (.iload_n 3, 1) := by decide +kernel
theorem dX0_bestStock_27 : decode cX0_bestStock 27 = .ok (.iload 6, 2) := by decide +kernel
theorem dX0_bestStock_29 : decode cX0_bestStock 29 = .ok (.invokevirtual 35, 3) := by decide +kernel
theorem dX0_bestStock_32 : decode cX0_bestStock 32 = .ok (.istore 7, 2) := by decide +kernel
theorem dX0_bestStock_34 : decode cX0_bestStock 34 = .ok (.iload 7, 2) := by decide +kernel
theorem dX0_bestStock_36 : decode cX0_bestStock 36 = .ok (.iload 5, 2) := by decide +kernel
theorem dX0_bestStock_38 : decode cX0_bestStock 38 = .ok (.if_icmp .le 11, 3) := by decide +kernel
theorem dX0_bestStock_41 : decode cX0_bestStock 41 = .ok (.iload 7, 2) := by decide +kernel
theorem dX0_bestStock_43 : decode cX0_bestStock 43 = .ok (.istore 5, 2) := by decide +kernel
theorem dX0_bestStock_45 : decode cX0_bestStock 45 = .ok (.iload 6, 2) := by decide +kernel
theorem dX0_bestStock_47 : decode cX0_bestStock 47 = .ok (.istore 4, 2) := by decide +kernel
theorem dX0_bestStock_49 : decode cX0_bestStock 49 = .ok (.iinc 6 1, 3) := by decide +kernel
theorem dX0_bestStock_52 : decode cX0_bestStock 52 = .ok (.goto (-36), 3) := by decide +kernel
theorem dX0_bestStock_55 : decode cX0_bestStock 55 = .ok (.iload 4, 2) := by decide +kernel
theorem dX0_bestStock_57 : decode cX0_bestStock 57 = .ok (.ireturn, 1) := by decide +kernel
theorem dX0_sellerExpects_0 : decode cX0_sellerExpects 0 = .ok (.aload_n 0, 1) := by decide +kernel
theorem dX0_sellerExpects_1 : decode cX0_sellerExpects 1 = .ok (.iload_n 1, 1) := by decide +kernel
theorem dX0_sellerExpects_2 : decode cX0_sellerExpects 2 = .ok (.iload_n 2, 1) := by decide +kernel
theorem dX0_sellerExpects_3 : decode cX0_sellerExpects 3 = .ok (.iload 4, 2) := by decide +kernel
theorem dX0_sellerExpects_5 : decode cX0_sellerExpects 5 = .ok (.invokevirtual 39, 3) := by decide +kernel
theorem dX0_sellerExpects_8 : decode cX0_sellerExpects 8 = .ok (.istore 5, 2) := by decide +kernel
theorem dX0_sellerExpects_10 : decode cX0_sellerExpects 10 = .ok (.iload_n 2, 1) := by decide +kernel
theorem dX0_sellerExpects_11 : decode cX0_sellerExpects 11 = .ok (.iload_n 3, 1) := by decide +kernel
theorem dX0_sellerExpects_12 : decode cX0_sellerExpects 12 = .ok (.isub, 1) := by decide +kernel
theorem dX0_sellerExpects_13 : decode cX0_sellerExpects 13 = .ok (.iload 5, 2) := by decide +kernel
theorem dX0_sellerExpects_15 : decode cX0_sellerExpects 15 = .ok (.imul, 1) := by decide +kernel
theorem dX0_sellerExpects_16 : decode cX0_sellerExpects 16 = .ok (.aload_n 0, 1) := by decide +kernel
theorem dX0_sellerExpects_17 : decode cX0_sellerExpects 17 = .ok (.getfield 22, 3) := by decide +kernel
theorem dX0_sellerExpects_20 : decode cX0_sellerExpects 20 = .ok (.imul, 1) := by decide +kernel
theorem dX0_sellerExpects_21 : decode cX0_sellerExpects 21 = .ok (.iload 4, 2) := by decide +kernel
theorem dX0_sellerExpects_23 : decode cX0_sellerExpects 23 = .ok (.aload_n 0, 1) := by decide +kernel
theorem dX0_sellerExpects_24 : decode cX0_sellerExpects 24 = .ok (.iload 5, 2) := by decide +kernel
theorem dX0_sellerExpects_26 : decode cX0_sellerExpects 26 = .ok (.invokevirtual 31, 3) := by decide +kernel
theorem dX0_sellerExpects_29 : decode cX0_sellerExpects 29 = .ok (.imul, 1) := by decide +kernel
theorem dX0_sellerExpects_30 : decode cX0_sellerExpects 30 = .ok (.isub, 1) := by decide +kernel
theorem dX0_sellerExpects_31 : decode cX0_sellerExpects 31 = .ok (.ireturn, 1) := by decide +kernel
theorem dX0_bestBack_0 : decode cX0_bestBack 0 = .ok (.iconst 0, 1) := by decide +kernel
theorem dX0_bestBack_1 : decode cX0_bestBack 1 = .ok (.istore 4, 2) := by decide +kernel
theorem dX0_bestBack_3 : decode cX0_bestBack 3 = .ok (.aload_n 0, 1) := by decide +kernel
theorem dX0_bestBack_4 : decode cX0_bestBack 4 = .ok (.iload_n 1, 1) := by decide +kernel
theorem dX0_bestBack_5 : decode cX0_bestBack 5 = .ok (.iload_n 2, 1) := by decide +kernel
theorem dX0_bestBack_6 : decode cX0_bestBack 6 = .ok (.iload_n 3, 1) := by decide +kernel
theorem dX0_bestBack_7 : decode cX0_bestBack 7 = .ok (.iconst 0, 1) := by decide +kernel
theorem dX0_bestBack_8 : decode cX0_bestBack 8 = .ok (.invokevirtual 43, 3) := by decide +kernel
theorem dX0_bestBack_11 : decode cX0_bestBack 11 = .ok (.istore 5, 2) := by decide +kernel
theorem dX0_bestBack_13 : decode cX0_bestBack 13 = .ok (.iconst 1, 1) := by decide +kernel
theorem dX0_bestBack_14 : decode cX0_bestBack 14 = .ok (.istore 6, 2) := by decide +kernel
theorem dX0_bestBack_16 : decode cX0_bestBack 16 = .ok (.iload 6, 2) := by decide +kernel
theorem dX0_bestBack_18 : decode cX0_bestBack 18 = .ok (.iload_n 2, 1) := by decide +kernel
theorem dX0_bestBack_19 : decode cX0_bestBack 19 = .ok (.if_icmp .gt 35, 3) := by decide +kernel
theorem dX0_bestBack_22 : decode cX0_bestBack 22 = .ok (.aload_n 0, 1) := by decide +kernel
theorem dX0_bestBack_23 : decode cX0_bestBack 23 = .ok (.iload_n 1, 1) := by decide +kernel
theorem dX0_bestBack_24 : decode cX0_bestBack 24 = .ok (.iload_n 2, 1) := by decide +kernel
theorem dX0_bestBack_25 : decode cX0_bestBack 25 = .ok (.iload_n 3, 1) := by decide +kernel
theorem dX0_bestBack_26 : decode cX0_bestBack 26 = .ok (.iload 6, 2) := by decide +kernel
theorem dX0_bestBack_28 : decode cX0_bestBack 28 = .ok (.invokevirtual 43, 3) := by decide +kernel
theorem dX0_bestBack_31 : decode cX0_bestBack 31 = .ok (.istore 7, 2) := by decide +kernel
theorem dX0_bestBack_33 : decode cX0_bestBack 33 = .ok (.iload 7, 2) := by decide +kernel
theorem dX0_bestBack_35 : decode cX0_bestBack 35 = .ok (.iload 5, 2) := by decide +kernel
theorem dX0_bestBack_37 : decode cX0_bestBack 37 = .ok (.if_icmp .le 11, 3) := by decide +kernel
theorem dX0_bestBack_40 : decode cX0_bestBack 40 = .ok (.iload 7, 2) := by decide +kernel
theorem dX0_bestBack_42 : decode cX0_bestBack 42 = .ok (.istore 5, 2) := by decide +kernel
theorem dX0_bestBack_44 : decode cX0_bestBack 44 = .ok (.iload 6, 2) := by decide +kernel
theorem dX0_bestBack_46 : decode cX0_bestBack 46 = .ok (.istore 4, 2) := by decide +kernel
theorem dX0_bestBack_48 : decode cX0_bestBack 48 = .ok (.iinc 6 1, 3) := by decide +kernel
theorem dX0_bestBack_51 : decode cX0_bestBack 51 = .ok (.goto (-35), 3) := by decide +kernel
theorem dX0_bestBack_54 : decode cX0_bestBack 54 = .ok (.iload 4, 2) := by decide +kernel
theorem dX0_bestBack_56 : decode cX0_bestBack 56 = .ok (.ireturn, 1) := by decide +kernel
theorem dX1_init_0 : decode cX1_init 0 = .ok (.aload_n 0, 1) := by decide +kernel
theorem dX1_init_1 : decode cX1_init 1 = .ok (.invokespecial 3, 3) := by decide +kernel
theorem dX1_init_4 : decode cX1_init 4 = .ok (.aload_n 0, 1) := by decide +kernel
theorem dX1_init_5 : decode cX1_init 5 = .ok (.bipush 42, 2) := by decide +kernel
theorem dX1_init_7 : decode cX1_init 7 = .ok (.newarray .int, 2) := by decide +kernel
theorem dX1_init_9 : decode cX1_init 9 = .ok (.putfield 9, 3) := by decide +kernel
theorem dX1_init_12 : decode cX1_init 12 = .ok (.aload_n 0, 1) := by decide +kernel
theorem dX1_init_13 : decode cX1_init 13 = .ok (.bipush 42, 2) := by decide +kernel
theorem dX1_init_15 : decode cX1_init 15 = .ok (.newarray .int, 2) := by decide +kernel
theorem dX1_init_17 : decode cX1_init 17 = .ok (.putfield 15, 3) := by decide +kernel
theorem dX1_init_20 : decode cX1_init 20 = .ok (.aload_n 0, 1) := by decide +kernel
theorem dX1_init_21 : decode cX1_init 21 = .ok (.bipush 42, 2) := by decide +kernel
theorem dX1_init_23 : decode cX1_init 23 = .ok (.newarray .int, 2) := by decide +kernel
theorem dX1_init_25 : decode cX1_init 25 = .ok (.putfield 18, 3) := by decide +kernel
theorem dX1_init_28 : decode cX1_init 28 = .ok (.aload_n 0, 1) := by decide +kernel
theorem dX1_init_29 : decode cX1_init 29 = .ok (.bipush 42, 2) := by decide +kernel
theorem dX1_init_31 : decode cX1_init 31 = .ok (.newarray .int, 2) := by decide +kernel
theorem dX1_init_33 : decode cX1_init 33 = .ok (.putfield 21, 3) := by decide +kernel
theorem dX1_init_36 : decode cX1_init 36 = .ok (.aload_n 0, 1) := by decide +kernel
theorem dX1_init_37 : decode cX1_init 37 = .ok (.bipush 42, 2) := by decide +kernel
theorem dX1_init_39 : decode cX1_init 39 = .ok (.newarray .int, 2) := by decide +kernel
theorem dX1_init_41 : decode cX1_init 41 = .ok (.putfield 24, 3) := by decide +kernel
theorem dX1_init_44 : decode cX1_init 44 = .ok (.aload_n 0, 1) := by decide +kernel
theorem dX1_init_45 : decode cX1_init 45 = .ok (.bipush 42, 2) := by decide +kernel
theorem dX1_init_47 : decode cX1_init 47 = .ok (.newarray .int, 2) := by decide +kernel
theorem dX1_init_49 : decode cX1_init 49 = .ok (.putfield 27, 3) := by decide +kernel
theorem dX1_init_52 : decode cX1_init 52 = .ok (.return_, 1) := by decide +kernel
theorem dX1_setShops_0 : decode cX1_setShops 0 = .ok (.iconst 0, 1) := by decide +kernel
theorem dX1_setShops_1 : decode cX1_setShops 1 = .ok (.istore 5, 2) := by decide +kernel
theorem dX1_setShops_3 : decode cX1_setShops 3 = .ok (.iload 5, 2) := by decide +kernel
theorem dX1_setShops_5 : decode cX1_setShops 5 = .ok (.bipush 41, 2) := by decide +kernel
theorem dX1_setShops_7 : decode cX1_setShops 7 = .ok (.if_icmp .gt 82, 3) := by decide +kernel
theorem dX1_setShops_10 : decode cX1_setShops 10 = .ok (.aload_n 1, 1) := by decide +kernel
theorem dX1_setShops_11 : decode cX1_setShops 11 = .ok (.iload 5, 2) := by decide +kernel
theorem dX1_setShops_13 : decode cX1_setShops 13 = .ok (.iaload, 1) := by decide +kernel
theorem dX1_setShops_14 : decode cX1_setShops 14 = .ok (.aload_n 2, 1) := by decide +kernel
theorem dX1_setShops_15 : decode cX1_setShops 15 = .ok (.iload 5, 2) := by decide +kernel
theorem dX1_setShops_17 : decode cX1_setShops 17 = .ok (.iaload, 1) := by decide +kernel
theorem dX1_setShops_18 : decode cX1_setShops 18 = .ok (.iadd, 1) := by decide +kernel
theorem dX1_setShops_19 : decode cX1_setShops 19 = .ok (.istore 6, 2) := by decide +kernel
theorem dX1_setShops_21 : decode cX1_setShops 21 = .ok (.aload_n 0, 1) := by decide +kernel
theorem dX1_setShops_22 : decode cX1_setShops 22 = .ok (.getfield 9, 3) := by decide +kernel
theorem dX1_setShops_25 : decode cX1_setShops 25 = .ok (.iload 5, 2) := by decide +kernel
theorem dX1_setShops_27 : decode cX1_setShops 27 = .ok (.iload 5, 2) := by decide +kernel
theorem dX1_setShops_29 : decode cX1_setShops 29 = .ok (.iload_n 3, 1) := by decide +kernel
theorem dX1_setShops_30 : decode cX1_setShops 30 = .ok (.isub, 1) := by decide +kernel
theorem dX1_setShops_31 : decode cX1_setShops 31 = .ok (.iload 6, 2) := by decide +kernel
theorem dX1_setShops_33 : decode cX1_setShops 33 = .ok (.imul, 1) := by decide +kernel
theorem dX1_setShops_34 : decode cX1_setShops 34 = .ok (.iastore, 1) := by decide +kernel
theorem dX1_setShops_35 : decode cX1_setShops 35 = .ok (.aload_n 0, 1) := by decide +kernel
theorem dX1_setShops_36 : decode cX1_setShops 36 = .ok (.getfield 15, 3) := by decide +kernel
theorem dX1_setShops_39 : decode cX1_setShops 39 = .ok (.iload 5, 2) := by decide +kernel
theorem dX1_setShops_41 : decode cX1_setShops 41 = .ok (.iload 5, 2) := by decide +kernel
theorem dX1_setShops_43 : decode cX1_setShops 43 = .ok (.iload 4, 2) := by decide +kernel
theorem dX1_setShops_45 : decode cX1_setShops 45 = .ok (.isub, 1) := by decide +kernel
theorem dX1_setShops_46 : decode cX1_setShops 46 = .ok (.iload 6, 2) := by decide +kernel
theorem dX1_setShops_48 : decode cX1_setShops 48 = .ok (.imul, 1) := by decide +kernel
theorem dX1_setShops_49 : decode cX1_setShops 49 = .ok (.iastore, 1) := by decide +kernel
theorem dX1_setShops_50 : decode cX1_setShops 50 = .ok (.aload_n 0, 1) := by decide +kernel
theorem dX1_setShops_51 : decode cX1_setShops 51 = .ok (.getfield 18, 3) := by decide +kernel
theorem dX1_setShops_54 : decode cX1_setShops 54 = .ok (.iload 5, 2) := by decide +kernel
theorem dX1_setShops_56 : decode cX1_setShops 56 = .ok (.iload 5, 2) := by decide +kernel
theorem dX1_setShops_58 : decode cX1_setShops 58 = .ok (.iload_n 3, 1) := by decide +kernel
theorem dX1_setShops_59 : decode cX1_setShops 59 = .ok (.isub, 1) := by decide +kernel
theorem dX1_setShops_60 : decode cX1_setShops 60 = .ok (.aload_n 1, 1) := by decide +kernel
theorem dX1_setShops_61 : decode cX1_setShops 61 = .ok (.iload 5, 2) := by decide +kernel
theorem dX1_setShops_63 : decode cX1_setShops 63 = .ok (.iaload, 1) := by decide +kernel
theorem dX1_setShops_64 : decode cX1_setShops 64 = .ok (.imul, 1) := by decide +kernel
theorem dX1_setShops_65 : decode cX1_setShops 65 = .ok (.iastore, 1) := by decide +kernel
theorem dX1_setShops_66 : decode cX1_setShops 66 = .ok (.aload_n 0, 1) := by decide +kernel
theorem dX1_setShops_67 : decode cX1_setShops 67 = .ok (.getfield 21, 3) := by decide +kernel
theorem dX1_setShops_70 : decode cX1_setShops 70 = .ok (.iload 5, 2) := by decide +kernel
theorem dX1_setShops_72 : decode cX1_setShops 72 = .ok (.iload 5, 2) := by decide +kernel
theorem dX1_setShops_74 : decode cX1_setShops 74 = .ok (.iload 4, 2) := by decide +kernel
theorem dX1_setShops_76 : decode cX1_setShops 76 = .ok (.isub, 1) := by decide +kernel
theorem dX1_setShops_77 : decode cX1_setShops 77 = .ok (.aload_n 2, 1) := by decide +kernel
theorem dX1_setShops_78 : decode cX1_setShops 78 = .ok (.iload 5, 2) := by decide +kernel
theorem dX1_setShops_80 : decode cX1_setShops 80 = .ok (.iaload, 1) := by decide +kernel
theorem dX1_setShops_81 : decode cX1_setShops 81 = .ok (.imul, 1) := by decide +kernel
theorem dX1_setShops_82 : decode cX1_setShops 82 = .ok (.iastore, 1) := by decide +kernel
theorem dX1_setShops_83 : decode cX1_setShops 83 = .ok (.iinc 5 1, 3) := by decide +kernel
theorem dX1_setShops_86 : decode cX1_setShops 86 = .ok (.goto (-83), 3) := by decide +kernel
theorem dX1_setShops_89 : decode cX1_setShops 89 = .ok (.return_, 1) := by decide +kernel
theorem dX1_setMakers_0 : decode cX1_setMakers 0 = .ok (.aload_n 1, 1) := by decide +kernel
theorem dX1_setMakers_1 : decode cX1_setMakers 1 = .ok (.getfield 30, 3) := by decide +kernel
theorem dX1_setMakers_4 : decode cX1_setMakers 4 = .ok (.iload 4, 2) := by decide +kernel
theorem dX1_setMakers_6 : decode cX1_setMakers 6 = .ok (.aaload, 1) := by decide +kernel
theorem dX1_setMakers_7 : decode cX1_setMakers 7 = .ok (.astore 5, 2) := by decide +kernel
theorem dX1_setMakers_9 : decode cX1_setMakers 9 = .ok (.iconst 0, 1) := by decide +kernel
theorem dX1_setMakers_10 : decode cX1_setMakers 10 = .ok (.istore 6, 2) := by decide +kernel
theorem dX1_setMakers_12 : decode cX1_setMakers 12 = .ok (.iload 6, 2) := by decide +kernel
theorem dX1_setMakers_14 : decode cX1_setMakers 14 = .ok (.bipush 41, 2) := by decide +kernel
theorem dX1_setMakers_16 : decode cX1_setMakers 16 = .ok (.if_icmp .gt 115, 3) := by decide +kernel
theorem dX1_setMakers_19 : decode cX1_setMakers 19 = .ok (.aload 5, 2) := by decide +kernel
theorem dX1_setMakers_21 : decode cX1_setMakers 21 = .ok (.aload 5, 2) := by decide +kernel
theorem dX1_setMakers_23 : decode cX1_setMakers 23 = .ok (.bipush 41, 2) := by decide +kernel
theorem dX1_setMakers_25 : decode cX1_setMakers 25 = .ok (.iload 6, 2) := by decide +kernel
theorem dX1_setMakers_27 : decode cX1_setMakers 27 = .ok (.aload_n 1, 1) := by decide +kernel
theorem dX1_setMakers_28 : decode cX1_setMakers 28 = .ok (.getfield 36, 3) := by decide +kernel
theorem dX1_setMakers_31 : decode cX1_setMakers 31 = .ok (.iload 4, 2) := by decide +kernel
theorem dX1_setMakers_33 : decode cX1_setMakers 33 = .ok (.iaload, 1) := by decide +kernel
theorem dX1_setMakers_34 : decode cX1_setMakers 34 = .ok (.iadd, 1) := by decide +kernel
theorem dX1_setMakers_35 : decode cX1_setMakers 35 = .ok (.invokestatic 39, 3) := by decide +kernel
theorem dX1_setMakers_38 : decode cX1_setMakers 38 = .ok (.iaload, 1) := by decide +kernel
theorem dX1_setMakers_39 : decode cX1_setMakers 39 = .ok (.istore 7, 2) := by decide +kernel
theorem dX1_setMakers_41 : decode cX1_setMakers 41 = .ok (.aload_n 0, 1) := by decide +kernel
theorem dX1_setMakers_42 : decode cX1_setMakers 42 = .ok (.getfield 9, 3) := by decide +kernel
theorem dX1_setMakers_45 : decode cX1_setMakers 45 = .ok (.iload 6, 2) := by decide +kernel
theorem dX1_setMakers_47 : decode cX1_setMakers 47 = .ok (.iload 6, 2) := by decide +kernel
theorem dX1_setMakers_49 : decode cX1_setMakers 49 = .ok (.aload_n 1, 1) := by decide +kernel
theorem dX1_setMakers_50 : decode cX1_setMakers 50 = .ok (.getfield 36, 3) := by decide +kernel
theorem dX1_setMakers_53 : decode cX1_setMakers 53 = .ok (.iload_n 2, 1) := by decide +kernel
theorem dX1_setMakers_54 : decode cX1_setMakers 54 = .ok (.iaload, 1) := by decide +kernel
theorem dX1_setMakers_55 : decode cX1_setMakers 55 = .ok (.isub, 1) := by decide +kernel
theorem dX1_setMakers_56 : decode cX1_setMakers 56 = .ok (.iload 7, 2) := by decide +kernel
theorem dX1_setMakers_58 : decode cX1_setMakers 58 = .ok (.imul, 1) := by decide +kernel
theorem dX1_setMakers_59 : decode cX1_setMakers 59 = .ok (.iastore, 1) := by decide +kernel
theorem dX1_setMakers_60 : decode cX1_setMakers 60 = .ok (.aload_n 0, 1) := by decide +kernel
theorem dX1_setMakers_61 : decode cX1_setMakers 61 = .ok (.getfield 15, 3) := by decide +kernel
theorem dX1_setMakers_64 : decode cX1_setMakers 64 = .ok (.iload 6, 2) := by decide +kernel
theorem dX1_setMakers_66 : decode cX1_setMakers 66 = .ok (.iload 6, 2) := by decide +kernel
theorem dX1_setMakers_68 : decode cX1_setMakers 68 = .ok (.aload_n 1, 1) := by decide +kernel
theorem dX1_setMakers_69 : decode cX1_setMakers 69 = .ok (.getfield 36, 3) := by decide +kernel
theorem dX1_setMakers_72 : decode cX1_setMakers 72 = .ok (.iload_n 3, 1) := by decide +kernel
theorem dX1_setMakers_73 : decode cX1_setMakers 73 = .ok (.iaload, 1) := by decide +kernel
theorem dX1_setMakers_74 : decode cX1_setMakers 74 = .ok (.isub, 1) := by decide +kernel
theorem dX1_setMakers_75 : decode cX1_setMakers 75 = .ok (.iload 7, 2) := by decide +kernel
theorem dX1_setMakers_77 : decode cX1_setMakers 77 = .ok (.imul, 1) := by decide +kernel
theorem dX1_setMakers_78 : decode cX1_setMakers 78 = .ok (.iastore, 1) := by decide +kernel
theorem dX1_setMakers_79 : decode cX1_setMakers 79 = .ok (.aload_n 0, 1) := by decide +kernel
theorem dX1_setMakers_80 : decode cX1_setMakers 80 = .ok (.getfield 18, 3) := by decide +kernel
theorem dX1_setMakers_83 : decode cX1_setMakers 83 = .ok (.iload 6, 2) := by decide +kernel
theorem dX1_setMakers_85 : decode cX1_setMakers 85 = .ok (.iload_n 2, 1) := by decide +kernel
theorem dX1_setMakers_86 : decode cX1_setMakers 86 = .ok (.iload_n 3, 1) := by decide +kernel
theorem dX1_setMakers_87 : decode cX1_setMakers 87 = .ok (.if_icmp .ge 13, 3) := by decide +kernel
theorem dX1_setMakers_90 : decode cX1_setMakers 90 = .ok (.aload_n 0, 1) := by decide +kernel
theorem dX1_setMakers_91 : decode cX1_setMakers 91 = .ok (.getfield 9, 3) := by decide +kernel
theorem dX1_setMakers_94 : decode cX1_setMakers 94 = .ok (.iload 6, 2) := by decide +kernel
theorem dX1_setMakers_96 : decode cX1_setMakers 96 = .ok (.iaload, 1) := by decide +kernel
theorem dX1_setMakers_97 : decode cX1_setMakers 97 = .ok (.goto 4, 3) := by decide +kernel
theorem dX1_setMakers_100 : decode cX1_setMakers 100 = .ok (.iconst 0, 1) := by decide +kernel
theorem dX1_setMakers_101 : decode cX1_setMakers 101 = .ok (.iastore, 1) := by decide +kernel
theorem dX1_setMakers_102 : decode cX1_setMakers 102 = .ok (.aload_n 0, 1) := by decide +kernel
theorem dX1_setMakers_103 : decode cX1_setMakers 103 = .ok (.getfield 21, 3) := by decide +kernel
theorem dX1_setMakers_106 : decode cX1_setMakers 106 = .ok (.iload 6, 2) := by decide +kernel
theorem dX1_setMakers_108 : decode cX1_setMakers 108 = .ok (.iload_n 3, 1) := by decide +kernel
theorem dX1_setMakers_109 : decode cX1_setMakers 109 = .ok (.iload_n 2, 1) := by decide +kernel
theorem dX1_setMakers_110 : decode cX1_setMakers 110 = .ok (.if_icmp .ge 13, 3) := by decide +kernel
theorem dX1_setMakers_113 : decode cX1_setMakers 113 = .ok (.aload_n 0, 1) := by decide +kernel
theorem dX1_setMakers_114 : decode cX1_setMakers 114 = .ok (.getfield 15, 3) := by decide +kernel
theorem dX1_setMakers_117 : decode cX1_setMakers 117 = .ok (.iload 6, 2) := by decide +kernel
theorem dX1_setMakers_119 : decode cX1_setMakers 119 = .ok (.iaload, 1) := by decide +kernel
theorem dX1_setMakers_120 : decode cX1_setMakers 120 = .ok (.goto 4, 3) := by decide +kernel
theorem dX1_setMakers_123 : decode cX1_setMakers 123 = .ok (.iconst 0, 1) := by decide +kernel
theorem dX1_setMakers_124 : decode cX1_setMakers 124 = .ok (.iastore, 1) := by decide +kernel
theorem dX1_setMakers_125 : decode cX1_setMakers 125 = .ok (.iinc 6 1, 3) := by decide +kernel
theorem dX1_setMakers_128 : decode cX1_setMakers 128 = .ok (.goto (-116), 3) := by decide +kernel
theorem dX1_setMakers_131 : decode cX1_setMakers 131 = .ok (.return_, 1) := by decide +kernel
theorem dX1_restAt_0 : decode cX1_restAt 0 = .ok (.iconst 0, 1) := by decide +kernel
theorem dX1_restAt_1 : decode cX1_restAt 1 = .ok (.istore_n 2, 1) := by decide +kernel
theorem dX1_restAt_2 : decode cX1_restAt 2 = .ok (.iload_n 2, 1) := by decide +kernel
theorem dX1_restAt_3 : decode cX1_restAt 3 = .ok (.bipush 41, 2) := by decide +kernel
theorem dX1_restAt_5 : decode cX1_restAt 5 = .ok (.if_icmp .gt 47, 3) := by decide +kernel
theorem dX1_restAt_8 : decode cX1_restAt 8 = .ok (.aload_n 0, 1) := by decide +kernel
theorem dX1_restAt_9 : decode cX1_restAt 9 = .ok (.getfield 24, 3) := by decide +kernel
theorem dX1_restAt_12 : decode cX1_restAt 12 = .ok (.iload_n 2, 1) := by decide +kernel
theorem dX1_restAt_13 : decode cX1_restAt 13 = .ok (.aload_n 0, 1) := by decide +kernel
theorem dX1_restAt_14 : decode cX1_restAt 14 = .ok (.aload_n 0, 1) := by decide +kernel
theorem dX1_restAt_15 : decode cX1_restAt 15 = .ok (.getfield 9, 3) := by decide +kernel
theorem dX1_restAt_18 : decode cX1_restAt 18 = .ok (.aload_n 0, 1) := by decide +kernel
theorem dX1_restAt_19 : decode cX1_restAt 19 = .ok (.getfield 18, 3) := by decide +kernel
theorem dX1_restAt_22 : decode cX1_restAt 22 = .ok (.iload_n 2, 1) := by decide +kernel
theorem dX1_restAt_23 : decode cX1_restAt 23 = .ok (.invokevirtual 43, 3) := by decide +kernel
theorem dX1_restAt_26 : decode cX1_restAt 26 = .ok (.iastore, 1) := by decide +kernel
theorem dX1_restAt_27 : decode cX1_restAt 27 = .ok (.aload_n 0, 1) := by decide +kernel
theorem dX1_restAt_28 : decode cX1_restAt 28 = .ok (.getfield 27, 3) := by decide +kernel
theorem dX1_restAt_31 : decode cX1_restAt 31 = .ok (.iload_n 2, 1) := by decide +kernel
theorem dX1_restAt_32 : decode cX1_restAt 32 = .ok (.aload_n 0, 1) := by decide +kernel
theorem dX1_restAt_33 : decode cX1_restAt 33 = .ok (.aload_n 0, 1) := by decide +kernel
theorem dX1_restAt_34 : decode cX1_restAt 34 = .ok (.getfield 15, 3) := by decide +kernel
theorem dX1_restAt_37 : decode cX1_restAt 37 = .ok (.aload_n 0, 1) := by decide +kernel
theorem dX1_restAt_38 : decode cX1_restAt 38 = .ok (.getfield 21, 3) := by decide +kernel
theorem dX1_restAt_41 : decode cX1_restAt 41 = .ok (.iload_n 2, 1) := by decide +kernel
theorem dX1_restAt_42 : decode cX1_restAt 42 = .ok (.invokevirtual 43, 3) := by decide +kernel
theorem dX1_restAt_45 : decode cX1_restAt 45 = .ok (.iastore, 1) := by decide +kernel
theorem dX1_restAt_46 : decode cX1_restAt 46 = .ok (.iinc 2 1, 3) := by decide +kernel
theorem dX1_restAt_49 : decode cX1_restAt 49 = .ok (.goto (-47), 3) := by decide +kernel
theorem dX1_restAt_52 : decode cX1_restAt 52 = .ok (.iconst 0, 1) := by decide +kernel
theorem dX1_restAt_53 : decode cX1_restAt 53 = .ok (.istore_n 2, 1) := by decide +kernel
theorem dX1_restAt_54 : decode cX1_restAt 54 = .ok (.iconst 0, 1) := by decide +kernel
theorem dX1_restAt_55 : decode cX1_restAt 55 = .ok (.istore_n 3, 1) := by decide +kernel
theorem dX1_restAt_56 : decode cX1_restAt 56 = .ok (.iload_n 3, 1) := by decide +kernel
theorem dX1_restAt_57 : decode cX1_restAt 57 = .ok (.bipush 41, 2) := by decide +kernel
theorem dX1_restAt_59 : decode cX1_restAt 59 = .ok (.if_icmp .gt 51, 3) := by decide +kernel
theorem dX1_restAt_62 : decode cX1_restAt 62 = .ok (.iconst 0, 1) := by decide +kernel
theorem dX1_restAt_63 : decode cX1_restAt 63 = .ok (.istore 4, 2) := by decide +kernel
theorem dX1_restAt_65 : decode cX1_restAt 65 = .ok (.iload 4, 2) := by decide +kernel
theorem dX1_restAt_67 : decode cX1_restAt 67 = .ok (.bipush 41, 2) := by decide +kernel
theorem dX1_restAt_69 : decode cX1_restAt 69 = .ok (.if_icmp .gt 35, 3) := by decide +kernel
theorem dX1_restAt_72 : decode cX1_restAt 72 = .ok (.aload_n 0, 1) := by decide +kernel
theorem dX1_restAt_73 : decode cX1_restAt 73 = .ok (.iload_n 3, 1) := by decide +kernel
theorem dX1_restAt_74 : decode cX1_restAt 74 = .ok (.iload 4, 2) := by decide +kernel
theorem dX1_restAt_76 : decode cX1_restAt 76 = .ok (.invokevirtual 47, 3) := by decide +kernel
theorem dX1_restAt_79 : decode cX1_restAt 79 = .ok (.ifCond .eq 19, 3) := by decide +kernel
theorem dX1_restAt_82 : decode cX1_restAt 82 = .ok (.iload_n 2, 1) := by decide +kernel
theorem dX1_restAt_83 : decode cX1_restAt 83 = .ok (.iload_n 1, 1) := by decide +kernel
theorem dX1_restAt_84 : decode cX1_restAt 84 = .ok (.if_icmp .ne 11, 3) := by decide +kernel
theorem dX1_restAt_87 : decode cX1_restAt 87 = .ok (.bipush 64, 2) := by decide +kernel
theorem dX1_restAt_89 : decode cX1_restAt 89 = .ok (.iload_n 3, 1) := by decide +kernel
theorem dX1_restAt_90 : decode cX1_restAt 90 = .ok (.imul, 1) := by decide +kernel
theorem dX1_restAt_91 : decode cX1_restAt 91 = .ok (.iload 4, 2) := by decide +kernel
theorem dX1_restAt_93 : decode cX1_restAt 93 = .ok (.iadd, 1) := by decide +kernel
theorem dX1_restAt_94 : decode cX1_restAt 94 = .ok (.ireturn, 1) := by decide +kernel
theorem dX1_restAt_95 : decode cX1_restAt 95 = .ok (.iinc 2 1, 3) := by decide +kernel
theorem dX1_restAt_98 : decode cX1_restAt 98 = .ok (.iinc 4 1, 3) := by decide +kernel
theorem dX1_restAt_101 : decode cX1_restAt 101 = .ok (.goto (-36), 3) := by decide +kernel
theorem dX1_restAt_104 : decode cX1_restAt 104 = .ok (.iinc 3 1, 3) := by decide +kernel
theorem dX1_restAt_107 : decode cX1_restAt 107 = .ok (.goto (-51), 3) := by decide +kernel
theorem dX1_restAt_110 : decode cX1_restAt 110 = .ok (.iload_n 1, 1) := by decide +kernel
theorem dX1_restAt_111 : decode cX1_restAt 111 = .ok (.iconst (-1), 1) := by decide +kernel
theorem dX1_restAt_112 : decode cX1_restAt 112 = .ok (.if_icmp .ne 7, 3) := by decide +kernel
theorem dX1_restAt_115 : decode cX1_restAt 115 = .ok (.iload_n 2, 1) := by decide +kernel
theorem dX1_restAt_116 : decode cX1_restAt 116 = .ok (.goto 4, 3) := by decide +kernel
theorem dX1_restAt_119 : decode cX1_restAt 119 = .ok (.iconst (-1), 1) := by decide +kernel
theorem dX1_restAt_120 : decode cX1_restAt 120 = .ok (.ireturn, 1) := by decide +kernel
theorem dX1_isRest_0 : decode cX1_isRest 0 = .ok (.aload_n 0, 1) := by decide +kernel
theorem dX1_isRest_1 : decode cX1_isRest 1 = .ok (.aload_n 0, 1) := by decide +kernel
theorem dX1_isRest_2 : decode cX1_isRest 2 = .ok (.getfield 9, 3) := by decide +kernel
theorem dX1_isRest_5 : decode cX1_isRest 5 = .ok (.aload_n 0, 1) := by decide +kernel
theorem dX1_isRest_6 : decode cX1_isRest 6 = .ok (.getfield 18, 3) := by decide +kernel
theorem dX1_isRest_9 : decode cX1_isRest 9 = .ok (.iload_n 1, 1) := by decide +kernel
theorem dX1_isRest_10 : decode cX1_isRest 10 = .ok (.iload_n 2, 1) := by decide +kernel
theorem dX1_isRest_11 : decode cX1_isRest 11 = .ok (.invokevirtual 51, 3) := by decide +kernel
theorem dX1_isRest_14 : decode cX1_isRest 14 = .ok (.aload_n 0, 1) := by decide +kernel
theorem dX1_isRest_15 : decode cX1_isRest 15 = .ok (.getfield 24, 3) := by decide +kernel
theorem dX1_isRest_18 : decode cX1_isRest 18 = .ok (.iload_n 2, 1) := by decide +kernel
theorem dX1_isRest_19 : decode cX1_isRest 19 = .ok (.iaload, 1) := by decide +kernel
theorem dX1_isRest_20 : decode cX1_isRest 20 = .ok (.if_icmp .ne 30, 3) := by decide +kernel
theorem dX1_isRest_23 : decode cX1_isRest 23 = .ok (.aload_n 0, 1) := by decide +kernel
theorem dX1_isRest_24 : decode cX1_isRest 24 = .ok (.aload_n 0, 1) := by decide +kernel
theorem dX1_isRest_25 : decode cX1_isRest 25 = .ok (.getfield 15, 3) := by decide +kernel
theorem dX1_isRest_28 : decode cX1_isRest 28 = .ok (.aload_n 0, 1) := by decide +kernel
theorem dX1_isRest_29 : decode cX1_isRest 29 = .ok (.getfield 21, 3) := by decide +kernel
theorem dX1_isRest_32 : decode cX1_isRest 32 = .ok (.iload_n 2, 1) := by decide +kernel
theorem dX1_isRest_33 : decode cX1_isRest 33 = .ok (.iload_n 1, 1) := by decide +kernel
theorem dX1_isRest_34 : decode cX1_isRest 34 = .ok (.invokevirtual 51, 3) := by decide +kernel
theorem dX1_isRest_37 : decode cX1_isRest 37 = .ok (.aload_n 0, 1) := by decide +kernel
theorem dX1_isRest_38 : decode cX1_isRest 38 = .ok (.getfield 27, 3) := by decide +kernel
theorem dX1_isRest_41 : decode cX1_isRest 41 = .ok (.iload_n 1, 1) := by decide +kernel
theorem dX1_isRest_42 : decode cX1_isRest 42 = .ok (.iaload, 1) := by decide +kernel
theorem dX1_isRest_43 : decode cX1_isRest 43 = .ok (.if_icmp .ne 7, 3) := by decide +kernel
theorem dX1_isRest_46 : decode cX1_isRest 46 = .ok (.iconst 1, 1) := by decide +kernel
theorem dX1_isRest_47 : decode cX1_isRest 47 = .ok (.goto 4, 3) := by decide +kernel
theorem dX1_isRest_50 : decode cX1_isRest 50 = .ok (.iconst 0, 1) := by decide +kernel
theorem dX1_isRest_51 : decode cX1_isRest 51 = .ok (.ireturn, 1) := by decide +kernel
theorem dX1_bestAgainst_0 : decode cX1_bestAgainst 0 = .ok (.aload_n 0, 1) := by decide +kernel
theorem dX1_bestAgainst_1 : decode cX1_bestAgainst 1 = .ok (.aload_n 1, 1) := by decide +kernel
theorem dX1_bestAgainst_2 : decode cX1_bestAgainst 2 = .ok (.aload_n 2, 1) := by decide +kernel
theorem dX1_bestAgainst_3 : decode cX1_bestAgainst 3 = .ok (.iconst 0, 1) := by decide +kernel
theorem dX1_bestAgainst_4 : decode cX1_bestAgainst 4 = .ok (.iload_n 3, 1) := by decide +kernel
theorem dX1_bestAgainst_5 : decode cX1_bestAgainst 5 = .ok (.invokevirtual 51, 3) := by decide +kernel
theorem dX1_bestAgainst_8 : decode cX1_bestAgainst 8 = .ok (.istore 4, 2) := by decide +kernel
theorem dX1_bestAgainst_10 : decode cX1_bestAgainst 10 = .ok (.iconst 1, 1) := by decide +kernel
theorem dX1_bestAgainst_11 : decode cX1_bestAgainst 11 = .ok (.istore 5, 2) := by decide +kernel
theorem dX1_bestAgainst_13 : decode cX1_bestAgainst 13 = .ok (.iload 5, 2) := by decide +kernel
theorem dX1_bestAgainst_15 : decode cX1_bestAgainst 15 = .ok (.bipush 41, 2) := by decide +kernel
theorem dX1_bestAgainst_17 : decode cX1_bestAgainst 17 = .ok (.if_icmp .gt 31, 3) := by decide +kernel
theorem dX1_bestAgainst_20 : decode cX1_bestAgainst 20 = .ok (.aload_n 0, 1) := by decide +kernel
theorem dX1_bestAgainst_21 : decode cX1_bestAgainst 21 = .ok (.aload_n 1, 1) := by decide +kernel
theorem dX1_bestAgainst_22 : decode cX1_bestAgainst 22 = .ok (.aload_n 2, 1) := by decide +kernel
theorem dX1_bestAgainst_23 : decode cX1_bestAgainst 23 = .ok (.iload 5, 2) := by decide +kernel
theorem dX1_bestAgainst_25 : decode cX1_bestAgainst 25 = .ok (.iload_n 3, 1) := by decide +kernel
theorem dX1_bestAgainst_26 : decode cX1_bestAgainst 26 = .ok (.invokevirtual 51, 3) := by decide +kernel
theorem dX1_bestAgainst_29 : decode cX1_bestAgainst 29 = .ok (.istore 6, 2) := by decide +kernel
theorem dX1_bestAgainst_31 : decode cX1_bestAgainst 31 = .ok (.iload 6, 2) := by decide +kernel
theorem dX1_bestAgainst_33 : decode cX1_bestAgainst 33 = .ok (.iload 4, 2) := by decide +kernel
theorem dX1_bestAgainst_35 : decode cX1_bestAgainst 35 = .ok (.if_icmp .le 7, 3) := by decide +kernel
theorem dX1_bestAgainst_38 : decode cX1_bestAgainst 38 = .ok (.iload 6, 2) := by decide +kernel
theorem dX1_bestAgainst_40 : decode cX1_bestAgainst 40 = .ok (.istore 4, 2) := by decide +kernel
theorem dX1_bestAgainst_42 : decode cX1_bestAgainst 42 = .ok (.iinc 5 1, 3) := by decide +kernel
theorem dX1_bestAgainst_45 : decode cX1_bestAgainst 45 = .ok (.goto (-32), 3) := by decide +kernel
theorem dX1_bestAgainst_48 : decode cX1_bestAgainst 48 = .ok (.iload 4, 2) := by decide +kernel
theorem dX1_bestAgainst_50 : decode cX1_bestAgainst 50 = .ok (.ireturn, 1) := by decide +kernel
theorem dX1_gained_0 : decode cX1_gained 0 = .ok (.iload_n 3, 1) := by decide +kernel
theorem dX1_gained_1 : decode cX1_gained 1 = .ok (.iload 4, 2) := by decide +kernel
theorem dX1_gained_3 : decode cX1_gained 3 = .ok (.if_icmp .ge 9, 3) := by decide +kernel
theorem dX1_gained_6 : decode cX1_gained 6 = .ok (.aload_n 1, 1) := by decide +kernel
theorem dX1_gained_7 : decode cX1_gained 7 = .ok (.iload_n 3, 1) := by decide +kernel
theorem dX1_gained_8 : decode cX1_gained 8 = .ok (.iaload, 1) := by decide +kernel
theorem dX1_gained_9 : decode cX1_gained 9 = .ok (.goto 16, 3) := by decide +kernel
theorem dX1_gained_12 : decode cX1_gained 12 = .ok (.iload_n 3, 1) := by decide +kernel
theorem dX1_gained_13 : decode cX1_gained 13 = .ok (.iload 4, 2) := by decide +kernel
theorem dX1_gained_15 : decode cX1_gained 15 = .ok (.if_icmp .ne 9, 3) := by decide +kernel
theorem dX1_gained_18 : decode cX1_gained 18 = .ok (.aload_n 2, 1) := by decide +kernel
theorem dX1_gained_19 : decode cX1_gained 19 = .ok (.iload_n 3, 1) := by decide +kernel
theorem dX1_gained_20 : decode cX1_gained 20 = .ok (.iaload, 1) := by decide +kernel
theorem dX1_gained_21 : decode cX1_gained 21 = .ok (.goto 4, 3) := by decide +kernel
theorem dX1_gained_24 : decode cX1_gained 24 = .ok (.iconst 0, 1) := by decide +kernel
theorem dX1_gained_25 : decode cX1_gained 25 = .ok (.ireturn, 1) := by decide +kernel
theorem dX2_init_0 : decode cX2_init 0 = .ok (.aload_n 0, 1) := by decide +kernel
theorem dX2_init_1 : decode cX2_init 1 = .ok (.invokespecial 3, 3) := by decide +kernel
theorem dX2_init_4 : decode cX2_init 4 = .ok (.aload_n 0, 1) := by decide +kernel
theorem dX2_init_5 : decode cX2_init 5 = .ok (.bipush 8, 2) := by decide +kernel
theorem dX2_init_7 : decode cX2_init 7 = .ok (.newarray .int, 2) := by decide +kernel
theorem dX2_init_9 : decode cX2_init 9 = .ok (.putfield 9, 3) := by decide +kernel
theorem dX2_init_12 : decode cX2_init 12 = .ok (.return_, 1) := by decide +kernel
theorem dX2_follow_0 : decode cX2_follow 0 = .ok (.iconst 0, 1) := by decide +kernel
theorem dX2_follow_1 : decode cX2_follow 1 = .ok (.istore_n 2, 1) := by decide +kernel
theorem dX2_follow_2 : decode cX2_follow 2 = .ok (.iload_n 2, 1) := by decide +kernel
theorem dX2_follow_3 : decode cX2_follow 3 = .ok (.aload_n 1, 1) := by decide +kernel
theorem dX2_follow_4 : decode cX2_follow 4 = .ok (.getfield 15, 3) := by decide +kernel
theorem dX2_follow_7 : decode cX2_follow 7 = .ok (.if_icmp .ge 40, 3) := by decide +kernel
theorem dX2_follow_10 : decode cX2_follow 10 = .ok (.aload_n 0, 1) := by decide +kernel
theorem dX2_follow_11 : decode cX2_follow 11 = .ok (.getfield 9, 3) := by decide +kernel
theorem dX2_follow_14 : decode cX2_follow 14 = .ok (.iload_n 2, 1) := by decide +kernel
theorem dX2_follow_15 : decode cX2_follow 15 = .ok (.aload_n 1, 1) := by decide +kernel
theorem dX2_follow_16 : decode cX2_follow 16 = .ok (.iload_n 2, 1) := by decide +kernel
theorem dX2_follow_17 : decode cX2_follow 17 = .ok (.invokevirtual 21, 3) := by decide +kernel
theorem dX2_follow_20 : decode cX2_follow 20 = .ok (.ifCond .eq 19, 3) := by decide +kernel
theorem dX2_follow_23 : decode cX2_follow 23 = .ok (.aload_n 1, 1) := by decide +kernel
theorem dX2_follow_24 : decode cX2_follow 24 = .ok (.getfield 25, 3) := by decide +kernel
theorem dX2_follow_27 : decode cX2_follow 27 = .ok (.iload_n 2, 1) := by decide +kernel
theorem dX2_follow_28 : decode cX2_follow 28 = .ok (.aaload, 1) := by decide +kernel
theorem dX2_follow_29 : decode cX2_follow 29 = .ok (.aload_n 1, 1) := by decide +kernel
theorem dX2_follow_30 : decode cX2_follow 30 = .ok (.getfield 29, 3) := by decide +kernel
theorem dX2_follow_33 : decode cX2_follow 33 = .ok (.iload_n 2, 1) := by decide +kernel
theorem dX2_follow_34 : decode cX2_follow 34 = .ok (.iaload, 1) := by decide +kernel
theorem dX2_follow_35 : decode cX2_follow 35 = .ok (.iaload, 1) := by decide +kernel
theorem dX2_follow_36 : decode cX2_follow 36 = .ok (.goto 4, 3) := by decide +kernel
theorem dX2_follow_39 : decode cX2_follow 39 = .ok (.iconst 0, 1) := by decide +kernel
theorem dX2_follow_40 : decode cX2_follow 40 = .ok (.iastore, 1) := by decide +kernel
theorem dX2_follow_41 : decode cX2_follow 41 = .ok (.iinc 2 1, 3) := by decide +kernel
theorem dX2_follow_44 : decode cX2_follow 44 = .ok (.goto (-42), 3) := by decide +kernel
theorem dX2_follow_47 : decode cX2_follow 47 = .ok (.aload_n 1, 1) := by decide +kernel
theorem dX2_follow_48 : decode cX2_follow 48 = .ok (.getfield 15, 3) := by decide +kernel
theorem dX2_follow_51 : decode cX2_follow 51 = .ok (.iconst 1, 1) := by decide +kernel
theorem dX2_follow_52 : decode cX2_follow 52 = .ok (.isub, 1) := by decide +kernel
theorem dX2_follow_53 : decode cX2_follow 53 = .ok (.istore_n 2, 1) := by decide +kernel
theorem dX2_follow_54 : decode cX2_follow 54 = .ok (.iload_n 2, 1) := by decide +kernel
theorem dX2_follow_55 : decode cX2_follow 55 = .ok (.ifCond .lt 35, 3) := by decide +kernel
theorem dX2_follow_58 : decode cX2_follow 58 = .ok (.aload_n 1, 1) := by decide +kernel
theorem dX2_follow_59 : decode cX2_follow 59 = .ok (.getfield 32, 3) := by decide +kernel
theorem dX2_follow_62 : decode cX2_follow 62 = .ok (.iload_n 2, 1) := by decide +kernel
theorem dX2_follow_63 : decode cX2_follow 63 = .ok (.iaload, 1) := by decide +kernel
theorem dX2_follow_64 : decode cX2_follow 64 = .ok (.istore_n 3, 1) := by decide +kernel
theorem dX2_follow_65 : decode cX2_follow 65 = .ok (.iload_n 3, 1) := by decide +kernel
theorem dX2_follow_66 : decode cX2_follow 66 = .ok (.ifCond .lt 18, 3) := by decide +kernel
theorem dX2_follow_69 : decode cX2_follow 69 = .ok (.aload_n 0, 1) := by decide +kernel
theorem dX2_follow_70 : decode cX2_follow 70 = .ok (.getfield 9, 3) := by decide +kernel
theorem dX2_follow_73 : decode cX2_follow 73 = .ok (.iload_n 3, 1) := by decide +kernel
theorem dX2_follow_74 : decode cX2_follow 74 = .ok (.dup2, 1) := by decide +kernel
theorem dX2_follow_75 : decode cX2_follow 75 = .ok (.iaload, 1) := by decide +kernel
theorem dX2_follow_76 : decode cX2_follow 76 = .ok (.aload_n 0, 1) := by decide +kernel
theorem dX2_follow_77 : decode cX2_follow 77 = .ok (.getfield 9, 3) := by decide +kernel
theorem dX2_follow_80 : decode cX2_follow 80 = .ok (.iload_n 2, 1) := by decide +kernel
theorem dX2_follow_81 : decode cX2_follow 81 = .ok (.iaload, 1) := by decide +kernel
theorem dX2_follow_82 : decode cX2_follow 82 = .ok (.iadd, 1) := by decide +kernel
theorem dX2_follow_83 : decode cX2_follow 83 = .ok (.iastore, 1) := by decide +kernel
theorem dX2_follow_84 : decode cX2_follow 84 = .ok (.iinc 2 (-1), 3) := by decide +kernel
theorem dX2_follow_87 : decode cX2_follow 87 = .ok (.goto (-33), 3) := by decide +kernel
theorem dX2_follow_90 : decode cX2_follow 90 = .ok (.return_, 1) := by decide +kernel
theorem dX2_earnedBy_0 : decode cX2_earnedBy 0 = .ok (.aload_n 1, 1) := by decide +kernel
theorem dX2_earnedBy_1 : decode cX2_earnedBy 1 = .ok (.iload_n 2, 1) := by decide +kernel
theorem dX2_earnedBy_2 : decode cX2_earnedBy 2 = .ok (.invokevirtual 21, 3) := by decide +kernel
theorem dX2_earnedBy_5 : decode cX2_earnedBy 5 = .ok (.ifCond .eq 24, 3) := by decide +kernel
theorem dX2_earnedBy_8 : decode cX2_earnedBy 8 = .ok (.aload_n 1, 1) := by decide +kernel
theorem dX2_earnedBy_9 : decode cX2_earnedBy 9 = .ok (.getfield 29, 3) := by decide +kernel
theorem dX2_earnedBy_12 : decode cX2_earnedBy 12 = .ok (.iload_n 2, 1) := by decide +kernel
theorem dX2_earnedBy_13 : decode cX2_earnedBy 13 = .ok (.iaload, 1) := by decide +kernel
theorem dX2_earnedBy_14 : decode cX2_earnedBy 14 = .ok (.aload_n 0, 1) := by decide +kernel
theorem dX2_earnedBy_15 : decode cX2_earnedBy 15 = .ok (.aload_n 1, 1) := by decide +kernel
theorem dX2_earnedBy_16 : decode cX2_earnedBy 16 = .ok (.iload_n 2, 1) := by decide +kernel
theorem dX2_earnedBy_17 : decode cX2_earnedBy 17 = .ok (.invokevirtual 35, 3) := by decide +kernel
theorem dX2_earnedBy_20 : decode cX2_earnedBy 20 = .ok (.isub, 1) := by decide +kernel
theorem dX2_earnedBy_21 : decode cX2_earnedBy 21 = .ok (.aload_n 0, 1) := by decide +kernel
theorem dX2_earnedBy_22 : decode cX2_earnedBy 22 = .ok (.getfield 9, 3) := by decide +kernel
theorem dX2_earnedBy_25 : decode cX2_earnedBy 25 = .ok (.iload_n 2, 1) := by decide +kernel
theorem dX2_earnedBy_26 : decode cX2_earnedBy 26 = .ok (.iaload, 1) := by decide +kernel
theorem dX2_earnedBy_27 : decode cX2_earnedBy 27 = .ok (.imul, 1) := by decide +kernel
theorem dX2_earnedBy_28 : decode cX2_earnedBy 28 = .ok (.ireturn, 1) := by decide +kernel
theorem dX2_earnedBy_29 : decode cX2_earnedBy 29 = .ok (.iconst 0, 1) := by decide +kernel
theorem dX2_earnedBy_30 : decode cX2_earnedBy 30 = .ok (.istore_n 3, 1) := by decide +kernel
theorem dX2_earnedBy_31 : decode cX2_earnedBy 31 = .ok (.iload_n 2, 1) := by decide +kernel
theorem dX2_earnedBy_32 : decode cX2_earnedBy 32 = .ok (.iconst 1, 1) := by decide +kernel
theorem dX2_earnedBy_33 : decode cX2_earnedBy 33 = .ok (.iadd, 1) := by decide +kernel
theorem dX2_earnedBy_34 : decode cX2_earnedBy 34 = .ok (.istore 4, 2) := by decide +kernel
theorem dX2_earnedBy_36 : decode cX2_earnedBy 36 = .ok (.iload 4, 2) := by decide +kernel
theorem dX2_earnedBy_38 : decode cX2_earnedBy 38 = .ok (.aload_n 1, 1) := by decide +kernel
theorem dX2_earnedBy_39 : decode cX2_earnedBy 39 = .ok (.getfield 15, 3) := by decide +kernel
theorem dX2_earnedBy_42 : decode cX2_earnedBy 42 = .ok (.if_icmp .ge 31, 3) := by decide +kernel
theorem dX2_earnedBy_45 : decode cX2_earnedBy 45 = .ok (.aload_n 1, 1) := by decide +kernel
theorem dX2_earnedBy_46 : decode cX2_earnedBy 46 = .ok (.getfield 32, 3) := by decide +kernel
theorem dX2_earnedBy_49 : decode cX2_earnedBy 49 = .ok (.iload 4, 2) := by decide +kernel
theorem dX2_earnedBy_51 : decode cX2_earnedBy 51 = .ok (.iaload, 1) := by decide +kernel
theorem dX2_earnedBy_52 : decode cX2_earnedBy 52 = .ok (.iload_n 2, 1) := by decide +kernel
theorem dX2_earnedBy_53 : decode cX2_earnedBy 53 = .ok (.if_icmp .ne 14, 3) := by decide +kernel
theorem dX2_earnedBy_56 : decode cX2_earnedBy 56 = .ok (.iload_n 3, 1) := by decide +kernel
theorem dX2_earnedBy_57 : decode cX2_earnedBy 57 = .ok (.aload_n 0, 1) := by decide +kernel
theorem dX2_earnedBy_58 : decode cX2_earnedBy 58 = .ok (.aload_n 1, 1) := by decide +kernel
theorem dX2_earnedBy_59 : decode cX2_earnedBy 59 = .ok (.iload_n 2, 1) := by decide +kernel
theorem dX2_earnedBy_60 : decode cX2_earnedBy 60 = .ok (.iload 4, 2) := by decide +kernel
theorem dX2_earnedBy_62 : decode cX2_earnedBy 62 = .ok (.invokevirtual 39, 3) := by decide +kernel
theorem dX2_earnedBy_65 : decode cX2_earnedBy 65 = .ok (.iadd, 1) := by decide +kernel
theorem dX2_earnedBy_66 : decode cX2_earnedBy 66 = .ok (.istore_n 3, 1) := by decide +kernel
theorem dX2_earnedBy_67 : decode cX2_earnedBy 67 = .ok (.iinc 4 1, 3) := by decide +kernel
theorem dX2_earnedBy_70 : decode cX2_earnedBy 70 = .ok (.goto (-34), 3) := by decide +kernel
theorem dX2_earnedBy_73 : decode cX2_earnedBy 73 = .ok (.iload_n 3, 1) := by decide +kernel
theorem dX2_earnedBy_74 : decode cX2_earnedBy 74 = .ok (.ireturn, 1) := by decide +kernel
theorem dX2_spentBy_0 : decode cX2_spentBy 0 = .ok (.aload_n 1, 1) := by decide +kernel
theorem dX2_spentBy_1 : decode cX2_spentBy 1 = .ok (.getfield 43, 3) := by decide +kernel
theorem dX2_spentBy_4 : decode cX2_spentBy 4 = .ok (.iload_n 2, 1) := by decide +kernel
theorem dX2_spentBy_5 : decode cX2_spentBy 5 = .ok (.iaload, 1) := by decide +kernel
theorem dX2_spentBy_6 : decode cX2_spentBy 6 = .ok (.aload_n 1, 1) := by decide +kernel
theorem dX2_spentBy_7 : decode cX2_spentBy 7 = .ok (.getfield 46, 3) := by decide +kernel
theorem dX2_spentBy_10 : decode cX2_spentBy 10 = .ok (.iload_n 2, 1) := by decide +kernel
theorem dX2_spentBy_11 : decode cX2_spentBy 11 = .ok (.iaload, 1) := by decide +kernel
theorem dX2_spentBy_12 : decode cX2_spentBy 12 = .ok (.iadd, 1) := by decide +kernel
theorem dX2_spentBy_13 : decode cX2_spentBy 13 = .ok (.ireturn, 1) := by decide +kernel
theorem dX2_earnedFrom_0 : decode cX2_earnedFrom 0 = .ok (.aload_n 1, 1) := by decide +kernel
theorem dX2_earnedFrom_1 : decode cX2_earnedFrom 1 = .ok (.getfield 43, 3) := by decide +kernel
theorem dX2_earnedFrom_4 : decode cX2_earnedFrom 4 = .ok (.iload_n 3, 1) := by decide +kernel
theorem dX2_earnedFrom_5 : decode cX2_earnedFrom 5 = .ok (.iaload, 1) := by decide +kernel
theorem dX2_earnedFrom_6 : decode cX2_earnedFrom 6 = .ok (.aload_n 0, 1) := by decide +kernel
theorem dX2_earnedFrom_7 : decode cX2_earnedFrom 7 = .ok (.aload_n 1, 1) := by decide +kernel
theorem dX2_earnedFrom_8 : decode cX2_earnedFrom 8 = .ok (.iload_n 2, 1) := by decide +kernel
theorem dX2_earnedFrom_9 : decode cX2_earnedFrom 9 = .ok (.invokevirtual 35, 3) := by decide +kernel
theorem dX2_earnedFrom_12 : decode cX2_earnedFrom 12 = .ok (.isub, 1) := by decide +kernel
theorem dX2_earnedFrom_13 : decode cX2_earnedFrom 13 = .ok (.aload_n 0, 1) := by decide +kernel
theorem dX2_earnedFrom_14 : decode cX2_earnedFrom 14 = .ok (.getfield 9, 3) := by decide +kernel
theorem dX2_earnedFrom_17 : decode cX2_earnedFrom 17 = .ok (.iload_n 3, 1) := by decide +kernel
theorem dX2_earnedFrom_18 : decode cX2_earnedFrom 18 = .ok (.iaload, 1) := by decide +kernel
theorem dX2_earnedFrom_19 : decode cX2_earnedFrom 19 = .ok (.imul, 1) := by decide +kernel
theorem dX2_earnedFrom_20 : decode cX2_earnedFrom 20 = .ok (.ireturn, 1) := by decide +kernel
theorem dX2_wouldDiffer_0 : decode cX2_wouldDiffer 0 = .ok (.iconst 0, 1) := by decide +kernel
theorem dX2_wouldDiffer_1 : decode cX2_wouldDiffer 1 = .ok (.istore_n 3, 1) := by decide +kernel
theorem dX2_wouldDiffer_2 : decode cX2_wouldDiffer 2 = .ok (.iconst 0, 1) := by decide +kernel
theorem dX2_wouldDiffer_3 : decode cX2_wouldDiffer 3 = .ok (.istore 4, 2) := by decide +kernel
theorem dX2_wouldDiffer_5 : decode cX2_wouldDiffer 5 = .ok (.iload 4, 2) := by decide +kernel
theorem dX2_wouldDiffer_7 : decode cX2_wouldDiffer 7 = .ok (.aload_n 1, 1) := by decide +kernel
theorem dX2_wouldDiffer_8 : decode cX2_wouldDiffer 8 = .ok (.getfield 15, 3) := by decide +kernel
theorem dX2_wouldDiffer_11 : decode cX2_wouldDiffer 11 = .ok (.if_icmp .ge 49, 3) := by decide +kernel
theorem dX2_wouldDiffer_14 : decode cX2_wouldDiffer 14 = .ok (.aload_n 1, 1) := by decide +kernel
theorem dX2_wouldDiffer_15 : decode cX2_wouldDiffer 15 = .ok (.iload 4, 2) := by decide +kernel
theorem dX2_wouldDiffer_17 : decode cX2_wouldDiffer 17 = .ok (.invokevirtual 21, 3) := by decide +kernel
theorem dX2_wouldDiffer_20 : decode cX2_wouldDiffer 20 = .ok (.ifCond .eq 16, 3) := by decide +kernel
theorem dX2_wouldDiffer_23 : decode cX2_wouldDiffer 23 = .ok (.aload_n 0, 1) := by decide +kernel
theorem dX2_wouldDiffer_24 : decode cX2_wouldDiffer 24 = .ok (.aload_n 1, 1) := by decide +kernel
theorem dX2_wouldDiffer_25 : decode cX2_wouldDiffer 25 = .ok (.iload 4, 2) := by decide +kernel
theorem dX2_wouldDiffer_27 : decode cX2_wouldDiffer 27 = .ok (.invokevirtual 49, 3) := by decide +kernel
theorem dX2_wouldDiffer_30 : decode cX2_wouldDiffer 30 = .ok (.ifCond .eq 24, 3) := by decide +kernel
theorem dX2_wouldDiffer_33 : decode cX2_wouldDiffer 33 = .ok (.goto 14, 3) := by decide +kernel
theorem dX2_wouldDiffer_36 : decode cX2_wouldDiffer 36 = .ok (.aload_n 0, 1) := by decide +kernel
theorem dX2_wouldDiffer_37 : decode cX2_wouldDiffer 37 = .ok (.aload_n 1, 1) := by decide +kernel
theorem dX2_wouldDiffer_38 : decode cX2_wouldDiffer 38 = .ok (.aload_n 2, 1) := by decide +kernel
theorem dX2_wouldDiffer_39 : decode cX2_wouldDiffer 39 = .ok (.iload 4, 2) := by decide +kernel
theorem dX2_wouldDiffer_41 : decode cX2_wouldDiffer 41 = .ok (.invokevirtual 53, 3) := by decide +kernel
theorem dX2_wouldDiffer_44 : decode cX2_wouldDiffer 44 = .ok (.ifCond .eq 10, 3) := by decide +kernel
theorem dX2_wouldDiffer_47 : decode cX2_wouldDiffer 47 = .ok (.iload_n 3, 1) := by decide +kernel
theorem dX2_wouldDiffer_48 : decode cX2_wouldDiffer 48 = .ok (.iconst 1, 1) := by decide +kernel
theorem dX2_wouldDiffer_49 : decode cX2_wouldDiffer 49 = .ok (.iload 4, 2) := by decide +kernel
theorem dX2_wouldDiffer_51 : decode cX2_wouldDiffer 51 = .ok (.ishl, 1) := by decide +kernel
theorem dX2_wouldDiffer_52 : decode cX2_wouldDiffer 52 = .ok (.ior, 1) := by decide +kernel
theorem dX2_wouldDiffer_53 : decode cX2_wouldDiffer 53 = .ok (.istore_n 3, 1) := by decide +kernel
theorem dX2_wouldDiffer_54 : decode cX2_wouldDiffer 54 = .ok (.iinc 4 1, 3) := by decide +kernel
theorem dX2_wouldDiffer_57 : decode cX2_wouldDiffer 57 = .ok (.goto (-52), 3) := by decide +kernel
theorem dX2_wouldDiffer_60 : decode cX2_wouldDiffer 60 = .ok (.iload_n 3, 1) := by decide +kernel
theorem dX2_wouldDiffer_61 : decode cX2_wouldDiffer 61 = .ok (.ireturn, 1) := by decide +kernel
theorem dX2_shopWould_0 : decode cX2_shopWould 0 = .ok (.aload_n 0, 1) := by decide +kernel
theorem dX2_shopWould_1 : decode cX2_shopWould 1 = .ok (.aload_n 1, 1) := by decide +kernel
theorem dX2_shopWould_2 : decode cX2_shopWould 2 = .ok (.iload_n 2, 1) := by decide +kernel
theorem dX2_shopWould_3 : decode cX2_shopWould 3 = .ok (.invokevirtual 35, 3) := by decide +kernel
theorem dX2_shopWould_6 : decode cX2_shopWould 6 = .ok (.istore_n 3, 1) := by decide +kernel
theorem dX2_shopWould_7 : decode cX2_shopWould 7 = .ok (.aload_n 1, 1) := by decide +kernel
theorem dX2_shopWould_8 : decode cX2_shopWould 8 = .ok (.getfield 25, 3) := by decide +kernel
theorem dX2_shopWould_11 : decode cX2_shopWould 11 = .ok (.iload_n 2, 1) := by decide +kernel
theorem dX2_shopWould_12 : decode cX2_shopWould 12 = .ok (.aaload, 1) := by decide +kernel
theorem dX2_shopWould_13 : decode cX2_shopWould 13 = .ok (.bipush 41, 2) := by decide +kernel
theorem dX2_shopWould_15 : decode cX2_shopWould 15 = .ok (.iload_n 3, 1) := by decide +kernel
theorem dX2_shopWould_16 : decode cX2_shopWould 16 = .ok (.invokestatic 57, 3) := by decide +kernel
theorem dX2_shopWould_19 : decode cX2_shopWould 19 = .ok (.istore 4, 2) := by decide +kernel
theorem dX2_shopWould_21 : decode cX2_shopWould 21 = .ok (.iload 4, 2) := by decide +kernel
theorem dX2_shopWould_23 : decode cX2_shopWould 23 = .ok (.iload_n 3, 1) := by decide +kernel
theorem dX2_shopWould_24 : decode cX2_shopWould 24 = .ok (.isub, 1) := by decide +kernel
theorem dX2_shopWould_25 : decode cX2_shopWould 25 = .ok (.aload_n 1, 1) := by decide +kernel
theorem dX2_shopWould_26 : decode cX2_shopWould 26 = .ok (.getfield 25, 3) := by decide +kernel
theorem dX2_shopWould_29 : decode cX2_shopWould 29 = .ok (.iload_n 2, 1) := by decide +kernel
theorem dX2_shopWould_30 : decode cX2_shopWould 30 = .ok (.aaload, 1) := by decide +kernel
theorem dX2_shopWould_31 : decode cX2_shopWould 31 = .ok (.iload 4, 2) := by decide +kernel
theorem dX2_shopWould_33 : decode cX2_shopWould 33 = .ok (.iaload, 1) := by decide +kernel
theorem dX2_shopWould_34 : decode cX2_shopWould 34 = .ok (.imul, 1) := by decide +kernel
theorem dX2_shopWould_35 : decode cX2_shopWould 35 = .ok (.aload_n 0, 1) := by decide +kernel
theorem dX2_shopWould_36 : decode cX2_shopWould 36 = .ok (.aload_n 1, 1) := by decide +kernel
theorem dX2_shopWould_37 : decode cX2_shopWould 37 = .ok (.iload_n 2, 1) := by decide +kernel
theorem dX2_shopWould_38 : decode cX2_shopWould 38 = .ok (.invokevirtual 61, 3) := by decide +kernel
theorem dX2_shopWould_41 : decode cX2_shopWould 41 = .ok (.if_icmp .le 7, 3) := by decide +kernel
theorem dX2_shopWould_44 : decode cX2_shopWould 44 = .ok (.iconst 1, 1) := by decide +kernel
theorem dX2_shopWould_45 : decode cX2_shopWould 45 = .ok (.goto 4, 3) := by decide +kernel
theorem dX2_shopWould_48 : decode cX2_shopWould 48 = .ok (.iconst 0, 1) := by decide +kernel
theorem dX2_shopWould_49 : decode cX2_shopWould 49 = .ok (.ireturn, 1) := by decide +kernel
theorem dX2_anyPriceWould_0 : decode cX2_anyPriceWould 0 = .ok (.iload_n 3, 1) := by decide +kernel
theorem dX2_anyPriceWould_1 : decode cX2_anyPriceWould 1 = .ok (.iconst 1, 1) := by decide +kernel
theorem dX2_anyPriceWould_2 : decode cX2_anyPriceWould 2 = .ok (.iadd, 1) := by decide +kernel
theorem dX2_anyPriceWould_3 : decode cX2_anyPriceWould 3 = .ok (.istore 4, 2) := by decide +kernel
theorem dX2_anyPriceWould_5 : decode cX2_anyPriceWould 5 = .ok (.iload 4, 2) := by decide +kernel
theorem dX2_anyPriceWould_7 : decode cX2_anyPriceWould 7 = .ok (.aload_n 1, 1) := by decide +kernel
theorem dX2_anyPriceWould_8 : decode cX2_anyPriceWould 8 = .ok (.getfield 15, 3) := by decide +kernel
theorem dX2_anyPriceWould_11 : decode cX2_anyPriceWould 11 = .ok (.if_icmp .ge 34, 3) := by decide +kernel
theorem dX2_anyPriceWould_14 : decode cX2_anyPriceWould 14 = .ok (.aload_n 1, 1) := by decide +kernel
theorem dX2_anyPriceWould_15 : decode cX2_anyPriceWould 15 = .ok (.getfield 32, 3) := by decide +kernel
theorem dX2_anyPriceWould_18 : decode cX2_anyPriceWould 18 = .ok (.iload 4, 2) := by decide +kernel
theorem dX2_anyPriceWould_20 : decode cX2_anyPriceWould 20 = .ok (.iaload, 1) := by decide +kernel
theorem dX2_anyPriceWould_21 : decode cX2_anyPriceWould 21 = .ok (.iload_n 3, 1) := by decide +kernel
theorem dX2_anyPriceWould_22 : decode cX2_anyPriceWould 22 = .ok (.if_icmp .ne 17, 3) := by decide +kernel
theorem dX2_anyPriceWould_25 : decode cX2_anyPriceWould 25 = .ok (.aload_n 0, 1) := by decide +kernel
theorem dX2_anyPriceWould_26 : decode cX2_anyPriceWould 26 = .ok (.aload_n 1, 1) := by decide +kernel
theorem dX2_anyPriceWould_27 : decode cX2_anyPriceWould 27 = .ok (.aload_n 2, 1) := by decide +kernel
theorem dX2_anyPriceWould_28 : decode cX2_anyPriceWould 28 = .ok (.iload_n 3, 1) := by decide +kernel
theorem dX2_anyPriceWould_29 : decode cX2_anyPriceWould 29 = .ok (.iload 4, 2) := by decide +kernel
theorem dX2_anyPriceWould_31 : decode cX2_anyPriceWould 31 = .ok (.invokevirtual 64, 3) := by decide +kernel
theorem dX2_anyPriceWould_34 : decode cX2_anyPriceWould 34 = .ok (.ifCond .eq 5, 3) := by decide +kernel
theorem dX2_anyPriceWould_37 : decode cX2_anyPriceWould 37 = .ok (.iconst 1, 1) := by decide +kernel
theorem dX2_anyPriceWould_38 : decode cX2_anyPriceWould 38 = .ok (.ireturn, 1) := by decide +kernel
theorem dX2_anyPriceWould_39 : decode cX2_anyPriceWould 39 = .ok (.iinc 4 1, 3) := by decide +kernel
theorem dX2_anyPriceWould_42 : decode cX2_anyPriceWould 42 = .ok (.goto (-37), 3) := by decide +kernel
theorem dX2_anyPriceWould_45 : decode cX2_anyPriceWould 45 = .ok (.iconst 0, 1) := by decide +kernel
theorem dX2_anyPriceWould_46 : decode cX2_anyPriceWould 46 = .ok (.ireturn, 1) := by decide +kernel
theorem dX2_priceWould_0 : decode cX2_priceWould 0 = .ok (.aload_n 0, 1) := by decide +kernel
theorem dX2_priceWould_1 : decode cX2_priceWould 1 = .ok (.aload_n 1, 1) := by decide +kernel
theorem dX2_priceWould_2 : decode cX2_priceWould 2 = .ok (.iload_n 3, 1) := by decide +kernel
theorem dX2_priceWould_3 : decode cX2_priceWould 3 = .ok (.invokevirtual 35, 3) := by decide +kernel
theorem dX2_priceWould_6 : decode cX2_priceWould 6 = .ok (.istore 5, 2) := by decide +kernel
theorem dX2_priceWould_8 : decode cX2_priceWould 8 = .ok (.iconst 0, 1) := by decide +kernel
theorem dX2_priceWould_9 : decode cX2_priceWould 9 = .ok (.istore 6, 2) := by decide +kernel
theorem dX2_priceWould_11 : decode cX2_priceWould 11 = .ok (.iload 6, 2) := by decide +kernel
theorem dX2_priceWould_13 : decode cX2_priceWould 13 = .ok (.bipush 41, 2) := by decide +kernel
theorem dX2_priceWould_15 : decode cX2_priceWould 15 = .ok (.if_icmp .gt 48, 3) := by decide +kernel
theorem dX2_priceWould_18 : decode cX2_priceWould 18 = .ok (.iload 6, 2) := by decide +kernel
theorem dX2_priceWould_20 : decode cX2_priceWould 20 = .ok (.aload_n 1, 1) := by decide +kernel
theorem dX2_priceWould_21 : decode cX2_priceWould 21 = .ok (.getfield 43, 3) := by decide +kernel
theorem dX2_priceWould_24 : decode cX2_priceWould 24 = .ok (.iload 4, 2) := by decide +kernel
theorem dX2_priceWould_26 : decode cX2_priceWould 26 = .ok (.iaload, 1) := by decide +kernel
theorem dX2_priceWould_27 : decode cX2_priceWould 27 = .ok (.if_icmp .eq 30, 3) := by decide +kernel
theorem dX2_priceWould_30 : decode cX2_priceWould 30 = .ok (.iload 6, 2) := by decide +kernel
theorem dX2_priceWould_32 : decode cX2_priceWould 32 = .ok (.iload 5, 2) := by decide +kernel
theorem dX2_priceWould_34 : decode cX2_priceWould 34 = .ok (.isub, 1) := by decide +kernel
theorem dX2_priceWould_35 : decode cX2_priceWould 35 = .ok (.aload_n 2, 1) := by decide +kernel
theorem dX2_priceWould_36 : decode cX2_priceWould 36 = .ok (.iload 4, 2) := by decide +kernel
theorem dX2_priceWould_38 : decode cX2_priceWould 38 = .ok (.iload 6, 2) := by decide +kernel
theorem dX2_priceWould_40 : decode cX2_priceWould 40 = .ok (.invokevirtual 68, 3) := by decide +kernel
theorem dX2_priceWould_43 : decode cX2_priceWould 43 = .ok (.imul, 1) := by decide +kernel
theorem dX2_priceWould_44 : decode cX2_priceWould 44 = .ok (.aload_n 0, 1) := by decide +kernel
theorem dX2_priceWould_45 : decode cX2_priceWould 45 = .ok (.aload_n 1, 1) := by decide +kernel
theorem dX2_priceWould_46 : decode cX2_priceWould 46 = .ok (.iload_n 3, 1) := by decide +kernel
theorem dX2_priceWould_47 : decode cX2_priceWould 47 = .ok (.iload 4, 2) := by decide +kernel
theorem dX2_priceWould_49 : decode cX2_priceWould 49 = .ok (.invokevirtual 39, 3) := by decide +kernel
theorem dX2_priceWould_52 : decode cX2_priceWould 52 = .ok (.if_icmp .le 5, 3) := by decide +kernel
theorem dX2_priceWould_55 : decode cX2_priceWould 55 = .ok (.iconst 1, 1) := by decide +kernel
theorem dX2_priceWould_56 : decode cX2_priceWould 56 = .ok (.ireturn, 1) := by decide +kernel
theorem dX2_priceWould_57 : decode cX2_priceWould 57 = .ok (.iinc 6 1, 3) := by decide +kernel
theorem dX2_priceWould_60 : decode cX2_priceWould 60 = .ok (.goto (-49), 3) := by decide +kernel
theorem dX2_priceWould_63 : decode cX2_priceWould 63 = .ok (.iconst 0, 1) := by decide +kernel
theorem dX2_priceWould_64 : decode cX2_priceWould 64 = .ok (.ireturn, 1) := by decide +kernel
theorem dX3_init_0 : decode cX3_init 0 = .ok (.aload_n 0, 1) := by decide +kernel
theorem dX3_init_1 : decode cX3_init 1 = .ok (.invokespecial 3, 3) := by decide +kernel
theorem dX3_init_4 : decode cX3_init 4 = .ok (.aload_n 0, 1) := by decide +kernel
theorem dX3_init_5 : decode cX3_init 5 = .ok (.sipush 4100, 3) := by decide +kernel
theorem dX3_init_8 : decode cX3_init 8 = .ok (.newarray .int, 2) := by decide +kernel
theorem dX3_init_10 : decode cX3_init 10 = .ok (.putfield 9, 3) := by decide +kernel
theorem dX3_init_13 : decode cX3_init 13 = .ok (.aload_n 0, 1) := by decide +kernel
theorem dX3_init_14 : decode cX3_init 14 = .ok (.iconst 0, 1) := by decide +kernel
theorem dX3_init_15 : decode cX3_init 15 = .ok (.putfield 15, 3) := by decide +kernel
theorem dX3_init_18 : decode cX3_init 18 = .ok (.aload_n 0, 1) := by decide +kernel
theorem dX3_init_19 : decode cX3_init 19 = .ok (.aconst_null, 1) := by decide +kernel
theorem dX3_init_20 : decode cX3_init 20 = .ok (.putfield 19, 3) := by decide +kernel
theorem dX3_init_23 : decode cX3_init 23 = .ok (.aload_n 0, 1) := by decide +kernel
theorem dX3_init_24 : decode cX3_init 24 = .ok (.iconst (-1), 1) := by decide +kernel
theorem dX3_init_25 : decode cX3_init 25 = .ok (.putfield 23, 3) := by decide +kernel
theorem dX3_init_28 : decode cX3_init 28 = .ok (.return_, 1) := by decide +kernel
theorem dX3_mostFee_0 : decode cX3_mostFee 0 = .ok (.iconst 0, 1) := by decide +kernel
theorem dX3_mostFee_1 : decode cX3_mostFee 1 = .ok (.istore 4, 2) := by decide +kernel
theorem dX3_mostFee_3 : decode cX3_mostFee 3 = .ok (.iconst 0, 1) := by decide +kernel
theorem dX3_mostFee_4 : decode cX3_mostFee 4 = .ok (.istore 5, 2) := by decide +kernel
theorem dX3_mostFee_6 : decode cX3_mostFee 6 = .ok (.iload 5, 2) := by decide +kernel
theorem dX3_mostFee_8 : decode cX3_mostFee 8 = .ok (.aload_n 1, 1) := by decide +kernel
theorem dX3_mostFee_9 : decode cX3_mostFee 9 = .ok (.getfield 26, 3) := by decide +kernel
theorem dX3_mostFee_12 : decode cX3_mostFee 12 = .ok (.if_icmp .ge 39, 3) := by decide +kernel
theorem dX3_mostFee_15 : decode cX3_mostFee 15 = .ok (.aload_n 1, 1) := by decide +kernel
theorem dX3_mostFee_16 : decode cX3_mostFee 16 = .ok (.iload 5, 2) := by decide +kernel
theorem dX3_mostFee_18 : decode cX3_mostFee 18 = .ok (.iload_n 3, 1) := by decide +kernel
theorem dX3_mostFee_19 : decode cX3_mostFee 19 = .ok (.invokevirtual 31, 3) := by decide +kernel
theorem dX3_mostFee_22 : decode cX3_mostFee 22 = .ok (.ifCond .eq 23, 3) := by decide +kernel
theorem dX3_mostFee_25 : decode cX3_mostFee 25 = .ok (.iload 4, 2) := by decide +kernel
theorem dX3_mostFee_27 : decode cX3_mostFee 27 = .ok (.aload_n 2, 1) := by decide +kernel
theorem dX3_mostFee_28 : decode cX3_mostFee 28 = .ok (.getfield 35, 3) := by decide +kernel
theorem dX3_mostFee_31 : decode cX3_mostFee 31 = .ok (.iload 5, 2) := by decide +kernel
theorem dX3_mostFee_33 : decode cX3_mostFee 33 = .ok (.iaload, 1) := by decide +kernel
theorem dX3_mostFee_34 : decode cX3_mostFee 34 = .ok (.aload_n 1, 1) := by decide +kernel
theorem dX3_mostFee_35 : decode cX3_mostFee 35 = .ok (.getfield 40, 3) := by decide +kernel
theorem dX3_mostFee_38 : decode cX3_mostFee 38 = .ok (.iload 5, 2) := by decide +kernel
theorem dX3_mostFee_40 : decode cX3_mostFee 40 = .ok (.iaload, 1) := by decide +kernel
theorem dX3_mostFee_41 : decode cX3_mostFee 41 = .ok (.isub, 1) := by decide +kernel
theorem dX3_mostFee_42 : decode cX3_mostFee 42 = .ok (.iadd, 1) := by decide +kernel
theorem dX3_mostFee_43 : decode cX3_mostFee 43 = .ok (.istore 4, 2) := by decide +kernel
theorem dX3_mostFee_45 : decode cX3_mostFee 45 = .ok (.iinc 5 1, 3) := by decide +kernel
theorem dX3_mostFee_48 : decode cX3_mostFee 48 = .ok (.goto (-42), 3) := by decide +kernel
theorem dX3_mostFee_51 : decode cX3_mostFee 51 = .ok (.iload 4, 2) := by decide +kernel
theorem dX3_mostFee_53 : decode cX3_mostFee 53 = .ok (.ireturn, 1) := by decide +kernel
theorem dX3_heals_0 : decode cX3_heals 0 = .ok (.iconst 0, 1) := by decide +kernel
theorem dX3_heals_1 : decode cX3_heals 1 = .ok (.istore_n 3, 1) := by decide +kernel
theorem dX3_heals_2 : decode cX3_heals 2 = .ok (.iconst 0, 1) := by decide +kernel
theorem dX3_heals_3 : decode cX3_heals 3 = .ok (.istore 4, 2) := by decide +kernel
theorem dX3_heals_5 : decode cX3_heals 5 = .ok (.iload 4, 2) := by decide +kernel
theorem dX3_heals_7 : decode cX3_heals 7 = .ok (.aload_n 1, 1) := by decide +kernel
theorem dX3_heals_8 : decode cX3_heals 8 = .ok (.getfield 26, 3) := by decide +kernel
theorem dX3_heals_11 : decode cX3_heals 11 = .ok (.if_icmp .ge 27, 3) := by decide +kernel
theorem dX3_heals_14 : decode cX3_heals 14 = .ok (.iload_n 3, 1) := by decide +kernel
theorem dX3_heals_15 : decode cX3_heals 15 = .ok (.aload_n 2, 1) := by decide +kernel
theorem dX3_heals_16 : decode cX3_heals 16 = .ok (.getfield 35, 3) := by decide +kernel
theorem dX3_heals_19 : decode cX3_heals 19 = .ok (.iload 4, 2) := by decide +kernel
theorem dX3_heals_21 : decode cX3_heals 21 = .ok (.iaload, 1) := by decide +kernel
theorem dX3_heals_22 : decode cX3_heals 22 = .ok (.aload_n 1, 1) := by decide +kernel
theorem dX3_heals_23 : decode cX3_heals 23 = .ok (.getfield 40, 3) := by decide +kernel
theorem dX3_heals_26 : decode cX3_heals 26 = .ok (.iload 4, 2) := by decide +kernel
theorem dX3_heals_28 : decode cX3_heals 28 = .ok (.iaload, 1) := by decide +kernel
theorem dX3_heals_29 : decode cX3_heals 29 = .ok (.isub, 1) := by decide +kernel
theorem dX3_heals_30 : decode cX3_heals 30 = .ok (.iadd, 1) := by decide +kernel
theorem dX3_heals_31 : decode cX3_heals 31 = .ok (.istore_n 3, 1) := by decide +kernel
theorem dX3_heals_32 : decode cX3_heals 32 = .ok (.iinc 4 1, 3) := by decide +kernel
theorem dX3_heals_35 : decode cX3_heals 35 = .ok (.goto (-30), 3) := by decide +kernel
theorem dX3_heals_38 : decode cX3_heals 38 = .ok (.iload_n 3, 1) := by decide +kernel
theorem dX3_heals_39 : decode cX3_heals 39 = .ok (.ifCond .lt 7, 3) := by decide +kernel
theorem dX3_heals_42 : decode cX3_heals 42 = .ok (.iconst 1, 1) := by decide +kernel
theorem dX3_heals_43 : decode cX3_heals 43 = .ok (.goto 4, 3) := by decide +kernel
theorem dX3_heals_46 : decode cX3_heals 46 = .ok (.iconst 0, 1) := by decide +kernel
theorem dX3_heals_47 : decode cX3_heals 47 = .ok (.ireturn, 1) := by decide +kernel
theorem dX3_findPairs_0 : decode cX3_findPairs 0 = .ok (.aload_n 0, 1) := by decide +kernel
theorem dX3_findPairs_1 : decode cX3_findPairs 1 = .ok (.getfield 19, 3) := by decide +kernel
theorem dX3_findPairs_4 : decode cX3_findPairs 4 = .ok (.aload_n 1, 1) := by decide +kernel
theorem dX3_findPairs_5 : decode cX3_findPairs 5 = .ok (.if_acmp .ne 12, 3) := by decide +kernel
theorem dX3_findPairs_8 : decode cX3_findPairs 8 = .ok (.aload_n 0, 1) := by decide +kernel
theorem dX3_findPairs_9 : decode cX3_findPairs 9 = .ok (.getfield 23, 3) := by decide +kernel
theorem dX3_findPairs_12 : decode cX3_findPairs 12 = .ok (.iload_n 2, 1) := by decide +kernel
theorem dX3_findPairs_13 : decode cX3_findPairs 13 = .ok (.if_icmp .ne 4, 3) := by decide +kernel
theorem dX3_findPairs_16 : decode cX3_findPairs 16 = .ok (.return_, 1) := by decide +kernel
theorem dX3_findPairs_17 : decode cX3_findPairs 17 = .ok (.aload_n 0, 1) := by decide +kernel
theorem dX3_findPairs_18 : decode cX3_findPairs 18 = .ok (.aload_n 1, 1) := by decide +kernel
theorem dX3_findPairs_19 : decode cX3_findPairs 19 = .ok (.putfield 19, 3) := by decide +kernel
theorem dX3_findPairs_22 : decode cX3_findPairs 22 = .ok (.aload_n 0, 1) := by decide +kernel
theorem dX3_findPairs_23 : decode cX3_findPairs 23 = .ok (.iload_n 2, 1) := by decide +kernel
theorem dX3_findPairs_24 : decode cX3_findPairs 24 = .ok (.putfield 23, 3) := by decide +kernel
theorem dX3_findPairs_27 : decode cX3_findPairs 27 = .ok (.aload_n 0, 1) := by decide +kernel
theorem dX3_findPairs_28 : decode cX3_findPairs 28 = .ok (.iconst 0, 1) := by decide +kernel
theorem dX3_findPairs_29 : decode cX3_findPairs 29 = .ok (.putfield 15, 3) := by decide +kernel
theorem dX3_findPairs_32 : decode cX3_findPairs 32 = .ok (.iconst 0, 1) := by decide +kernel
theorem dX3_findPairs_33 : decode cX3_findPairs 33 = .ok (.istore 4, 2) := by decide +kernel
theorem dX3_findPairs_35 : decode cX3_findPairs 35 = .ok (.iload 4, 2) := by decide +kernel
theorem dX3_findPairs_37 : decode cX3_findPairs 37 = .ok (.bipush 41, 2) := by decide +kernel
theorem dX3_findPairs_39 : decode cX3_findPairs 39 = .ok (.if_icmp .ge 99, 3) := by decide +kernel
theorem dX3_findPairs_42 : decode cX3_findPairs 42 = .ok (.bipush 100, 2) := by decide +kernel
theorem dX3_findPairs_44 : decode cX3_findPairs 44 = .ok (.iload 4, 2) := by decide +kernel
theorem dX3_findPairs_46 : decode cX3_findPairs 46 = .ok (.aload_n 1, 1) := by decide +kernel
theorem dX3_findPairs_47 : decode cX3_findPairs 47 = .ok (.getfield 43, 3) := by decide +kernel
theorem dX3_findPairs_50 : decode cX3_findPairs 50 = .ok (.iload_n 2, 1) := by decide +kernel
theorem dX3_findPairs_51 : decode cX3_findPairs 51 = .ok (.iaload, 1) := by decide +kernel
theorem dX3_findPairs_52 : decode cX3_findPairs 52 = .ok (.iadd, 1) := by decide +kernel
theorem dX3_findPairs_53 : decode cX3_findPairs 53 = .ok (.imul, 1) := by decide +kernel
theorem dX3_findPairs_54 : decode cX3_findPairs 54 = .ok (.istore 5, 2) := by decide +kernel
theorem dX3_findPairs_56 : decode cX3_findPairs 56 = .ok (.iconst 0, 1) := by decide +kernel
theorem dX3_findPairs_57 : decode cX3_findPairs 57 = .ok (.istore 6, 2) := by decide +kernel
theorem dX3_findPairs_59 : decode cX3_findPairs 59 = .ok (.iload 6, 2) := by decide +kernel
theorem dX3_findPairs_61 : decode cX3_findPairs 61 = .ok (.bipush 100, 2) := by decide +kernel
theorem dX3_findPairs_63 : decode cX3_findPairs 63 = .ok (.if_icmp .ge 69, 3) := by decide +kernel
theorem dX3_findPairs_66 : decode cX3_findPairs 66 = .ok (.aload_n 0, 1) := by decide +kernel
theorem dX3_findPairs_67 : decode cX3_findPairs 67 = .ok (.aload_n 1, 1) := by decide +kernel
theorem dX3_findPairs_68 : decode cX3_findPairs 68 = .ok (.getfield 46, 3) := by decide +kernel
theorem dX3_findPairs_71 : decode cX3_findPairs 71 = .ok (.iload_n 2, 1) := by decide +kernel
theorem dX3_findPairs_72 : decode cX3_findPairs 72 = .ok (.aaload, 1) := by decide +kernel
theorem dX3_findPairs_73 : decode cX3_findPairs 73 = .ok (.iload_n 3, 1) := by decide +kernel
theorem dX3_findPairs_74 : decode cX3_findPairs 74 = .ok (.bipush 100, 2) := by decide +kernel
theorem dX3_findPairs_76 : decode cX3_findPairs 76 = .ok (.iload 6, 2) := by decide +kernel
theorem dX3_findPairs_78 : decode cX3_findPairs 78 = .ok (.isub, 1) := by decide +kernel
theorem dX3_findPairs_79 : decode cX3_findPairs 79 = .ok (.iload 5, 2) := by decide +kernel
theorem dX3_findPairs_81 : decode cX3_findPairs 81 = .ok (.invokevirtual 50, 3) := by decide +kernel
theorem dX3_findPairs_84 : decode cX3_findPairs 84 = .ok (.ifCond .eq 42, 3) := by decide +kernel
theorem dX3_findPairs_87 : decode cX3_findPairs 87 = .ok (.aload_n 0, 1) := by decide +kernel
theorem dX3_findPairs_88 : decode cX3_findPairs 88 = .ok (.getfield 15, 3) := by decide +kernel
theorem dX3_findPairs_91 : decode cX3_findPairs 91 = .ok (.aload_n 0, 1) := by decide +kernel
theorem dX3_findPairs_92 : decode cX3_findPairs 92 = .ok (.getfield 9, 3) := by decide +kernel
theorem dX3_findPairs_95 : decode cX3_findPairs 95 = .ok (.arraylength, 1) := by decide +kernel
theorem dX3_findPairs_96 : decode cX3_findPairs 96 = .ok (.if_icmp .ge 30, 3) := by decide +kernel
theorem dX3_findPairs_99 : decode cX3_findPairs 99 = .ok (.aload_n 0, 1) := by decide +kernel
theorem dX3_findPairs_100 : decode cX3_findPairs 100 = .ok (.getfield 9, 3) := by decide +kernel
theorem dX3_findPairs_103 : decode cX3_findPairs 103 = .ok (.aload_n 0, 1) := by decide +kernel
theorem dX3_findPairs_104 : decode cX3_findPairs 104 = .ok (.getfield 15, 3) := by decide +kernel
theorem dX3_findPairs_107 : decode cX3_findPairs 107 = .ok (.bipush 100, 2) := by decide +kernel
theorem dX3_findPairs_109 : decode cX3_findPairs 109 = .ok (.iload 4, 2) := by decide +kernel
theorem dX3_findPairs_111 : decode cX3_findPairs 111 = .ok (.imul, 1) := by decide +kernel
theorem dX3_findPairs_112 : decode cX3_findPairs 112 = .ok (.iload 6, 2) := by decide +kernel
theorem dX3_findPairs_114 : decode cX3_findPairs 114 = .ok (.iadd, 1) := by decide +kernel
theorem dX3_findPairs_115 : decode cX3_findPairs 115 = .ok (.iastore, 1) := by decide +kernel
theorem dX3_findPairs_116 : decode cX3_findPairs 116 = .ok (.aload_n 0, 1) := by decide +kernel
theorem dX3_findPairs_117 : decode cX3_findPairs 117 = .ok (.dup, 1) := by decide +kernel
theorem dX3_findPairs_118 : decode cX3_findPairs 118 = .ok (.getfield 15, 3) := by decide +kernel
theorem dX3_findPairs_121 : decode cX3_findPairs 121 = .ok (.iconst 1, 1) := by decide +kernel
theorem dX3_findPairs_122 : decode cX3_findPairs 122 = .ok (.iadd, 1) := by decide +kernel
theorem dX3_findPairs_123 : decode cX3_findPairs 123 = .ok (.putfield 15, 3) := by decide +kernel
theorem dX3_findPairs_126 : decode cX3_findPairs 126 = .ok (.iinc 6 1, 3) := by decide +kernel
theorem dX3_findPairs_129 : decode cX3_findPairs 129 = .ok (.goto (-70), 3) := by decide +kernel
theorem dX3_findPairs_132 : decode cX3_findPairs 132 = .ok (.iinc 4 1, 3) := by decide +kernel
theorem dX3_findPairs_135 : decode cX3_findPairs 135 = .ok (.goto (-100), 3) := by decide +kernel
theorem dX3_findPairs_138 : decode cX3_findPairs 138 = .ok (.return_, 1) := by decide +kernel
theorem dX3_isBest_0 : decode cX3_isBest 0 = .ok (.iload_n 3, 1) := by decide +kernel
theorem dX3_isBest_1 : decode cX3_isBest 1 = .ok (.iload_n 2, 1) := by decide +kernel
theorem dX3_isBest_2 : decode cX3_isBest 2 = .ok (.imul, 1) := by decide +kernel
theorem dX3_isBest_3 : decode cX3_isBest 3 = .ok (.iload 4, 2) := by decide +kernel
theorem dX3_isBest_5 : decode cX3_isBest 5 = .ok (.isub, 1) := by decide +kernel
theorem dX3_isBest_6 : decode cX3_isBest 6 = .ok (.aload_n 1, 1) := by decide +kernel
theorem dX3_isBest_7 : decode cX3_isBest 7 = .ok (.iload_n 2, 1) := by decide +kernel
theorem dX3_isBest_8 : decode cX3_isBest 8 = .ok (.iaload, 1) := by decide +kernel
theorem dX3_isBest_9 : decode cX3_isBest 9 = .ok (.imul, 1) := by decide +kernel
theorem dX3_isBest_10 : decode cX3_isBest 10 = .ok (.istore 5, 2) := by decide +kernel
theorem dX3_isBest_12 : decode cX3_isBest 12 = .ok (.iconst 0, 1) := by decide +kernel
theorem dX3_isBest_13 : decode cX3_isBest 13 = .ok (.istore 6, 2) := by decide +kernel
theorem dX3_isBest_15 : decode cX3_isBest 15 = .ok (.iload 6, 2) := by decide +kernel
theorem dX3_isBest_17 : decode cX3_isBest 17 = .ok (.bipush 41, 2) := by decide +kernel
theorem dX3_isBest_19 : decode cX3_isBest 19 = .ok (.if_icmp .gt 45, 3) := by decide +kernel
theorem dX3_isBest_22 : decode cX3_isBest 22 = .ok (.iload_n 3, 1) := by decide +kernel
theorem dX3_isBest_23 : decode cX3_isBest 23 = .ok (.iload 6, 2) := by decide +kernel
theorem dX3_isBest_25 : decode cX3_isBest 25 = .ok (.imul, 1) := by decide +kernel
theorem dX3_isBest_26 : decode cX3_isBest 26 = .ok (.iload 4, 2) := by decide +kernel
theorem dX3_isBest_28 : decode cX3_isBest 28 = .ok (.isub, 1) := by decide +kernel
theorem dX3_isBest_29 : decode cX3_isBest 29 = .ok (.aload_n 1, 1) := by decide +kernel
theorem dX3_isBest_30 : decode cX3_isBest 30 = .ok (.iload 6, 2) := by decide +kernel
theorem dX3_isBest_32 : decode cX3_isBest 32 = .ok (.iaload, 1) := by decide +kernel
theorem dX3_isBest_33 : decode cX3_isBest 33 = .ok (.imul, 1) := by decide +kernel
theorem dX3_isBest_34 : decode cX3_isBest 34 = .ok (.istore 7, 2) := by decide +kernel
theorem dX3_isBest_36 : decode cX3_isBest 36 = .ok (.iload 7, 2) := by decide +kernel
theorem dX3_isBest_38 : decode cX3_isBest 38 = .ok (.iload 5, 2) := by decide +kernel
theorem dX3_isBest_40 : decode cX3_isBest 40 = .ok (.if_icmp .gt 16, 3) := by decide +kernel
theorem dX3_isBest_43 : decode cX3_isBest 43 = .ok (.iload 7, 2) := by decide +kernel
theorem dX3_isBest_45 : decode cX3_isBest 45 = .ok (.iload 5, 2) := by decide +kernel
theorem dX3_isBest_47 : decode cX3_isBest 47 = .ok (.if_icmp .ne 11, 3) := by decide +kernel
theorem dX3_isBest_50 : decode cX3_isBest 50 = .ok (.iload 6, 2) := by decide +kernel
theorem dX3_isBest_52 : decode cX3_isBest 52 = .ok (.iload_n 2, 1) := by decide +kernel
theorem dX3_isBest_53 : decode cX3_isBest 53 = .ok (.if_icmp .ge 5, 3) := by decide +kernel
theorem dX3_isBest_56 : decode cX3_isBest 56 = .ok (.iconst 0, 1) := by decide +kernel
theorem dX3_isBest_57 : decode cX3_isBest 57 = .ok (.ireturn, 1) := by decide +kernel
theorem dX3_isBest_58 : decode cX3_isBest 58 = .ok (.iinc 6 1, 3) := by decide +kernel
theorem dX3_isBest_61 : decode cX3_isBest 61 = .ok (.goto (-46), 3) := by decide +kernel
theorem dX3_isBest_64 : decode cX3_isBest 64 = .ok (.iconst 1, 1) := by decide +kernel
theorem dX3_isBest_65 : decode cX3_isBest 65 = .ok (.ireturn, 1) := by decide +kernel
theorem dX3_shareOf_0 : decode cX3_shareOf 0 = .ok (.aload 4, 2) := by decide +kernel
theorem dX3_shareOf_2 : decode cX3_shareOf 2 = .ok (.getfield 54, 3) := by decide +kernel
theorem dX3_shareOf_5 : decode cX3_shareOf 5 = .ok (.iload_n 2, 1) := by decide +kernel
theorem dX3_shareOf_6 : decode cX3_shareOf 6 = .ok (.iaload, 1) := by decide +kernel
theorem dX3_shareOf_7 : decode cX3_shareOf 7 = .ok (.istore 5, 2) := by decide +kernel
theorem dX3_shareOf_9 : decode cX3_shareOf 9 = .ok (.aload 4, 2) := by decide +kernel
theorem dX3_shareOf_11 : decode cX3_shareOf 11 = .ok (.getfield 57, 3) := by decide +kernel
theorem dX3_shareOf_14 : decode cX3_shareOf 14 = .ok (.iload_n 2, 1) := by decide +kernel
theorem dX3_shareOf_15 : decode cX3_shareOf 15 = .ok (.iaload, 1) := by decide +kernel
theorem dX3_shareOf_16 : decode cX3_shareOf 16 = .ok (.istore 6, 2) := by decide +kernel
theorem dX3_shareOf_18 : decode cX3_shareOf 18 = .ok (.bipush 100, 2) := by decide +kernel
theorem dX3_shareOf_20 : decode cX3_shareOf 20 = .ok (.iload_n 3, 1) := by decide +kernel
theorem dX3_shareOf_21 : decode cX3_shareOf 21 = .ok (.bipush 100, 2) := by decide +kernel
theorem dX3_shareOf_23 : decode cX3_shareOf 23 = .ok (.irem, 1) := by decide +kernel
theorem dX3_shareOf_24 : decode cX3_shareOf 24 = .ok (.isub, 1) := by decide +kernel
theorem dX3_shareOf_25 : decode cX3_shareOf 25 = .ok (.istore 7, 2) := by decide +kernel
theorem dX3_shareOf_27 : decode cX3_shareOf 27 = .ok (.iload 7, 2) := by decide +kernel
theorem dX3_shareOf_29 : decode cX3_shareOf 29 = .ok (.iload 5, 2) := by decide +kernel
theorem dX3_shareOf_31 : decode cX3_shareOf 31 = .ok (.imul, 1) := by decide +kernel
theorem dX3_shareOf_32 : decode cX3_shareOf 32 = .ok (.bipush 100, 2) := by decide +kernel
theorem dX3_shareOf_34 : decode cX3_shareOf 34 = .ok (.iload_n 3, 1) := by decide +kernel
theorem dX3_shareOf_35 : decode cX3_shareOf 35 = .ok (.bipush 100, 2) := by decide +kernel
theorem dX3_shareOf_37 : decode cX3_shareOf 37 = .ok (.idiv, 1) := by decide +kernel
theorem dX3_shareOf_38 : decode cX3_shareOf 38 = .ok (.aload_n 1, 1) := by decide +kernel
theorem dX3_shareOf_39 : decode cX3_shareOf 39 = .ok (.getfield 43, 3) := by decide +kernel
theorem dX3_shareOf_42 : decode cX3_shareOf 42 = .ok (.iload_n 2, 1) := by decide +kernel
theorem dX3_shareOf_43 : decode cX3_shareOf 43 = .ok (.iaload, 1) := by decide +kernel
theorem dX3_shareOf_44 : decode cX3_shareOf 44 = .ok (.iadd, 1) := by decide +kernel
theorem dX3_shareOf_45 : decode cX3_shareOf 45 = .ok (.imul, 1) := by decide +kernel
theorem dX3_shareOf_46 : decode cX3_shareOf 46 = .ok (.isub, 1) := by decide +kernel
theorem dX3_shareOf_47 : decode cX3_shareOf 47 = .ok (.i2l, 1) := by decide +kernel
theorem dX3_shareOf_48 : decode cX3_shareOf 48 = .ok (.iload 6, 2) := by decide +kernel
theorem dX3_shareOf_50 : decode cX3_shareOf 50 = .ok (.i2l, 1) := by decide +kernel
theorem dX3_shareOf_51 : decode cX3_shareOf 51 = .ok (.lmul, 1) := by decide +kernel
theorem dX3_shareOf_52 : decode cX3_shareOf 52 = .ok (.lstore 8, 2) := by decide +kernel
theorem dX3_shareOf_54 : decode cX3_shareOf 54 = .ok (.ldc2_w 60, 3) := by decide +kernel
theorem dX3_shareOf_57 : decode cX3_shareOf 57 = .ok (.iload 5, 2) := by decide +kernel
theorem dX3_shareOf_59 : decode cX3_shareOf 59 = .ok (.aload 4, 2) := by decide +kernel
theorem dX3_shareOf_61 : decode cX3_shareOf 61 = .ok (.getfield 62, 3) := by decide +kernel
theorem dX3_shareOf_64 : decode cX3_shareOf 64 = .ok (.iload_n 2, 1) := by decide +kernel
theorem dX3_shareOf_65 : decode cX3_shareOf 65 = .ok (.iaload, 1) := by decide +kernel
theorem dX3_shareOf_66 : decode cX3_shareOf 66 = .ok (.isub, 1) := by decide +kernel
theorem dX3_shareOf_67 : decode cX3_shareOf 67 = .ok (.i2l, 1) := by decide +kernel
theorem dX3_shareOf_68 : decode cX3_shareOf 68 = .ok (.lmul, 1) := by decide +kernel
theorem dX3_shareOf_69 : decode cX3_shareOf 69 = .ok (.iload 6, 2) := by decide +kernel
theorem dX3_shareOf_71 : decode cX3_shareOf 71 = .ok (.i2l, 1) := by decide +kernel
theorem dX3_shareOf_72 : decode cX3_shareOf 72 = .ok (.lmul, 1) := by decide +kernel
theorem dX3_shareOf_73 : decode cX3_shareOf 73 = .ok (.lstore 10, 2) := by decide +kernel
theorem dX3_shareOf_75 : decode cX3_shareOf 75 = .ok (.lload 10, 2) := by decide +kernel
theorem dX3_shareOf_77 : decode cX3_shareOf 77 = .ok (.lconst 0, 1) := by decide +kernel
theorem dX3_shareOf_78 : decode cX3_shareOf 78 = .ok (.lcmp, 1) := by decide +kernel
theorem dX3_shareOf_79 : decode cX3_shareOf 79 = .ok (.ifCond .ne 7, 3) := by decide +kernel
theorem dX3_shareOf_82 : decode cX3_shareOf 82 = .ok (.iconst 0, 1) := by decide +kernel
theorem dX3_shareOf_83 : decode cX3_shareOf 83 = .ok (.goto 13, 3) := by decide +kernel
theorem dX3_shareOf_86 : decode cX3_shareOf 86 = .ok (.ldc2_w 65, 3) := by decide +kernel
theorem dX3_shareOf_89 : decode cX3_shareOf 89 = .ok (.lload 8, 2) := by decide +kernel
theorem dX3_shareOf_91 : decode cX3_shareOf 91 = .ok (.lmul, 1) := by decide +kernel
theorem dX3_shareOf_92 : decode cX3_shareOf 92 = .ok (.lload 10, 2) := by decide +kernel
theorem dX3_shareOf_94 : decode cX3_shareOf 94 = .ok (.ldiv, 1) := by decide +kernel
theorem dX3_shareOf_95 : decode cX3_shareOf 95 = .ok (.l2i, 1) := by decide +kernel
theorem dX3_shareOf_96 : decode cX3_shareOf 96 = .ok (.ireturn, 1) := by decide +kernel
theorem dX4_init_0 : decode cX4_init 0 = .ok (.aload_n 0, 1) := by decide +kernel
theorem dX4_init_1 : decode cX4_init 1 = .ok (.invokespecial 3, 3) := by decide +kernel
theorem dX4_init_4 : decode cX4_init 4 = .ok (.aload_n 0, 1) := by decide +kernel
theorem dX4_init_5 : decode cX4_init 5 = .ok (.bipush 8, 2) := by decide +kernel
theorem dX4_init_7 : decode cX4_init 7 = .ok (.newarray .int, 2) := by decide +kernel
theorem dX4_init_9 : decode cX4_init 9 = .ok (.putfield 9, 3) := by decide +kernel
theorem dX4_init_12 : decode cX4_init 12 = .ok (.aload_n 0, 1) := by decide +kernel
theorem dX4_init_13 : decode cX4_init 13 = .ok (.sipush 128, 3) := by decide +kernel
theorem dX4_init_16 : decode cX4_init 16 = .ok (.bipush 8, 2) := by decide +kernel
theorem dX4_init_18 : decode cX4_init 18 = .ok (.multianewarray 15 2, 4) := by decide +kernel
theorem dX4_init_22 : decode cX4_init 22 = .ok (.putfield 17, 3) := by decide +kernel
theorem dX4_init_25 : decode cX4_init 25 = .ok (.return_, 1) := by decide +kernel
theorem dX4_better_0 : decode cX4_better 0 = .ok (.iconst 0, 1) := by decide +kernel
theorem dX4_better_1 : decode cX4_better 1 = .ok (.istore 6, 2) := by decide +kernel
theorem dX4_better_3 : decode cX4_better 3 = .ok (.iload 6, 2) := by decide +kernel
theorem dX4_better_5 : decode cX4_better 5 = .ok (.aload_n 1, 1) := by decide +kernel
theorem dX4_better_6 : decode cX4_better 6 = .ok (.getfield 20, 3) := by decide +kernel
theorem dX4_better_9 : decode cX4_better 9 = .ok (.if_icmp .ge 51, 3) := by decide +kernel
theorem dX4_better_12 : decode cX4_better 12 = .ok (.aload_n 1, 1) := by decide +kernel
theorem dX4_better_13 : decode cX4_better 13 = .ok (.getfield 26, 3) := by decide +kernel
theorem dX4_better_16 : decode cX4_better 16 = .ok (.iload 6, 2) := by decide +kernel
theorem dX4_better_18 : decode cX4_better 18 = .ok (.iaload, 1) := by decide +kernel
theorem dX4_better_19 : decode cX4_better 19 = .ok (.istore 7, 2) := by decide +kernel
theorem dX4_better_21 : decode cX4_better 21 = .ok (.aload_n 0, 1) := by decide +kernel
theorem dX4_better_22 : decode cX4_better 22 = .ok (.getfield 9, 3) := by decide +kernel
theorem dX4_better_25 : decode cX4_better 25 = .ok (.iload 6, 2) := by decide +kernel
theorem dX4_better_27 : decode cX4_better 27 = .ok (.iload 7, 2) := by decide +kernel
theorem dX4_better_29 : decode cX4_better 29 = .ok (.ifCond .lt 22, 3) := by decide +kernel
theorem dX4_better_32 : decode cX4_better 32 = .ok (.iload_n 2, 1) := by decide +kernel
theorem dX4_better_33 : decode cX4_better 33 = .ok (.iload 6, 2) := by decide +kernel
theorem dX4_better_35 : decode cX4_better 35 = .ok (.ishr, 1) := by decide +kernel
theorem dX4_better_36 : decode cX4_better 36 = .ok (.iconst 1, 1) := by decide +kernel
theorem dX4_better_37 : decode cX4_better 37 = .ok (.iand, 1) := by decide +kernel
theorem dX4_better_38 : decode cX4_better 38 = .ok (.ifCond .eq 13, 3) := by decide +kernel
theorem dX4_better_41 : decode cX4_better 41 = .ok (.aload_n 0, 1) := by decide +kernel
theorem dX4_better_42 : decode cX4_better 42 = .ok (.getfield 9, 3) := by decide +kernel
theorem dX4_better_45 : decode cX4_better 45 = .ok (.iload 7, 2) := by decide +kernel
theorem dX4_better_47 : decode cX4_better 47 = .ok (.iaload, 1) := by decide +kernel
theorem dX4_better_48 : decode cX4_better 48 = .ok (.goto 5, 3) := by decide +kernel
theorem dX4_better_51 : decode cX4_better 51 = .ok (.iload 6, 2) := by decide +kernel
theorem dX4_better_53 : decode cX4_better 53 = .ok (.iastore, 1) := by decide +kernel
theorem dX4_better_54 : decode cX4_better 54 = .ok (.iinc 6 1, 3) := by decide +kernel
theorem dX4_better_57 : decode cX4_better 57 = .ok (.goto (-54), 3) := by decide +kernel
theorem dX4_better_60 : decode cX4_better 60 = .ok (.iconst 0, 1) := by decide +kernel
theorem dX4_better_61 : decode cX4_better 61 = .ok (.istore 6, 2) := by decide +kernel
theorem dX4_better_63 : decode cX4_better 63 = .ok (.iconst 0, 1) := by decide +kernel
theorem dX4_better_64 : decode cX4_better 64 = .ok (.istore 7, 2) := by decide +kernel
theorem dX4_better_66 : decode cX4_better 66 = .ok (.iload 7, 2) := by decide +kernel
theorem dX4_better_68 : decode cX4_better 68 = .ok (.aload_n 1, 1) := by decide +kernel
theorem dX4_better_69 : decode cX4_better 69 = .ok (.getfield 20, 3) := by decide +kernel
theorem dX4_better_72 : decode cX4_better 72 = .ok (.if_icmp .ge 41, 3) := by decide +kernel
theorem dX4_better_75 : decode cX4_better 75 = .ok (.aload_n 0, 1) := by decide +kernel
theorem dX4_better_76 : decode cX4_better 76 = .ok (.getfield 9, 3) := by decide +kernel
theorem dX4_better_79 : decode cX4_better 79 = .ok (.iload 7, 2) := by decide +kernel
theorem dX4_better_81 : decode cX4_better 81 = .ok (.iaload, 1) := by decide +kernel
theorem dX4_better_82 : decode cX4_better 82 = .ok (.aload_n 0, 1) := by decide +kernel
theorem dX4_better_83 : decode cX4_better 83 = .ok (.getfield 9, 3) := by decide +kernel
theorem dX4_better_86 : decode cX4_better 86 = .ok (.iload_n 3, 1) := by decide +kernel
theorem dX4_better_87 : decode cX4_better 87 = .ok (.iaload, 1) := by decide +kernel
theorem dX4_better_88 : decode cX4_better 88 = .ok (.if_icmp .ne 19, 3) := by decide +kernel
theorem dX4_better_91 : decode cX4_better 91 = .ok (.iload 6, 2) := by decide +kernel
theorem dX4_better_93 : decode cX4_better 93 = .ok (.aload 5, 2) := by decide +kernel
theorem dX4_better_95 : decode cX4_better 95 = .ok (.iload 7, 2) := by decide +kernel
theorem dX4_better_97 : decode cX4_better 97 = .ok (.iaload, 1) := by decide +kernel
theorem dX4_better_98 : decode cX4_better 98 = .ok (.aload 4, 2) := by decide +kernel
theorem dX4_better_100 : decode cX4_better 100 = .ok (.iload 7, 2) := by decide +kernel
theorem dX4_better_102 : decode cX4_better 102 = .ok (.iaload, 1) := by decide +kernel
theorem dX4_better_103 : decode cX4_better 103 = .ok (.isub, 1) := by decide +kernel
theorem dX4_better_104 : decode cX4_better 104 = .ok (.iadd, 1) := by decide +kernel
theorem dX4_better_105 : decode cX4_better 105 = .ok (.istore 6, 2) := by decide +kernel
theorem dX4_better_107 : decode cX4_better 107 = .ok (.iinc 7 1, 3) := by decide +kernel
theorem dX4_better_110 : decode cX4_better 110 = .ok (.goto (-44), 3) := by decide +kernel
theorem dX4_better_113 : decode cX4_better 113 = .ok (.iload 6, 2) := by decide +kernel
theorem dX4_better_115 : decode cX4_better 115 = .ok (.ireturn, 1) := by decide +kernel
theorem dX4_findRests_0 : decode cX4_findRests 0 = .ok (.aload_n 0, 1) := by decide +kernel
theorem dX4_findRests_1 : decode cX4_findRests 1 = .ok (.aload_n 1, 1) := by decide +kernel
theorem dX4_findRests_2 : decode cX4_findRests 2 = .ok (.invokevirtual 29, 3) := by decide +kernel
theorem dX4_findRests_5 : decode cX4_findRests 5 = .ok (.istore 4, 2) := by decide +kernel
theorem dX4_findRests_7 : decode cX4_findRests 7 = .ok (.iconst 0, 1) := by decide +kernel
theorem dX4_findRests_8 : decode cX4_findRests 8 = .ok (.istore 5, 2) := by decide +kernel
theorem dX4_findRests_10 : decode cX4_findRests 10 = .ok (.iload 5, 2) := by decide +kernel
theorem dX4_findRests_12 : decode cX4_findRests 12 = .ok (.sipush 128, 3) := by decide +kernel
theorem dX4_findRests_15 : decode cX4_findRests 15 = .ok (.if_icmp .ge 70, 3) := by decide +kernel
theorem dX4_findRests_18 : decode cX4_findRests 18 = .ok (.iconst 2, 1) := by decide +kernel
theorem dX4_findRests_19 : decode cX4_findRests 19 = .ok (.iload 5, 2) := by decide +kernel
theorem dX4_findRests_21 : decode cX4_findRests 21 = .ok (.imul, 1) := by decide +kernel
theorem dX4_findRests_22 : decode cX4_findRests 22 = .ok (.iload 4, 2) := by decide +kernel
theorem dX4_findRests_24 : decode cX4_findRests 24 = .ok (.iconst (-1), 1) := by decide +kernel
theorem dX4_findRests_25 : decode cX4_findRests 25 = .ok (.ixor, 1) := by decide +kernel
theorem dX4_findRests_26 : decode cX4_findRests 26 = .ok (.iand, 1) := by decide +kernel
theorem dX4_findRests_27 : decode cX4_findRests 27 = .ok (.ifCond .ne 52, 3) := by decide +kernel
theorem dX4_findRests_30 : decode cX4_findRests 30 = .ok (.aload_n 2, 1) := by decide +kernel
theorem dX4_findRests_31 : decode cX4_findRests 31 = .ok (.iconst 2, 1) := by decide +kernel
theorem dX4_findRests_32 : decode cX4_findRests 32 = .ok (.iload 5, 2) := by decide +kernel
theorem dX4_findRests_34 : decode cX4_findRests 34 = .ok (.imul, 1) := by decide +kernel
theorem dX4_findRests_35 : decode cX4_findRests 35 = .ok (.putfield 33, 3) := by decide +kernel
theorem dX4_findRests_38 : decode cX4_findRests 38 = .ok (.aload_n 3, 1) := by decide +kernel
theorem dX4_findRests_39 : decode cX4_findRests 39 = .ok (.aload_n 1, 1) := by decide +kernel
theorem dX4_findRests_40 : decode cX4_findRests 40 = .ok (.aload_n 2, 1) := by decide +kernel
theorem dX4_findRests_41 : decode cX4_findRests 41 = .ok (.invokevirtual 38, 3) := by decide +kernel
theorem dX4_findRests_44 : decode cX4_findRests 44 = .ok (.iconst 0, 1) := by decide +kernel
theorem dX4_findRests_45 : decode cX4_findRests 45 = .ok (.istore 6, 2) := by decide +kernel
theorem dX4_findRests_47 : decode cX4_findRests 47 = .ok (.iload 6, 2) := by decide +kernel
theorem dX4_findRests_49 : decode cX4_findRests 49 = .ok (.aload_n 1, 1) := by decide +kernel
theorem dX4_findRests_50 : decode cX4_findRests 50 = .ok (.getfield 20, 3) := by decide +kernel
theorem dX4_findRests_53 : decode cX4_findRests 53 = .ok (.if_icmp .ge 26, 3) := by decide +kernel
theorem dX4_findRests_56 : decode cX4_findRests 56 = .ok (.aload_n 0, 1) := by decide +kernel
theorem dX4_findRests_57 : decode cX4_findRests 57 = .ok (.getfield 17, 3) := by decide +kernel
theorem dX4_findRests_60 : decode cX4_findRests 60 = .ok (.iload 5, 2) := by decide +kernel
theorem dX4_findRests_62 : decode cX4_findRests 62 = .ok (.aaload, 1) := by decide +kernel
theorem dX4_findRests_63 : decode cX4_findRests 63 = .ok (.iload 6, 2) := by decide +kernel
theorem dX4_findRests_65 : decode cX4_findRests 65 = .ok (.aload_n 3, 1) := by decide +kernel
theorem dX4_findRests_66 : decode cX4_findRests 66 = .ok (.getfield 44, 3) := by decide +kernel
theorem dX4_findRests_69 : decode cX4_findRests 69 = .ok (.iload 6, 2) := by decide +kernel
theorem dX4_findRests_71 : decode cX4_findRests 71 = .ok (.iaload, 1) := by decide +kernel
theorem dX4_findRests_72 : decode cX4_findRests 72 = .ok (.iastore, 1) := by decide +kernel
theorem dX4_findRests_73 : decode cX4_findRests 73 = .ok (.iinc 6 1, 3) := by decide +kernel
theorem dX4_findRests_76 : decode cX4_findRests 76 = .ok (.goto (-29), 3) := by decide +kernel
theorem dX4_findRests_79 : decode cX4_findRests 79 = .ok (.iinc 5 1, 3) := by decide +kernel
theorem dX4_findRests_82 : decode cX4_findRests 82 = .ok (.goto (-72), 3) := by decide +kernel
theorem dX4_findRests_85 : decode cX4_findRests 85 = .ok (.aload_n 1, 1) := by decide +kernel
theorem dX4_findRests_86 : decode cX4_findRests 86 = .ok (.iconst 0, 1) := by decide +kernel
theorem dX4_findRests_87 : decode cX4_findRests 87 = .ok (.putfield 46, 3) := by decide +kernel
theorem dX4_findRests_90 : decode cX4_findRests 90 = .ok (.iconst 0, 1) := by decide +kernel
theorem dX4_findRests_91 : decode cX4_findRests 91 = .ok (.istore 5, 2) := by decide +kernel
theorem dX4_findRests_93 : decode cX4_findRests 93 = .ok (.iload 5, 2) := by decide +kernel
theorem dX4_findRests_95 : decode cX4_findRests 95 = .ok (.sipush 128, 3) := by decide +kernel
theorem dX4_findRests_98 : decode cX4_findRests 98 = .ok (.if_icmp .ge 66, 3) := by decide +kernel
theorem dX4_findRests_101 : decode cX4_findRests 101 = .ok (.iconst 2, 1) := by decide +kernel
theorem dX4_findRests_102 : decode cX4_findRests 102 = .ok (.iload 5, 2) := by decide +kernel
theorem dX4_findRests_104 : decode cX4_findRests 104 = .ok (.imul, 1) := by decide +kernel
theorem dX4_findRests_105 : decode cX4_findRests 105 = .ok (.iload 4, 2) := by decide +kernel
theorem dX4_findRests_107 : decode cX4_findRests 107 = .ok (.iconst (-1), 1) := by decide +kernel
theorem dX4_findRests_108 : decode cX4_findRests 108 = .ok (.ixor, 1) := by decide +kernel
theorem dX4_findRests_109 : decode cX4_findRests 109 = .ok (.iand, 1) := by decide +kernel
theorem dX4_findRests_110 : decode cX4_findRests 110 = .ok (.ifCond .ne 48, 3) := by decide +kernel
theorem dX4_findRests_113 : decode cX4_findRests 113 = .ok (.aload_n 0, 1) := by decide +kernel
theorem dX4_findRests_114 : decode cX4_findRests 114 = .ok (.aload_n 1, 1) := by decide +kernel
theorem dX4_findRests_115 : decode cX4_findRests 115 = .ok (.iload 4, 2) := by decide +kernel
theorem dX4_findRests_117 : decode cX4_findRests 117 = .ok (.iload 5, 2) := by decide +kernel
theorem dX4_findRests_119 : decode cX4_findRests 119 = .ok (.invokevirtual 49, 3) := by decide +kernel
theorem dX4_findRests_122 : decode cX4_findRests 122 = .ok (.ifCond .eq 36, 3) := by decide +kernel
theorem dX4_findRests_125 : decode cX4_findRests 125 = .ok (.aload_n 1, 1) := by decide +kernel
theorem dX4_findRests_126 : decode cX4_findRests 126 = .ok (.getfield 46, 3) := by decide +kernel
theorem dX4_findRests_129 : decode cX4_findRests 129 = .ok (.sipush 128, 3) := by decide +kernel
theorem dX4_findRests_132 : decode cX4_findRests 132 = .ok (.if_icmp .ge 26, 3) := by decide +kernel
theorem dX4_findRests_135 : decode cX4_findRests 135 = .ok (.aload_n 1, 1) := by decide +kernel
theorem dX4_findRests_136 : decode cX4_findRests 136 = .ok (.getfield 53, 3) := by decide +kernel
theorem dX4_findRests_139 : decode cX4_findRests 139 = .ok (.aload_n 1, 1) := by decide +kernel
theorem dX4_findRests_140 : decode cX4_findRests 140 = .ok (.getfield 46, 3) := by decide +kernel
theorem dX4_findRests_143 : decode cX4_findRests 143 = .ok (.iconst 2, 1) := by decide +kernel
theorem dX4_findRests_144 : decode cX4_findRests 144 = .ok (.iload 5, 2) := by decide +kernel
theorem dX4_findRests_146 : decode cX4_findRests 146 = .ok (.imul, 1) := by decide +kernel
theorem dX4_findRests_147 : decode cX4_findRests 147 = .ok (.iastore, 1) := by decide +kernel
theorem dX4_findRests_148 : decode cX4_findRests 148 = .ok (.aload_n 1, 1) := by decide +kernel
theorem dX4_findRests_149 : decode cX4_findRests 149 = .ok (.dup, 1) := by decide +kernel
theorem dX4_findRests_150 : decode cX4_findRests 150 = .ok (.getfield 46, 3) := by decide +kernel
theorem dX4_findRests_153 : decode cX4_findRests 153 = .ok (.iconst 1, 1) := by decide +kernel
theorem dX4_findRests_154 : decode cX4_findRests 154 = .ok (.iadd, 1) := by decide +kernel
theorem dX4_findRests_155 : decode cX4_findRests 155 = .ok (.putfield 46, 3) := by decide +kernel
theorem dX4_findRests_158 : decode cX4_findRests 158 = .ok (.iinc 5 1, 3) := by decide +kernel
theorem dX4_findRests_161 : decode cX4_findRests 161 = .ok (.goto (-68), 3) := by decide +kernel
theorem dX4_findRests_164 : decode cX4_findRests 164 = .ok (.aload_n 1, 1) := by decide +kernel
theorem dX4_findRests_165 : decode cX4_findRests 165 = .ok (.iconst 1, 1) := by decide +kernel
theorem dX4_findRests_166 : decode cX4_findRests 166 = .ok (.putfield 56, 3) := by decide +kernel
theorem dX4_findRests_169 : decode cX4_findRests 169 = .ok (.return_, 1) := by decide +kernel
theorem dX4_buyingHouses_0 : decode cX4_buyingHouses 0 = .ok (.iconst 0, 1) := by decide +kernel
theorem dX4_buyingHouses_1 : decode cX4_buyingHouses 1 = .ok (.istore_n 2, 1) := by decide +kernel
theorem dX4_buyingHouses_2 : decode cX4_buyingHouses 2 = .ok (.iconst 0, 1) := by decide +kernel
theorem dX4_buyingHouses_3 : decode cX4_buyingHouses 3 = .ok (.istore_n 3, 1) := by decide +kernel
theorem dX4_buyingHouses_4 : decode cX4_buyingHouses 4 = .ok (.iload_n 3, 1) := by decide +kernel
theorem dX4_buyingHouses_5 : decode cX4_buyingHouses 5 = .ok (.aload_n 1, 1) := by decide +kernel
theorem dX4_buyingHouses_6 : decode cX4_buyingHouses 6 = .ok (.getfield 20, 3) := by decide +kernel
theorem dX4_buyingHouses_9 : decode cX4_buyingHouses 9 = .ok (.if_icmp .ge 24, 3) := by decide +kernel
theorem dX4_buyingHouses_12 : decode cX4_buyingHouses 12 = .ok (.aload_n 1, 1) := by decide +kernel
theorem dX4_buyingHouses_13 : decode cX4_buyingHouses 13 = .ok (.getfield 26, 3) := by decide +kernel
theorem dX4_buyingHouses_16 : decode cX4_buyingHouses 16 = .ok (.iload_n 3, 1) := by decide +kernel
theorem dX4_buyingHouses_17 : decode cX4_buyingHouses 17 = .ok (.iaload, 1) := by decide +kernel
theorem dX4_buyingHouses_18 : decode cX4_buyingHouses 18 = .ok (.ifCond .lt 9, 3) := by decide +kernel
theorem dX4_buyingHouses_21 : decode cX4_buyingHouses 21 = .ok (.iload_n 2, 1) := by decide +kernel
theorem dX4_buyingHouses_22 : decode cX4_buyingHouses 22 = .ok (.iconst 1, 1) := by decide +kernel
theorem dX4_buyingHouses_23 : decode cX4_buyingHouses 23 = .ok (.iload_n 3, 1) := by decide +kernel
theorem dX4_buyingHouses_24 : decode cX4_buyingHouses 24 = .ok (.ishl, 1) := by decide +kernel
theorem dX4_buyingHouses_25 : decode cX4_buyingHouses 25 = .ok (.ior, 1) := by decide +kernel
theorem dX4_buyingHouses_26 : decode cX4_buyingHouses 26 = .ok (.istore_n 2, 1) := by decide +kernel
theorem dX4_buyingHouses_27 : decode cX4_buyingHouses 27 = .ok (.iinc 3 1, 3) := by decide +kernel
theorem dX4_buyingHouses_30 : decode cX4_buyingHouses 30 = .ok (.goto (-26), 3) := by decide +kernel
theorem dX4_buyingHouses_33 : decode cX4_buyingHouses 33 = .ok (.iload_n 2, 1) := by decide +kernel
theorem dX4_buyingHouses_34 : decode cX4_buyingHouses 34 = .ok (.ireturn, 1) := by decide +kernel
theorem dX4_isAtRest_0 : decode cX4_isAtRest 0 = .ok (.iload_n 2, 1) := by decide +kernel
theorem dX4_isAtRest_1 : decode cX4_isAtRest 1 = .ok (.iconst 2, 1) := by decide +kernel
theorem dX4_isAtRest_2 : decode cX4_isAtRest 2 = .ok (.iload_n 3, 1) := by decide +kernel
theorem dX4_isAtRest_3 : decode cX4_isAtRest 3 = .ok (.imul, 1) := by decide +kernel
theorem dX4_isAtRest_4 : decode cX4_isAtRest 4 = .ok (.iconst (-1), 1) := by decide +kernel
theorem dX4_isAtRest_5 : decode cX4_isAtRest 5 = .ok (.ixor, 1) := by decide +kernel
theorem dX4_isAtRest_6 : decode cX4_isAtRest 6 = .ok (.iand, 1) := by decide +kernel
theorem dX4_isAtRest_7 : decode cX4_isAtRest 7 = .ok (.istore 4, 2) := by decide +kernel
theorem dX4_isAtRest_9 : decode cX4_isAtRest 9 = .ok (.iconst 1, 1) := by decide +kernel
theorem dX4_isAtRest_10 : decode cX4_isAtRest 10 = .ok (.istore 5, 2) := by decide +kernel
theorem dX4_isAtRest_12 : decode cX4_isAtRest 12 = .ok (.iload 5, 2) := by decide +kernel
theorem dX4_isAtRest_14 : decode cX4_isAtRest 14 = .ok (.aload_n 1, 1) := by decide +kernel
theorem dX4_isAtRest_15 : decode cX4_isAtRest 15 = .ok (.getfield 20, 3) := by decide +kernel
theorem dX4_isAtRest_18 : decode cX4_isAtRest 18 = .ok (.if_icmp .ge 58, 3) := by decide +kernel
theorem dX4_isAtRest_21 : decode cX4_isAtRest 21 = .ok (.iload_n 3, 1) := by decide +kernel
theorem dX4_isAtRest_22 : decode cX4_isAtRest 22 = .ok (.iconst 1, 1) := by decide +kernel
theorem dX4_isAtRest_23 : decode cX4_isAtRest 23 = .ok (.iload 5, 2) := by decide +kernel
theorem dX4_isAtRest_25 : decode cX4_isAtRest 25 = .ok (.iconst 1, 1) := by decide +kernel
theorem dX4_isAtRest_26 : decode cX4_isAtRest 26 = .ok (.isub, 1) := by decide +kernel
theorem dX4_isAtRest_27 : decode cX4_isAtRest 27 = .ok (.ishl, 1) := by decide +kernel
theorem dX4_isAtRest_28 : decode cX4_isAtRest 28 = .ok (.ior, 1) := by decide +kernel
theorem dX4_isAtRest_29 : decode cX4_isAtRest 29 = .ok (.istore 6, 2) := by decide +kernel
theorem dX4_isAtRest_31 : decode cX4_isAtRest 31 = .ok (.iload 4, 2) := by decide +kernel
theorem dX4_isAtRest_33 : decode cX4_isAtRest 33 = .ok (.iload 5, 2) := by decide +kernel
theorem dX4_isAtRest_35 : decode cX4_isAtRest 35 = .ok (.ishr, 1) := by decide +kernel
theorem dX4_isAtRest_36 : decode cX4_isAtRest 36 = .ok (.iconst 1, 1) := by decide +kernel
theorem dX4_isAtRest_37 : decode cX4_isAtRest 37 = .ok (.iand, 1) := by decide +kernel
theorem dX4_isAtRest_38 : decode cX4_isAtRest 38 = .ok (.ifCond .eq 32, 3) := by decide +kernel
theorem dX4_isAtRest_41 : decode cX4_isAtRest 41 = .ok (.aload_n 0, 1) := by decide +kernel
theorem dX4_isAtRest_42 : decode cX4_isAtRest 42 = .ok (.aload_n 1, 1) := by decide +kernel
theorem dX4_isAtRest_43 : decode cX4_isAtRest 43 = .ok (.iconst 2, 1) := by decide +kernel
theorem dX4_isAtRest_44 : decode cX4_isAtRest 44 = .ok (.iload 6, 2) := by decide +kernel
theorem dX4_isAtRest_46 : decode cX4_isAtRest 46 = .ok (.imul, 1) := by decide +kernel
theorem dX4_isAtRest_47 : decode cX4_isAtRest 47 = .ok (.iload 5, 2) := by decide +kernel
theorem dX4_isAtRest_49 : decode cX4_isAtRest 49 = .ok (.aload_n 0, 1) := by decide +kernel
theorem dX4_isAtRest_50 : decode cX4_isAtRest 50 = .ok (.getfield 17, 3) := by decide +kernel
theorem dX4_isAtRest_53 : decode cX4_isAtRest 53 = .ok (.iload_n 3, 1) := by decide +kernel
theorem dX4_isAtRest_54 : decode cX4_isAtRest 54 = .ok (.aaload, 1) := by decide +kernel
theorem dX4_isAtRest_55 : decode cX4_isAtRest 55 = .ok (.aload_n 0, 1) := by decide +kernel
theorem dX4_isAtRest_56 : decode cX4_isAtRest 56 = .ok (.getfield 17, 3) := by decide +kernel
theorem dX4_isAtRest_59 : decode cX4_isAtRest 59 = .ok (.iload 6, 2) := by decide +kernel
theorem dX4_isAtRest_61 : decode cX4_isAtRest 61 = .ok (.aaload, 1) := by decide +kernel
theorem dX4_isAtRest_62 : decode cX4_isAtRest 62 = .ok (.invokevirtual 60, 3) := by decide +kernel
theorem dX4_isAtRest_65 : decode cX4_isAtRest 65 = .ok (.ifCond .le 5, 3) := by decide +kernel
theorem dX4_isAtRest_68 : decode cX4_isAtRest 68 = .ok (.iconst 0, 1) := by decide +kernel
theorem dX4_isAtRest_69 : decode cX4_isAtRest 69 = .ok (.ireturn, 1) := by decide +kernel
theorem dX4_isAtRest_70 : decode cX4_isAtRest 70 = .ok (.iinc 5 1, 3) := by decide +kernel
theorem dX4_isAtRest_73 : decode cX4_isAtRest 73 = .ok (.goto (-61), 3) := by decide +kernel
theorem dX4_isAtRest_76 : decode cX4_isAtRest 76 = .ok (.iconst 1, 1) := by decide +kernel
theorem dX4_isAtRest_77 : decode cX4_isAtRest 77 = .ok (.ireturn, 1) := by decide +kernel
theorem dX7_init_0 : decode cX7_init 0 = .ok (.aload_n 0, 1) := by decide +kernel
theorem dX7_init_1 : decode cX7_init 1 = .ok (.invokespecial 3, 3) := by decide +kernel
theorem dX7_init_4 : decode cX7_init 4 = .ok (.aload_n 0, 1) := by decide +kernel
theorem dX7_init_5 : decode cX7_init 5 = .ok (.iconst 0, 1) := by decide +kernel
theorem dX7_init_6 : decode cX7_init 6 = .ok (.putfield 9, 3) := by decide +kernel
theorem dX7_init_9 : decode cX7_init 9 = .ok (.aload_n 0, 1) := by decide +kernel
theorem dX7_init_10 : decode cX7_init 10 = .ok (.bipush 41, 2) := by decide +kernel
theorem dX7_init_12 : decode cX7_init 12 = .ok (.putfield 15, 3) := by decide +kernel
theorem dX7_init_15 : decode cX7_init 15 = .ok (.aload_n 0, 1) := by decide +kernel
theorem dX7_init_16 : decode cX7_init 16 = .ok (.iconst 0, 1) := by decide +kernel
theorem dX7_init_17 : decode cX7_init 17 = .ok (.putfield 18, 3) := by decide +kernel
theorem dX7_init_20 : decode cX7_init 20 = .ok (.aload_n 0, 1) := by decide +kernel
theorem dX7_init_21 : decode cX7_init 21 = .ok (.iconst 0, 1) := by decide +kernel
theorem dX7_init_22 : decode cX7_init 22 = .ok (.putfield 22, 3) := by decide +kernel
theorem dX7_init_25 : decode cX7_init 25 = .ok (.aload_n 0, 1) := by decide +kernel
theorem dX7_init_26 : decode cX7_init 26 = .ok (.iconst (-1), 1) := by decide +kernel
theorem dX7_init_27 : decode cX7_init 27 = .ok (.putfield 25, 3) := by decide +kernel
theorem dX7_init_30 : decode cX7_init 30 = .ok (.aload_n 0, 1) := by decide +kernel
theorem dX7_init_31 : decode cX7_init 31 = .ok (.iconst 0, 1) := by decide +kernel
theorem dX7_init_32 : decode cX7_init 32 = .ok (.putfield 28, 3) := by decide +kernel
theorem dX7_init_35 : decode cX7_init 35 = .ok (.return_, 1) := by decide +kernel
theorem dX7_reset_0 : decode cX7_reset 0 = .ok (.aload_n 0, 1) := by decide +kernel
theorem dX7_reset_1 : decode cX7_reset 1 = .ok (.iconst 0, 1) := by decide +kernel
theorem dX7_reset_2 : decode cX7_reset 2 = .ok (.putfield 9, 3) := by decide +kernel
theorem dX7_reset_5 : decode cX7_reset 5 = .ok (.aload_n 0, 1) := by decide +kernel
theorem dX7_reset_6 : decode cX7_reset 6 = .ok (.bipush 41, 2) := by decide +kernel
theorem dX7_reset_8 : decode cX7_reset 8 = .ok (.putfield 15, 3) := by decide +kernel
theorem dX7_reset_11 : decode cX7_reset 11 = .ok (.aload_n 0, 1) := by decide +kernel
theorem dX7_reset_12 : decode cX7_reset 12 = .ok (.iconst 0, 1) := by decide +kernel
theorem dX7_reset_13 : decode cX7_reset 13 = .ok (.putfield 18, 3) := by decide +kernel
theorem dX7_reset_16 : decode cX7_reset 16 = .ok (.aload_n 0, 1) := by decide +kernel
theorem dX7_reset_17 : decode cX7_reset 17 = .ok (.iconst 0, 1) := by decide +kernel
theorem dX7_reset_18 : decode cX7_reset 18 = .ok (.putfield 22, 3) := by decide +kernel
theorem dX7_reset_21 : decode cX7_reset 21 = .ok (.aload_n 0, 1) := by decide +kernel
theorem dX7_reset_22 : decode cX7_reset 22 = .ok (.iconst (-1), 1) := by decide +kernel
theorem dX7_reset_23 : decode cX7_reset 23 = .ok (.putfield 25, 3) := by decide +kernel
theorem dX7_reset_26 : decode cX7_reset 26 = .ok (.aload_n 0, 1) := by decide +kernel
theorem dX7_reset_27 : decode cX7_reset 27 = .ok (.iconst 0, 1) := by decide +kernel
theorem dX7_reset_28 : decode cX7_reset 28 = .ok (.putfield 28, 3) := by decide +kernel
theorem dX7_reset_31 : decode cX7_reset 31 = .ok (.return_, 1) := by decide +kernel
theorem dX7_copy_0 : decode cX7_copy 0 = .ok (.aload_n 0, 1) := by decide +kernel
theorem dX7_copy_1 : decode cX7_copy 1 = .ok (.aload_n 1, 1) := by decide +kernel
theorem dX7_copy_2 : decode cX7_copy 2 = .ok (.getfield 9, 3) := by decide +kernel
theorem dX7_copy_5 : decode cX7_copy 5 = .ok (.putfield 9, 3) := by decide +kernel
theorem dX7_copy_8 : decode cX7_copy 8 = .ok (.aload_n 0, 1) := by decide +kernel
theorem dX7_copy_9 : decode cX7_copy 9 = .ok (.aload_n 1, 1) := by decide +kernel
theorem dX7_copy_10 : decode cX7_copy 10 = .ok (.getfield 15, 3) := by decide +kernel
theorem dX7_copy_13 : decode cX7_copy 13 = .ok (.putfield 15, 3) := by decide +kernel
theorem dX7_copy_16 : decode cX7_copy 16 = .ok (.aload_n 0, 1) := by decide +kernel
theorem dX7_copy_17 : decode cX7_copy 17 = .ok (.aload_n 1, 1) := by decide +kernel
theorem dX7_copy_18 : decode cX7_copy 18 = .ok (.getfield 18, 3) := by decide +kernel
theorem dX7_copy_21 : decode cX7_copy 21 = .ok (.putfield 18, 3) := by decide +kernel
theorem dX7_copy_24 : decode cX7_copy 24 = .ok (.aload_n 0, 1) := by decide +kernel
theorem dX7_copy_25 : decode cX7_copy 25 = .ok (.aload_n 1, 1) := by decide +kernel
theorem dX7_copy_26 : decode cX7_copy 26 = .ok (.getfield 22, 3) := by decide +kernel
theorem dX7_copy_29 : decode cX7_copy 29 = .ok (.putfield 22, 3) := by decide +kernel
theorem dX7_copy_32 : decode cX7_copy 32 = .ok (.aload_n 0, 1) := by decide +kernel
theorem dX7_copy_33 : decode cX7_copy 33 = .ok (.aload_n 1, 1) := by decide +kernel
theorem dX7_copy_34 : decode cX7_copy 34 = .ok (.getfield 25, 3) := by decide +kernel
theorem dX7_copy_37 : decode cX7_copy 37 = .ok (.putfield 25, 3) := by decide +kernel
theorem dX7_copy_40 : decode cX7_copy 40 = .ok (.aload_n 0, 1) := by decide +kernel
theorem dX7_copy_41 : decode cX7_copy 41 = .ok (.aload_n 1, 1) := by decide +kernel
theorem dX7_copy_42 : decode cX7_copy 42 = .ok (.getfield 28, 3) := by decide +kernel
theorem dX7_copy_45 : decode cX7_copy 45 = .ok (.putfield 28, 3) := by decide +kernel
theorem dX7_copy_48 : decode cX7_copy 48 = .ok (.return_, 1) := by decide +kernel
theorem dX7_same_0 : decode cX7_same 0 = .ok (.aload_n 0, 1) := by decide +kernel
theorem dX7_same_1 : decode cX7_same 1 = .ok (.getfield 9, 3) := by decide +kernel
theorem dX7_same_4 : decode cX7_same 4 = .ok (.aload_n 1, 1) := by decide +kernel
theorem dX7_same_5 : decode cX7_same 5 = .ok (.getfield 9, 3) := by decide +kernel
theorem dX7_same_8 : decode cX7_same 8 = .ok (.if_icmp .ne 15, 3) := by decide +kernel
theorem dX7_same_11 : decode cX7_same 11 = .ok (.aload_n 0, 1) := by decide +kernel
theorem dX7_same_12 : decode cX7_same 12 = .ok (.aload_n 1, 1) := by decide +kernel
theorem dX7_same_13 : decode cX7_same 13 = .ok (.invokevirtual 31, 3) := by decide +kernel
theorem dX7_same_16 : decode cX7_same 16 = .ok (.ifCond .eq 7, 3) := by decide +kernel
theorem dX7_same_19 : decode cX7_same 19 = .ok (.iconst 1, 1) := by decide +kernel
theorem dX7_same_20 : decode cX7_same 20 = .ok (.goto 4, 3) := by decide +kernel
theorem dX7_same_23 : decode cX7_same 23 = .ok (.iconst 0, 1) := by decide +kernel
theorem dX7_same_24 : decode cX7_same 24 = .ok (.ireturn, 1) := by decide +kernel
theorem dX7_sameButJoined_0 : decode cX7_sameButJoined 0 = .ok (.aload_n 0, 1) := by decide +kernel
theorem dX7_sameButJoined_1 : decode cX7_sameButJoined 1 = .ok (.getfield 15, 3) := by decide +kernel
theorem dX7_sameButJoined_4 : decode cX7_sameButJoined 4 = .ok (.aload_n 1, 1) := by decide +kernel
theorem dX7_sameButJoined_5 : decode cX7_sameButJoined 5 = .ok (.getfield 15, 3) := by decide +kernel
theorem dX7_sameButJoined_8 : decode cX7_sameButJoined 8 = .ok (.if_icmp .ne 51, 3) := by decide +kernel
theorem dX7_sameButJoined_11 : decode cX7_sameButJoined 11 = .ok (.aload_n 0, 1) := by decide +kernel
theorem dX7_sameButJoined_12 : decode cX7_sameButJoined 12 = .ok (.getfield 18, 3) := by decide +kernel
theorem dX7_sameButJoined_15 : decode cX7_sameButJoined 15 = .ok (.aload_n 1, 1) := by decide +kernel
theorem dX7_sameButJoined_16 : decode cX7_sameButJoined 16 = .ok (.getfield 18, 3) := by decide +kernel
theorem dX7_sameButJoined_19 : decode cX7_sameButJoined 19 = .ok (.if_icmp .ne 40, 3) := by decide +kernel
theorem dX7_sameButJoined_22 : decode cX7_sameButJoined 22 = .ok (.aload_n 0, 1) := by decide +kernel
theorem dX7_sameButJoined_23 : decode cX7_sameButJoined 23 = .ok (.getfield 22, 3) := by decide +kernel
theorem dX7_sameButJoined_26 : decode cX7_sameButJoined 26 = .ok (.aload_n 1, 1) := by decide +kernel
theorem dX7_sameButJoined_27 : decode cX7_sameButJoined 27 = .ok (.getfield 22, 3) := by decide +kernel
theorem dX7_sameButJoined_30 : decode cX7_sameButJoined 30 = .ok (.if_icmp .ne 29, 3) := by decide +kernel
theorem dX7_sameButJoined_33 : decode cX7_sameButJoined 33 = .ok (.aload_n 0, 1) := by decide +kernel
theorem dX7_sameButJoined_34 : decode cX7_sameButJoined 34 = .ok (.getfield 25, 3) := by decide +kernel
theorem dX7_sameButJoined_37 : decode cX7_sameButJoined 37 = .ok (.aload_n 1, 1) := by decide +kernel
theorem dX7_sameButJoined_38 : decode cX7_sameButJoined 38 = .ok (.getfield 25, 3) := by decide +kernel
theorem dX7_sameButJoined_41 : decode cX7_sameButJoined 41 = .ok (.if_icmp .ne 18, 3) := by decide +kernel
theorem dX7_sameButJoined_44 : decode cX7_sameButJoined 44 = .ok (.aload_n 0, 1) := by decide +kernel
theorem dX7_sameButJoined_45 : decode cX7_sameButJoined 45 = .ok (.getfield 28, 3) := by decide +kernel
theorem dX7_sameButJoined_48 : decode cX7_sameButJoined 48 = .ok (.aload_n 1, 1) := by decide +kernel
theorem dX7_sameButJoined_49 : decode cX7_sameButJoined 49 = .ok (.getfield 28, 3) := by decide +kernel
theorem dX7_sameButJoined_52 : decode cX7_sameButJoined 52 = .ok (.if_icmp .ne 7, 3) := by decide +kernel
theorem dX7_sameButJoined_55 : decode cX7_sameButJoined 55 = .ok (.iconst 1, 1) := by decide +kernel
theorem dX7_sameButJoined_56 : decode cX7_sameButJoined 56 = .ok (.goto 4, 3) := by decide +kernel
theorem dX7_sameButJoined_59 : decode cX7_sameButJoined 59 = .ok (.iconst 0, 1) := by decide +kernel
theorem dX7_sameButJoined_60 : decode cX7_sameButJoined 60 = .ok (.ireturn, 1) := by decide +kernel
theorem dX7_joins_0 : decode cX7_joins 0 = .ok (.aload_n 0, 1) := by decide +kernel
theorem dX7_joins_1 : decode cX7_joins 1 = .ok (.getfield 9, 3) := by decide +kernel
theorem dX7_joins_4 : decode cX7_joins 4 = .ok (.iload_n 1, 1) := by decide +kernel
theorem dX7_joins_5 : decode cX7_joins 5 = .ok (.ishr, 1) := by decide +kernel
theorem dX7_joins_6 : decode cX7_joins 6 = .ok (.iconst 1, 1) := by decide +kernel
theorem dX7_joins_7 : decode cX7_joins 7 = .ok (.iand, 1) := by decide +kernel
theorem dX7_joins_8 : decode cX7_joins 8 = .ok (.ifCond .eq 7, 3) := by decide +kernel
theorem dX7_joins_11 : decode cX7_joins 11 = .ok (.iconst 1, 1) := by decide +kernel
theorem dX7_joins_12 : decode cX7_joins 12 = .ok (.goto 4, 3) := by decide +kernel
theorem dX7_joins_15 : decode cX7_joins 15 = .ok (.iconst 0, 1) := by decide +kernel
theorem dX7_joins_16 : decode cX7_joins 16 = .ok (.ireturn, 1) := by decide +kernel
theorem dX8_init_0 : decode cX8_init 0 = .ok (.aload_n 0, 1) := by decide +kernel
theorem dX8_init_1 : decode cX8_init 1 = .ok (.invokespecial 3, 3) := by decide +kernel
theorem dX8_init_4 : decode cX8_init 4 = .ok (.aload_n 0, 1) := by decide +kernel
theorem dX8_init_5 : decode cX8_init 5 = .ok (.iconst 0, 1) := by decide +kernel
theorem dX8_init_6 : decode cX8_init 6 = .ok (.putfield 9, 3) := by decide +kernel
theorem dX8_init_9 : decode cX8_init 9 = .ok (.aload_n 0, 1) := by decide +kernel
theorem dX8_init_10 : decode cX8_init 10 = .ok (.iconst 0, 1) := by decide +kernel
theorem dX8_init_11 : decode cX8_init 11 = .ok (.putfield 15, 3) := by decide +kernel
theorem dX8_init_14 : decode cX8_init 14 = .ok (.aload_n 0, 1) := by decide +kernel
theorem dX8_init_15 : decode cX8_init 15 = .ok (.bipush 8, 2) := by decide +kernel
theorem dX8_init_17 : decode cX8_init 17 = .ok (.newarray .int, 2) := by decide +kernel
theorem dX8_init_19 : decode cX8_init 19 = .ok (.putfield 18, 3) := by decide +kernel
theorem dX8_init_22 : decode cX8_init 22 = .ok (.aload_n 0, 1) := by decide +kernel
theorem dX8_init_23 : decode cX8_init 23 = .ok (.bipush 8, 2) := by decide +kernel
theorem dX8_init_25 : decode cX8_init 25 = .ok (.newarray .int, 2) := by decide +kernel
theorem dX8_init_27 : decode cX8_init 27 = .ok (.putfield 22, 3) := by decide +kernel
theorem dX8_init_30 : decode cX8_init 30 = .ok (.aload_n 0, 1) := by decide +kernel
theorem dX8_init_31 : decode cX8_init 31 = .ok (.bipush 8, 2) := by decide +kernel
theorem dX8_init_33 : decode cX8_init 33 = .ok (.newarray .int, 2) := by decide +kernel
theorem dX8_init_35 : decode cX8_init 35 = .ok (.putfield 25, 3) := by decide +kernel
theorem dX8_init_38 : decode cX8_init 38 = .ok (.aload_n 0, 1) := by decide +kernel
theorem dX8_init_39 : decode cX8_init 39 = .ok (.bipush 8, 2) := by decide +kernel
theorem dX8_init_41 : decode cX8_init 41 = .ok (.newarray .int, 2) := by decide +kernel
theorem dX8_init_43 : decode cX8_init 43 = .ok (.putfield 28, 3) := by decide +kernel
theorem dX8_init_46 : decode cX8_init 46 = .ok (.aload_n 0, 1) := by decide +kernel
theorem dX8_init_47 : decode cX8_init 47 = .ok (.bipush 8, 2) := by decide +kernel
theorem dX8_init_49 : decode cX8_init 49 = .ok (.bipush 42, 2) := by decide +kernel
theorem dX8_init_51 : decode cX8_init 51 = .ok (.multianewarray 31 2, 4) := by decide +kernel
theorem dX8_init_55 : decode cX8_init 55 = .ok (.putfield 33, 3) := by decide +kernel
theorem dX8_init_58 : decode cX8_init 58 = .ok (.aload_n 0, 1) := by decide +kernel
theorem dX8_init_59 : decode cX8_init 59 = .ok (.new 36, 3) := by decide +kernel
theorem dX8_init_62 : decode cX8_init 62 = .ok (.dup, 1) := by decide +kernel
theorem dX8_init_63 : decode cX8_init 63 = .ok (.invokespecial 38, 3) := by decide +kernel
theorem dX8_init_66 : decode cX8_init 66 = .ok (.putfield 39, 3) := by decide +kernel
theorem dX8_init_69 : decode cX8_init 69 = .ok (.aload_n 0, 1) := by decide +kernel
theorem dX8_init_70 : decode cX8_init 70 = .ok (.bipush 8, 2) := by decide +kernel
theorem dX8_init_72 : decode cX8_init 72 = .ok (.newarray .int, 2) := by decide +kernel
theorem dX8_init_74 : decode cX8_init 74 = .ok (.putfield 43, 3) := by decide +kernel
theorem dX8_init_77 : decode cX8_init 77 = .ok (.aload_n 0, 1) := by decide +kernel
theorem dX8_init_78 : decode cX8_init 78 = .ok (.bipush 8, 2) := by decide +kernel
theorem dX8_init_80 : decode cX8_init 80 = .ok (.newarray .int, 2) := by decide +kernel
theorem dX8_init_82 : decode cX8_init 82 = .ok (.putfield 46, 3) := by decide +kernel
theorem dX8_init_85 : decode cX8_init 85 = .ok (.aload_n 0, 1) := by decide +kernel
theorem dX8_init_86 : decode cX8_init 86 = .ok (.sipush 128, 3) := by decide +kernel
theorem dX8_init_89 : decode cX8_init 89 = .ok (.newarray .int, 2) := by decide +kernel
theorem dX8_init_91 : decode cX8_init 91 = .ok (.putfield 49, 3) := by decide +kernel
theorem dX8_init_94 : decode cX8_init 94 = .ok (.aload_n 0, 1) := by decide +kernel
theorem dX8_init_95 : decode cX8_init 95 = .ok (.iconst 0, 1) := by decide +kernel
theorem dX8_init_96 : decode cX8_init 96 = .ok (.putfield 52, 3) := by decide +kernel
theorem dX8_init_99 : decode cX8_init 99 = .ok (.aload_n 0, 1) := by decide +kernel
theorem dX8_init_100 : decode cX8_init 100 = .ok (.iconst 0, 1) := by decide +kernel
theorem dX8_init_101 : decode cX8_init 101 = .ok (.putfield 55, 3) := by decide +kernel
theorem dX8_init_104 : decode cX8_init 104 = .ok (.return_, 1) := by decide +kernel
theorem dX8_empty_0 : decode cX8_empty 0 = .ok (.aload_n 0, 1) := by decide +kernel
theorem dX8_empty_1 : decode cX8_empty 1 = .ok (.iconst 0, 1) := by decide +kernel
theorem dX8_empty_2 : decode cX8_empty 2 = .ok (.putfield 9, 3) := by decide +kernel
theorem dX8_empty_5 : decode cX8_empty 5 = .ok (.aload_n 0, 1) := by decide +kernel
theorem dX8_empty_6 : decode cX8_empty 6 = .ok (.iconst 0, 1) := by decide +kernel
theorem dX8_empty_7 : decode cX8_empty 7 = .ok (.putfield 15, 3) := by decide +kernel
theorem dX8_empty_10 : decode cX8_empty 10 = .ok (.iconst 0, 1) := by decide +kernel
theorem dX8_empty_11 : decode cX8_empty 11 = .ok (.istore_n 1, 1) := by decide +kernel
theorem dX8_empty_12 : decode cX8_empty 12 = .ok (.iload_n 1, 1) := by decide +kernel
theorem dX8_empty_13 : decode cX8_empty 13 = .ok (.bipush 8, 2) := by decide +kernel
theorem dX8_empty_15 : decode cX8_empty 15 = .ok (.if_icmp .ge 60, 3) := by decide +kernel
theorem dX8_empty_18 : decode cX8_empty 18 = .ok (.aload_n 0, 1) := by decide +kernel
theorem dX8_empty_19 : decode cX8_empty 19 = .ok (.getfield 18, 3) := by decide +kernel
theorem dX8_empty_22 : decode cX8_empty 22 = .ok (.iload_n 1, 1) := by decide +kernel
theorem dX8_empty_23 : decode cX8_empty 23 = .ok (.iconst 0, 1) := by decide +kernel
theorem dX8_empty_24 : decode cX8_empty 24 = .ok (.iastore, 1) := by decide +kernel
theorem dX8_empty_25 : decode cX8_empty 25 = .ok (.aload_n 0, 1) := by decide +kernel
theorem dX8_empty_26 : decode cX8_empty 26 = .ok (.getfield 22, 3) := by decide +kernel
theorem dX8_empty_29 : decode cX8_empty 29 = .ok (.iload_n 1, 1) := by decide +kernel
theorem dX8_empty_30 : decode cX8_empty 30 = .ok (.iconst (-1), 1) := by decide +kernel
theorem dX8_empty_31 : decode cX8_empty 31 = .ok (.iastore, 1) := by decide +kernel
theorem dX8_empty_32 : decode cX8_empty 32 = .ok (.aload_n 0, 1) := by decide +kernel
theorem dX8_empty_33 : decode cX8_empty 33 = .ok (.getfield 25, 3) := by decide +kernel
theorem dX8_empty_36 : decode cX8_empty 36 = .ok (.iload_n 1, 1) := by decide +kernel
theorem dX8_empty_37 : decode cX8_empty 37 = .ok (.iconst 0, 1) := by decide +kernel
theorem dX8_empty_38 : decode cX8_empty 38 = .ok (.iastore, 1) := by decide +kernel
theorem dX8_empty_39 : decode cX8_empty 39 = .ok (.aload_n 0, 1) := by decide +kernel
theorem dX8_empty_40 : decode cX8_empty 40 = .ok (.getfield 28, 3) := by decide +kernel
theorem dX8_empty_43 : decode cX8_empty 43 = .ok (.iload_n 1, 1) := by decide +kernel
theorem dX8_empty_44 : decode cX8_empty 44 = .ok (.iconst 0, 1) := by decide +kernel
theorem dX8_empty_45 : decode cX8_empty 45 = .ok (.iastore, 1) := by decide +kernel
theorem dX8_empty_46 : decode cX8_empty 46 = .ok (.iconst 0, 1) := by decide +kernel
theorem dX8_empty_47 : decode cX8_empty 47 = .ok (.istore_n 2, 1) := by decide +kernel
theorem dX8_empty_48 : decode cX8_empty 48 = .ok (.iload_n 2, 1) := by decide +kernel
theorem dX8_empty_49 : decode cX8_empty 49 = .ok (.bipush 42, 2) := by decide +kernel
theorem dX8_empty_51 : decode cX8_empty 51 = .ok (.if_icmp .ge 18, 3) := by decide +kernel
theorem dX8_empty_54 : decode cX8_empty 54 = .ok (.aload_n 0, 1) := by decide +kernel
theorem dX8_empty_55 : decode cX8_empty 55 = .ok (.getfield 33, 3) := by decide +kernel
theorem dX8_empty_58 : decode cX8_empty 58 = .ok (.iload_n 1, 1) := by decide +kernel
theorem dX8_empty_59 : decode cX8_empty 59 = .ok (.aaload, 1) := by decide +kernel
theorem dX8_empty_60 : decode cX8_empty 60 = .ok (.iload_n 2, 1) := by decide +kernel
theorem dX8_empty_61 : decode cX8_empty 61 = .ok (.iconst 0, 1) := by decide +kernel
theorem dX8_empty_62 : decode cX8_empty 62 = .ok (.iastore, 1) := by decide +kernel
theorem dX8_empty_63 : decode cX8_empty 63 = .ok (.iinc 2 1, 3) := by decide +kernel
theorem dX8_empty_66 : decode cX8_empty 66 = .ok (.goto (-18), 3) := by decide +kernel
theorem dX8_empty_69 : decode cX8_empty 69 = .ok (.iinc 1 1, 3) := by decide +kernel
theorem dX8_empty_72 : decode cX8_empty 72 = .ok (.goto (-60), 3) := by decide +kernel
theorem dX8_empty_75 : decode cX8_empty 75 = .ok (.return_, 1) := by decide +kernel
theorem dX8_addLot_0 : decode cX8_addLot 0 = .ok (.aload_n 0, 1) := by decide +kernel
theorem dX8_addLot_1 : decode cX8_addLot 1 = .ok (.dup, 1) := by decide +kernel
theorem dX8_addLot_2 : decode cX8_addLot 2 = .ok (.getfield 15, 3) := by decide +kernel
theorem dX8_addLot_5 : decode cX8_addLot 5 = .ok (.iconst 1, 1) := by decide +kernel
theorem dX8_addLot_6 : decode cX8_addLot 6 = .ok (.iadd, 1) := by decide +kernel
theorem dX8_addLot_7 : decode cX8_addLot 7 = .ok (.putfield 15, 3) := by decide +kernel
theorem dX8_addLot_10 : decode cX8_addLot 10 = .ok (.iconst 0, 1) := by decide +kernel
theorem dX8_addLot_11 : decode cX8_addLot 11 = .ok (.istore 4, 2) := by decide +kernel
theorem dX8_addLot_13 : decode cX8_addLot 13 = .ok (.iload 4, 2) := by decide +kernel
theorem dX8_addLot_15 : decode cX8_addLot 15 = .ok (.iload_n 2, 1) := by decide +kernel
theorem dX8_addLot_16 : decode cX8_addLot 16 = .ok (.if_icmp .gt 29, 3) := by decide +kernel
theorem dX8_addLot_19 : decode cX8_addLot 19 = .ok (.iload 4, 2) := by decide +kernel
theorem dX8_addLot_21 : decode cX8_addLot 21 = .ok (.bipush 42, 2) := by decide +kernel
theorem dX8_addLot_23 : decode cX8_addLot 23 = .ok (.if_icmp .ge 22, 3) := by decide +kernel
theorem dX8_addLot_26 : decode cX8_addLot 26 = .ok (.aload_n 0, 1) := by decide +kernel
theorem dX8_addLot_27 : decode cX8_addLot 27 = .ok (.getfield 33, 3) := by decide +kernel
theorem dX8_addLot_30 : decode cX8_addLot 30 = .ok (.iload_n 1, 1) := by decide +kernel
theorem dX8_addLot_31 : decode cX8_addLot 31 = .ok (.aaload, 1) := by decide +kernel
theorem dX8_addLot_32 : decode cX8_addLot 32 = .ok (.iload 4, 2) := by decide +kernel
theorem dX8_addLot_34 : decode cX8_addLot 34 = .ok (.dup2, 1) := by decide +kernel
theorem dX8_addLot_35 : decode cX8_addLot 35 = .ok (.iaload, 1) := by decide +kernel
theorem dX8_addLot_36 : decode cX8_addLot 36 = .ok (.iload_n 3, 1) := by decide +kernel
theorem dX8_addLot_37 : decode cX8_addLot 37 = .ok (.iadd, 1) := by decide +kernel
theorem dX8_addLot_38 : decode cX8_addLot 38 = .ok (.iastore, 1) := by decide +kernel
theorem dX8_addLot_39 : decode cX8_addLot 39 = .ok (.iinc 4 1, 3) := by decide +kernel
theorem dX8_addLot_42 : decode cX8_addLot 42 = .ok (.goto (-29), 3) := by decide +kernel
theorem dX8_addLot_45 : decode cX8_addLot 45 = .ok (.return_, 1) := by decide +kernel
theorem dX8_addSource_0 : decode cX8_addSource 0 = .ok (.aload_n 0, 1) := by decide +kernel
theorem dX8_addSource_1 : decode cX8_addSource 1 = .ok (.getfield 22, 3) := by decide +kernel
theorem dX8_addSource_4 : decode cX8_addSource 4 = .ok (.iload_n 2, 1) := by decide +kernel
theorem dX8_addSource_5 : decode cX8_addSource 5 = .ok (.iload_n 1, 1) := by decide +kernel
theorem dX8_addSource_6 : decode cX8_addSource 6 = .ok (.iastore, 1) := by decide +kernel
theorem dX8_addSource_7 : decode cX8_addSource 7 = .ok (.aload_n 0, 1) := by decide +kernel
theorem dX8_addSource_8 : decode cX8_addSource 8 = .ok (.getfield 28, 3) := by decide +kernel
theorem dX8_addSource_11 : decode cX8_addSource 11 = .ok (.iload_n 1, 1) := by decide +kernel
theorem dX8_addSource_12 : decode cX8_addSource 12 = .ok (.dup2, 1) := by decide +kernel
theorem dX8_addSource_13 : decode cX8_addSource 13 = .ok (.iaload, 1) := by decide +kernel
theorem dX8_addSource_14 : decode cX8_addSource 14 = .ok (.iconst 1, 1) := by decide +kernel
theorem dX8_addSource_15 : decode cX8_addSource 15 = .ok (.iadd, 1) := by decide +kernel
theorem dX8_addSource_16 : decode cX8_addSource 16 = .ok (.iastore, 1) := by decide +kernel
theorem dX8_addSource_17 : decode cX8_addSource 17 = .ok (.return_, 1) := by decide +kernel
theorem dX8_holds_0 : decode cX8_holds 0 = .ok (.iload_n 1, 1) := by decide +kernel
theorem dX8_holds_1 : decode cX8_holds 1 = .ok (.ifCond .lt 15, 3) := by decide +kernel
theorem dX8_holds_4 : decode cX8_holds 4 = .ok (.iload_n 1, 1) := by decide +kernel
theorem dX8_holds_5 : decode cX8_holds 5 = .ok (.aload_n 0, 1) := by decide +kernel
theorem dX8_holds_6 : decode cX8_holds 6 = .ok (.getfield 9, 3) := by decide +kernel
theorem dX8_holds_9 : decode cX8_holds 9 = .ok (.if_icmp .ge 7, 3) := by decide +kernel
theorem dX8_holds_12 : decode cX8_holds 12 = .ok (.iconst 1, 1) := by decide +kernel
theorem dX8_holds_13 : decode cX8_holds 13 = .ok (.goto 4, 3) := by decide +kernel
theorem dX8_holds_16 : decode cX8_holds 16 = .ok (.iconst 0, 1) := by decide +kernel
theorem dX8_holds_17 : decode cX8_holds 17 = .ok (.ireturn, 1) := by decide +kernel
theorem dX8_isShop_0 : decode cX8_isShop 0 = .ok (.aload_n 0, 1) := by decide +kernel
theorem dX8_isShop_1 : decode cX8_isShop 1 = .ok (.iload_n 1, 1) := by decide +kernel
theorem dX8_isShop_2 : decode cX8_isShop 2 = .ok (.invokevirtual 59, 3) := by decide +kernel
theorem dX8_isShop_5 : decode cX8_isShop 5 = .ok (.ifCond .eq 16, 3) := by decide +kernel
theorem dX8_isShop_8 : decode cX8_isShop 8 = .ok (.aload_n 0, 1) := by decide +kernel
theorem dX8_isShop_9 : decode cX8_isShop 9 = .ok (.getfield 28, 3) := by decide +kernel
theorem dX8_isShop_12 : decode cX8_isShop 12 = .ok (.iload_n 1, 1) := by decide +kernel
theorem dX8_isShop_13 : decode cX8_isShop 13 = .ok (.iaload, 1) := by decide +kernel
theorem dX8_isShop_14 : decode cX8_isShop 14 = .ok (.ifCond .ne 7, 3) := by decide +kernel
theorem dX8_isShop_17 : decode cX8_isShop 17 = .ok (.iconst 1, 1) := by decide +kernel
theorem dX8_isShop_18 : decode cX8_isShop 18 = .ok (.goto 4, 3) := by decide +kernel
theorem dX8_isShop_21 : decode cX8_isShop 21 = .ok (.iconst 0, 1) := by decide +kernel
theorem dX8_isShop_22 : decode cX8_isShop 22 = .ok (.ireturn, 1) := by decide +kernel
theorem dX8_allHouses_0 : decode cX8_allHouses 0 = .ok (.iconst 1, 1) := by decide +kernel
theorem dX8_allHouses_1 : decode cX8_allHouses 1 = .ok (.aload_n 0, 1) := by decide +kernel
theorem dX8_allHouses_2 : decode cX8_allHouses 2 = .ok (.getfield 9, 3) := by decide +kernel
theorem dX8_allHouses_5 : decode cX8_allHouses 5 = .ok (.ishl, 1) := by decide +kernel
theorem dX8_allHouses_6 : decode cX8_allHouses 6 = .ok (.iconst 1, 1) := by decide +kernel
theorem dX8_allHouses_7 : decode cX8_allHouses 7 = .ok (.isub, 1) := by decide +kernel
theorem dX8_allHouses_8 : decode cX8_allHouses 8 = .ok (.ireturn, 1) := by decide +kernel
theorem dX8_isBelow_0 : decode cX8_isBelow 0 = .ok (.iload_n 1, 1) := by decide +kernel
theorem dX8_isBelow_1 : decode cX8_isBelow 1 = .ok (.istore_n 3, 1) := by decide +kernel
theorem dX8_isBelow_2 : decode cX8_isBelow 2 = .ok (.iconst 0, 1) := by decide +kernel
theorem dX8_isBelow_3 : decode cX8_isBelow 3 = .ok (.istore 4, 2) := by decide +kernel
theorem dX8_isBelow_5 : decode cX8_isBelow 5 = .ok (.iload 4, 2) := by decide +kernel
theorem dX8_isBelow_7 : decode cX8_isBelow 7 = .ok (.bipush 8, 2) := by decide +kernel
theorem dX8_isBelow_9 : decode cX8_isBelow 9 = .ok (.if_icmp .ge 21, 3) := by decide +kernel
theorem dX8_isBelow_12 : decode cX8_isBelow 12 = .ok (.iload_n 3, 1) := by decide +kernel
theorem dX8_isBelow_13 : decode cX8_isBelow 13 = .ok (.iload_n 2, 1) := by decide +kernel
theorem dX8_isBelow_14 : decode cX8_isBelow 14 = .ok (.if_icmp .le 16, 3) := by decide +kernel
theorem dX8_isBelow_17 : decode cX8_isBelow 17 = .ok (.aload_n 0, 1) := by decide +kernel
theorem dX8_isBelow_18 : decode cX8_isBelow 18 = .ok (.getfield 22, 3) := by decide +kernel
theorem dX8_isBelow_21 : decode cX8_isBelow 21 = .ok (.iload_n 3, 1) := by decide +kernel
theorem dX8_isBelow_22 : decode cX8_isBelow 22 = .ok (.iaload, 1) := by decide +kernel
theorem dX8_isBelow_23 : decode cX8_isBelow 23 = .ok (.istore_n 3, 1) := by decide +kernel
theorem dX8_isBelow_24 : decode cX8_isBelow 24 = .ok (.iinc 4 1, 3) := by decide +kernel
theorem dX8_isBelow_27 : decode cX8_isBelow 27 = .ok (.goto (-22), 3) := by decide +kernel
theorem dX8_isBelow_30 : decode cX8_isBelow 30 = .ok (.iload_n 3, 1) := by decide +kernel
theorem dX8_isBelow_31 : decode cX8_isBelow 31 = .ok (.iload_n 2, 1) := by decide +kernel
theorem dX8_isBelow_32 : decode cX8_isBelow 32 = .ok (.if_icmp .ne 7, 3) := by decide +kernel
theorem dX8_isBelow_35 : decode cX8_isBelow 35 = .ok (.iconst 1, 1) := by decide +kernel
theorem dX8_isBelow_36 : decode cX8_isBelow 36 = .ok (.goto 4, 3) := by decide +kernel
theorem dX8_isBelow_39 : decode cX8_isBelow 39 = .ok (.iconst 0, 1) := by decide +kernel
theorem dX8_isBelow_40 : decode cX8_isBelow 40 = .ok (.ireturn, 1) := by decide +kernel
