theorem dX0_init_0 : decode cX0_init 0 = .ok (.aload_n 0, 1) := by decide +kernel
theorem dX0_init_1 : decode cX0_init 1 = .ok (.invokespecial 3, 3) := by decide +kernel
theorem dX0_init_4 : decode cX0_init 4 = .ok (.aload_n 0, 1) := by decide +kernel
theorem dX0_init_5 : decode cX0_init 5 = .ok (.iconst 0, 1) := by decide +kernel
theorem dX0_init_6 : decode cX0_init 6 = .ok (.putfield 9, 3) := by decide +kernel
theorem dX0_init_9 : decode cX0_init 9 = .ok (.aload_n 0, 1) := by decide +kernel
theorem dX0_init_10 : decode cX0_init 10 = .ok (.iload_n 1, 1) := by decide +kernel
theorem dX0_init_11 : decode cX0_init 11 = .ok (.putfield 15, 3) := by decide +kernel
theorem dX0_init_14 : decode cX0_init 14 = .ok (.aload_n 0, 1) := by decide +kernel
theorem dX0_init_15 : decode cX0_init 15 = .ok (.iload_n 2, 1) := by decide +kernel
theorem dX0_init_16 : decode cX0_init 16 = .ok (.putfield 18, 3) := by decide +kernel
theorem dX0_init_19 : decode cX0_init 19 = .ok (.aload_n 0, 1) := by decide +kernel
theorem dX0_init_20 : decode cX0_init 20 = .ok (.iload_n 3, 1) := by decide +kernel
theorem dX0_init_21 : decode cX0_init 21 = .ok (.putfield 21, 3) := by decide +kernel
theorem dX0_init_24 : decode cX0_init 24 = .ok (.return_, 1) := by decide +kernel
theorem dX0_isOf_0 : decode cX0_isOf 0 = .ok (.aload_n 0, 1) := by decide +kernel
theorem dX0_isOf_1 : decode cX0_isOf 1 = .ok (.getfield 15, 3) := by decide +kernel
theorem dX0_isOf_4 : decode cX0_isOf 4 = .ok (.iload_n 1, 1) := by decide +kernel
theorem dX0_isOf_5 : decode cX0_isOf 5 = .ok (.if_icmp .eq 11, 3) := by decide +kernel
theorem dX0_isOf_8 : decode cX0_isOf 8 = .ok (.aload_n 0, 1) := by decide +kernel
theorem dX0_isOf_9 : decode cX0_isOf 9 = .ok (.getfield 18, 3) := by decide +kernel
theorem dX0_isOf_12 : decode cX0_isOf 12 = .ok (.iload_n 1, 1) := by decide +kernel
theorem dX0_isOf_13 : decode cX0_isOf 13 = .ok (.if_icmp .ne 7, 3) := by decide +kernel
theorem dX0_isOf_16 : decode cX0_isOf 16 = .ok (.iconst 1, 1) := by decide +kernel
theorem dX0_isOf_17 : decode cX0_isOf 17 = .ok (.goto 4, 3) := by decide +kernel
theorem dX0_isOf_20 : decode cX0_isOf 20 = .ok (.iconst 0, 1) := by decide +kernel
theorem dX0_isOf_21 : decode cX0_isOf 21 = .ok (.ireturn, 1) := by decide +kernel
theorem dX0_isToBeSettled_0 : decode cX0_isToBeSettled 0 = .ok (.aload_n 0, 1) := by decide +kernel
theorem dX0_isToBeSettled_1 : decode cX0_isToBeSettled 1 = .ok (.getfield 9, 3) := by decide +kernel
theorem dX0_isToBeSettled_4 : decode cX0_isToBeSettled 4 = .ok (.ifCond .eq 11, 3) := by decide +kernel
theorem dX0_isToBeSettled_7 : decode cX0_isToBeSettled 7 = .ok (.aload_n 0, 1) := by decide +kernel
theorem dX0_isToBeSettled_8 : decode cX0_isToBeSettled 8 = .ok (.getfield 9, 3) := by decide +kernel
theorem dX0_isToBeSettled_11 : decode cX0_isToBeSettled 11 = .ok (.iconst 2, 1) := by decide +kernel
theorem dX0_isToBeSettled_12 : decode cX0_isToBeSettled 12 = .ok (.if_icmp .ne 7, 3) := by decide +kernel
theorem dX0_isToBeSettled_15 : decode cX0_isToBeSettled 15 = .ok (.iconst 1, 1) := by decide +kernel
theorem dX0_isToBeSettled_16 : decode cX0_isToBeSettled 16 = .ok (.goto 4, 3) := by decide +kernel
theorem dX0_isToBeSettled_19 : decode cX0_isToBeSettled 19 = .ok (.iconst 0, 1) := by decide +kernel
theorem dX0_isToBeSettled_20 : decode cX0_isToBeSettled 20 = .ok (.ireturn, 1) := by decide +kernel
theorem dX0_isAsLeftBy_0 : decode cX0_isAsLeftBy 0 = .ok (.aload_n 0, 1) := by decide +kernel
theorem dX0_isAsLeftBy_1 : decode cX0_isAsLeftBy 1 = .ok (.getfield 24, 3) := by decide +kernel
theorem dX0_isAsLeftBy_4 : decode cX0_isAsLeftBy 4 = .ok (.iload_n 1, 1) := by decide +kernel
theorem dX0_isAsLeftBy_5 : decode cX0_isAsLeftBy 5 = .ok (.if_icmp .ne 14, 3) := by decide +kernel
theorem dX0_isAsLeftBy_8 : decode cX0_isAsLeftBy 8 = .ok (.aload_n 0, 1) := by decide +kernel
theorem dX0_isAsLeftBy_9 : decode cX0_isAsLeftBy 9 = .ok (.invokevirtual 27, 3) := by decide +kernel
theorem dX0_isAsLeftBy_12 : decode cX0_isAsLeftBy 12 = .ok (.ifCond .ne 7, 3) := by decide +kernel
theorem dX0_isAsLeftBy_15 : decode cX0_isAsLeftBy 15 = .ok (.iconst 1, 1) := by decide +kernel
theorem dX0_isAsLeftBy_16 : decode cX0_isAsLeftBy 16 = .ok (.goto 4, 3) := by decide +kernel
theorem dX0_isAsLeftBy_19 : decode cX0_isAsLeftBy 19 = .ok (.iconst 0, 1) := by decide +kernel
theorem dX0_isAsLeftBy_20 : decode cX0_isAsLeftBy 20 = .ok (.ireturn, 1) := by decide +kernel
theorem dX0_amountBack_0 : decode cX0_amountBack 0 = .ok (.aload_n 0, 1) := by decide +kernel
theorem dX0_amountBack_1 : decode cX0_amountBack 1 = .ok (.getfield 31, 3) := by decide +kernel
theorem dX0_amountBack_4 : decode cX0_amountBack 4 = .ok (.iconst 3, 1) := by decide +kernel
theorem dX0_amountBack_5 : decode cX0_amountBack 5 = .ok (.if_icmp .lt 12, 3) := by decide +kernel
theorem dX0_amountBack_8 : decode cX0_amountBack 8 = .ok (.aload_n 0, 1) := by decide +kernel
theorem dX0_amountBack_9 : decode cX0_amountBack 9 = .ok (.getfield 21, 3) := by decide +kernel
theorem dX0_amountBack_12 : decode cX0_amountBack 12 = .ok (.iconst 2, 1) := by decide +kernel
theorem dX0_amountBack_13 : decode cX0_amountBack 13 = .ok (.idiv, 1) := by decide +kernel
theorem dX0_amountBack_14 : decode cX0_amountBack 14 = .ok (.goto 7, 3) := by decide +kernel
theorem dX0_amountBack_17 : decode cX0_amountBack 17 = .ok (.aload_n 0, 1) := by decide +kernel
theorem dX0_amountBack_18 : decode cX0_amountBack 18 = .ok (.getfield 21, 3) := by decide +kernel
theorem dX0_amountBack_21 : decode cX0_amountBack 21 = .ok (.ireturn, 1) := by decide +kernel
theorem dX0_settle_0 : decode cX0_settle 0 = .ok (.aload_n 0, 1) := by decide +kernel
theorem dX0_settle_1 : decode cX0_settle 1 = .ok (.iload_n 1, 1) := by decide +kernel
theorem dX0_settle_2 : decode cX0_settle 2 = .ok (.putfield 24, 3) := by decide +kernel
theorem dX0_settle_5 : decode cX0_settle 5 = .ok (.aload_n 0, 1) := by decide +kernel
theorem dX0_settle_6 : decode cX0_settle 6 = .ok (.getfield 9, 3) := by decide +kernel
theorem dX0_settle_9 : decode cX0_settle 9 = .ok (.ifCond .ne 13, 3) := by decide +kernel
theorem dX0_settle_12 : decode cX0_settle 12 = .ok (.aload_n 0, 1) := by decide +kernel
theorem dX0_settle_13 : decode cX0_settle 13 = .ok (.iconst 1, 1) := by decide +kernel
theorem dX0_settle_14 : decode cX0_settle 14 = .ok (.putfield 9, 3) := by decide +kernel
theorem dX0_settle_17 : decode cX0_settle 17 = .ok (.aload_n 0, 1) := by decide +kernel
theorem dX0_settle_18 : decode cX0_settle 18 = .ok (.getfield 21, 3) := by decide +kernel
theorem dX0_settle_21 : decode cX0_settle 21 = .ok (.ireturn, 1) := by decide +kernel
theorem dX0_settle_22 : decode cX0_settle 22 = .ok (.aload_n 0, 1) := by decide +kernel
theorem dX0_settle_23 : decode cX0_settle 23 = .ok (.aload_n 0, 1) := by decide +kernel
theorem dX0_settle_24 : decode cX0_settle 24 = .ok (.getfield 31, 3) := by decide +kernel
theorem dX0_settle_27 : decode cX0_settle 27 = .ok (.iconst 3, 1) := by decide +kernel
theorem dX0_settle_28 : decode cX0_settle 28 = .ok (.if_icmp .lt 7, 3) := by decide +kernel
theorem dX0_settle_31 : decode cX0_settle 31 = .ok (.iconst 4, 1) := by decide +kernel
theorem dX0_settle_32 : decode cX0_settle 32 = .ok (.goto 4, 3) := by decide +kernel
theorem dX0_settle_35 : decode cX0_settle 35 = .ok (.iconst 3, 1) := by decide +kernel
theorem dX0_settle_36 : decode cX0_settle 36 = .ok (.putfield 9, 3) := by decide +kernel
theorem dX0_settle_39 : decode cX0_settle 39 = .ok (.aload_n 0, 1) := by decide +kernel
theorem dX0_settle_40 : decode cX0_settle 40 = .ok (.invokevirtual 34, 3) := by decide +kernel
theorem dX0_settle_43 : decode cX0_settle 43 = .ok (.ineg, 1) := by decide +kernel
theorem dX0_settle_44 : decode cX0_settle 44 = .ok (.ireturn, 1) := by decide +kernel
theorem dX0_undo_0 : decode cX0_undo 0 = .ok (.aload_n 0, 1) := by decide +kernel
theorem dX0_undo_1 : decode cX0_undo 1 = .ok (.iconst 0, 1) := by decide +kernel
theorem dX0_undo_2 : decode cX0_undo 2 = .ok (.putfield 24, 3) := by decide +kernel
theorem dX0_undo_5 : decode cX0_undo 5 = .ok (.aload_n 0, 1) := by decide +kernel
theorem dX0_undo_6 : decode cX0_undo 6 = .ok (.getfield 9, 3) := by decide +kernel
theorem dX0_undo_9 : decode cX0_undo 9 = .ok (.iconst 1, 1) := by decide +kernel
theorem dX0_undo_10 : decode cX0_undo 10 = .ok (.if_icmp .ne 14, 3) := by decide +kernel
theorem dX0_undo_13 : decode cX0_undo 13 = .ok (.aload_n 0, 1) := by decide +kernel
theorem dX0_undo_14 : decode cX0_undo 14 = .ok (.iconst 0, 1) := by decide +kernel
theorem dX0_undo_15 : decode cX0_undo 15 = .ok (.putfield 9, 3) := by decide +kernel
theorem dX0_undo_18 : decode cX0_undo 18 = .ok (.aload_n 0, 1) := by decide +kernel
theorem dX0_undo_19 : decode cX0_undo 19 = .ok (.getfield 21, 3) := by decide +kernel
theorem dX0_undo_22 : decode cX0_undo 22 = .ok (.ineg, 1) := by decide +kernel
theorem dX0_undo_23 : decode cX0_undo 23 = .ok (.ireturn, 1) := by decide +kernel
theorem dX0_undo_24 : decode cX0_undo 24 = .ok (.aload_n 0, 1) := by decide +kernel
theorem dX0_undo_25 : decode cX0_undo 25 = .ok (.iconst 2, 1) := by decide +kernel
theorem dX0_undo_26 : decode cX0_undo 26 = .ok (.putfield 9, 3) := by decide +kernel
theorem dX0_undo_29 : decode cX0_undo 29 = .ok (.aload_n 0, 1) := by decide +kernel
theorem dX0_undo_30 : decode cX0_undo 30 = .ok (.invokevirtual 34, 3) := by decide +kernel
theorem dX0_undo_33 : decode cX0_undo 33 = .ok (.ireturn, 1) := by decide +kernel
theorem dX0_gotByPayee_0 : decode cX0_gotByPayee 0 = .ok (.aload_n 0, 1) := by decide +kernel
theorem dX0_gotByPayee_1 : decode cX0_gotByPayee 1 = .ok (.getfield 9, 3) := by decide +kernel
theorem dX0_gotByPayee_4 : decode cX0_gotByPayee 4 = .ok (.tableswitch 49 1 4 #[32, 32, 49, 37], 32) := by decide +kernel
theorem dX0_gotByPayee_36 : decode cX0_gotByPayee 36 = .ok (.aload_n 0, 1) := by decide +kernel
theorem dX0_gotByPayee_37 : decode cX0_gotByPayee 37 = .ok (.getfield 21, 3) := by decide +kernel
theorem dX0_gotByPayee_40 : decode cX0_gotByPayee 40 = .ok (.ireturn, 1) := by decide +kernel
theorem dX0_gotByPayee_41 : decode cX0_gotByPayee 41 = .ok (.aload_n 0, 1) := by decide +kernel
theorem dX0_gotByPayee_42 : decode cX0_gotByPayee 42 = .ok (.getfield 21, 3) := by decide +kernel
theorem dX0_gotByPayee_45 : decode cX0_gotByPayee 45 = .ok (.aload_n 0, 1) := by decide +kernel
theorem dX0_gotByPayee_46 : decode cX0_gotByPayee 46 = .ok (.getfield 21, 3) := by decide +kernel
theorem dX0_gotByPayee_49 : decode cX0_gotByPayee 49 = .ok (.iconst 2, 1) := by decide +kernel
theorem dX0_gotByPayee_50 : decode cX0_gotByPayee 50 = .ok (.idiv, 1) := by decide +kernel
theorem dX0_gotByPayee_51 : decode cX0_gotByPayee 51 = .ok (.isub, 1) := by decide +kernel
theorem dX0_gotByPayee_52 : decode cX0_gotByPayee 52 = .ok (.ireturn, 1) := by decide +kernel
theorem dX0_gotByPayee_53 : decode cX0_gotByPayee 53 = .ok (.iconst 0, 1) := by decide +kernel
theorem dX0_gotByPayee_54 : decode cX0_gotByPayee 54 = .ok (.ireturn, 1) := by decide +kernel
theorem dX1_init_0 : decode cX1_init 0 = .ok (.aload_n 0, 1) := by decide +kernel
theorem dX1_init_1 : decode cX1_init 1 = .ok (.invokespecial 3, 3) := by decide +kernel
theorem dX1_init_4 : decode cX1_init 4 = .ok (.aload_n 0, 1) := by decide +kernel
theorem dX1_init_5 : decode cX1_init 5 = .ok (.sipush 240, 3) := by decide +kernel
theorem dX1_init_8 : decode cX1_init 8 = .ok (.anewarray 9, 3) := by decide +kernel
theorem dX1_init_11 : decode cX1_init 11 = .ok (.putfield 11, 3) := by decide +kernel
theorem dX1_init_14 : decode cX1_init 14 = .ok (.aload_n 0, 1) := by decide +kernel
theorem dX1_init_15 : decode cX1_init 15 = .ok (.iconst 5, 1) := by decide +kernel
theorem dX1_init_16 : decode cX1_init 16 = .ok (.newarray .long, 2) := by decide +kernel
theorem dX1_init_18 : decode cX1_init 18 = .ok (.putfield 17, 3) := by decide +kernel
theorem dX1_init_21 : decode cX1_init 21 = .ok (.return_, 1) := by decide +kernel
theorem dX1_addBill_0 : decode cX1_addBill 0 = .ok (.aload_n 0, 1) := by decide +kernel
theorem dX1_addBill_1 : decode cX1_addBill 1 = .ok (.getfield 21, 3) := by decide +kernel
theorem dX1_addBill_4 : decode cX1_addBill 4 = .ok (.sipush 240, 3) := by decide +kernel
theorem dX1_addBill_7 : decode cX1_addBill 7 = .ok (.if_icmp .lt 5, 3) := by decide +kernel
theorem dX1_addBill_10 : decode cX1_addBill 10 = .ok (.iconst (-1), 1) := by decide +kernel
theorem dX1_addBill_11 : decode cX1_addBill 11 = .ok (.ireturn, 1) := by decide +kernel
theorem dX1_addBill_12 : decode cX1_addBill 12 = .ok (.aload_n 0, 1) := by decide +kernel
theorem dX1_addBill_13 : decode cX1_addBill 13 = .ok (.getfield 11, 3) := by decide +kernel
theorem dX1_addBill_16 : decode cX1_addBill 16 = .ok (.aload_n 0, 1) := by decide +kernel
theorem dX1_addBill_17 : decode cX1_addBill 17 = .ok (.getfield 21, 3) := by decide +kernel
theorem dX1_addBill_20 : decode cX1_addBill 20 = .ok (.new 9, 3) := by decide +kernel
theorem dX1_addBill_23 : decode cX1_addBill 23 = .ok (.dup, 1) := by decide +kernel
theorem dX1_addBill_24 : decode cX1_addBill 24 = .ok (.iload_n 1, 1) := by decide +kernel
theorem dX1_addBill_25 : decode cX1_addBill 25 = .ok (.iload_n 2, 1) := by decide +kernel
theorem dX1_addBill_26 : decode cX1_addBill 26 = .ok (.iload_n 3, 1) := by decide +kernel
theorem dX1_addBill_27 : decode cX1_addBill 27 = .ok (.invokespecial 25, 3) := by decide +kernel
theorem dX1_addBill_30 : decode cX1_addBill 30 = .ok (.aastore, 1) := by decide +kernel
theorem dX1_addBill_31 : decode cX1_addBill 31 = .ok (.aload_n 0, 1) := by decide +kernel
theorem dX1_addBill_32 : decode cX1_addBill 32 = .ok (.dup, 1) := by decide +kernel
theorem dX1_addBill_33 : decode cX1_addBill 33 = .ok (.getfield 21, 3) := by decide +kernel
theorem dX1_addBill_36 : decode cX1_addBill 36 = .ok (.iconst 1, 1) := by decide +kernel
theorem dX1_addBill_37 : decode cX1_addBill 37 = .ok (.iadd, 1) := by decide +kernel
theorem dX1_addBill_38 : decode cX1_addBill 38 = .ok (.putfield 21, 3) := by decide +kernel
theorem dX1_addBill_41 : decode cX1_addBill 41 = .ok (.aload_n 0, 1) := by decide +kernel
theorem dX1_addBill_42 : decode cX1_addBill 42 = .ok (.getfield 21, 3) := by decide +kernel
theorem dX1_addBill_45 : decode cX1_addBill 45 = .ok (.iconst 1, 1) := by decide +kernel
theorem dX1_addBill_46 : decode cX1_addBill 46 = .ok (.isub, 1) := by decide +kernel
theorem dX1_addBill_47 : decode cX1_addBill 47 = .ok (.ireturn, 1) := by decide +kernel
theorem dX1_billAt_0 : decode cX1_billAt 0 = .ok (.iload_n 1, 1) := by decide +kernel
theorem dX1_billAt_1 : decode cX1_billAt 1 = .ok (.ifCond .lt 27, 3) := by decide +kernel
theorem dX1_billAt_4 : decode cX1_billAt 4 = .ok (.iload_n 1, 1) := by decide +kernel
theorem dX1_billAt_5 : decode cX1_billAt 5 = .ok (.aload_n 0, 1) := by decide +kernel
theorem dX1_billAt_6 : decode cX1_billAt 6 = .ok (.getfield 21, 3) := by decide +kernel
theorem dX1_billAt_9 : decode cX1_billAt 9 = .ok (.if_icmp .ge 19, 3) := by decide +kernel
theorem dX1_billAt_12 : decode cX1_billAt 12 = .ok (.iload_n 1, 1) := by decide +kernel
theorem dX1_billAt_13 : decode cX1_billAt 13 = .ok (.sipush 240, 3) := by decide +kernel
theorem dX1_billAt_16 : decode cX1_billAt 16 = .ok (.if_icmp .ge 12, 3) := by decide +kernel
theorem dX1_billAt_19 : decode cX1_billAt 19 = .ok (.aload_n 0, 1) := by decide +kernel
theorem dX1_billAt_20 : decode cX1_billAt 20 = .ok (.getfield 11, 3) := by decide +kernel
theorem dX1_billAt_23 : decode cX1_billAt 23 = .ok (.iload_n 1, 1) := by decide +kernel
theorem dX1_billAt_24 : decode cX1_billAt 24 = .ok (.aaload, 1) := by decide +kernel
theorem dX1_billAt_25 : decode cX1_billAt 25 = .ok (.goto 4, 3) := by decide +kernel
theorem dX1_billAt_28 : decode cX1_billAt 28 = .ok (.aconst_null, 1) := by decide +kernel
theorem dX1_billAt_29 : decode cX1_billAt 29 = .ok (.areturn, 1) := by decide +kernel
theorem dX1_isInDefault_0 : decode cX1_isInDefault 0 = .ok (.iload_n 1, 1) := by decide +kernel
theorem dX1_isInDefault_1 : decode cX1_isInDefault 1 = .ok (.invokestatic 28, 3) := by decide +kernel
theorem dX1_isInDefault_4 : decode cX1_isInDefault 4 = .ok (.ifCond .eq 19, 3) := by decide +kernel
theorem dX1_isInDefault_7 : decode cX1_isInDefault 7 = .ok (.aload_n 0, 1) := by decide +kernel
theorem dX1_isInDefault_8 : decode cX1_isInDefault 8 = .ok (.getfield 32, 3) := by decide +kernel
theorem dX1_isInDefault_11 : decode cX1_isInDefault 11 = .ok (.iload_n 1, 1) := by decide +kernel
theorem dX1_isInDefault_12 : decode cX1_isInDefault 12 = .ok (.ishr, 1) := by decide +kernel
theorem dX1_isInDefault_13 : decode cX1_isInDefault 13 = .ok (.iconst 1, 1) := by decide +kernel
theorem dX1_isInDefault_14 : decode cX1_isInDefault 14 = .ok (.iand, 1) := by decide +kernel
theorem dX1_isInDefault_15 : decode cX1_isInDefault 15 = .ok (.iconst 1, 1) := by decide +kernel
theorem dX1_isInDefault_16 : decode cX1_isInDefault 16 = .ok (.if_icmp .ne 7, 3) := by decide +kernel
theorem dX1_isInDefault_19 : decode cX1_isInDefault 19 = .ok (.iconst 1, 1) := by decide +kernel
theorem dX1_isInDefault_20 : decode cX1_isInDefault 20 = .ok (.goto 4, 3) := by decide +kernel
theorem dX1_isInDefault_23 : decode cX1_isInDefault 23 = .ok (.iconst 0, 1) := by decide +kernel
theorem dX1_isInDefault_24 : decode cX1_isInDefault 24 = .ok (.ireturn, 1) := by decide +kernel
theorem dX1_putDefault_0 : decode cX1_putDefault 0 = .ok (.iload_n 1, 1) := by decide +kernel
theorem dX1_putDefault_1 : decode cX1_putDefault 1 = .ok (.invokestatic 28, 3) := by decide +kernel
theorem dX1_putDefault_4 : decode cX1_putDefault 4 = .ok (.ifCond .eq 32, 3) := by decide +kernel
theorem dX1_putDefault_7 : decode cX1_putDefault 7 = .ok (.aload_n 0, 1) := by decide +kernel
theorem dX1_putDefault_8 : decode cX1_putDefault 8 = .ok (.iload_n 2, 1) := by decide +kernel
theorem dX1_putDefault_9 : decode cX1_putDefault 9 = .ok (.ifCond .eq 14, 3) := by decide +kernel
theorem dX1_putDefault_12 : decode cX1_putDefault 12 = .ok (.aload_n 0, 1) := by decide +kernel
theorem dX1_putDefault_13 : decode cX1_putDefault 13 = .ok (.getfield 32, 3) := by decide +kernel
theorem dX1_putDefault_16 : decode cX1_putDefault 16 = .ok (.iconst 1, 1) := by decide +kernel
theorem dX1_putDefault_17 : decode cX1_putDefault 17 = .ok (.iload_n 1, 1) := by decide +kernel
theorem dX1_putDefault_18 : decode cX1_putDefault 18 = .ok (.ishl, 1) := by decide +kernel
theorem dX1_putDefault_19 : decode cX1_putDefault 19 = .ok (.ior, 1) := by decide +kernel
theorem dX1_putDefault_20 : decode cX1_putDefault 20 = .ok (.goto 13, 3) := by decide +kernel
theorem dX1_putDefault_23 : decode cX1_putDefault 23 = .ok (.aload_n 0, 1) := by decide +kernel
theorem dX1_putDefault_24 : decode cX1_putDefault 24 = .ok (.getfield 32, 3) := by decide +kernel
theorem dX1_putDefault_27 : decode cX1_putDefault 27 = .ok (.iconst 1, 1) := by decide +kernel
theorem dX1_putDefault_28 : decode cX1_putDefault 28 = .ok (.iload_n 1, 1) := by decide +kernel
theorem dX1_putDefault_29 : decode cX1_putDefault 29 = .ok (.ishl, 1) := by decide +kernel
theorem dX1_putDefault_30 : decode cX1_putDefault 30 = .ok (.iconst (-1), 1) := by decide +kernel
theorem dX1_putDefault_31 : decode cX1_putDefault 31 = .ok (.ixor, 1) := by decide +kernel
theorem dX1_putDefault_32 : decode cX1_putDefault 32 = .ok (.iand, 1) := by decide +kernel
theorem dX1_putDefault_33 : decode cX1_putDefault 33 = .ok (.putfield 32, 3) := by decide +kernel
theorem dX1_putDefault_36 : decode cX1_putDefault 36 = .ok (.return_, 1) := by decide +kernel
theorem dX1_settle_0 : decode cX1_settle 0 = .ok (.aload_n 0, 1) := by decide +kernel
theorem dX1_settle_1 : decode cX1_settle 1 = .ok (.invokevirtual 35, 3) := by decide +kernel
theorem dX1_settle_4 : decode cX1_settle 4 = .ok (.aload_n 0, 1) := by decide +kernel
theorem dX1_settle_5 : decode cX1_settle 5 = .ok (.dup, 1) := by decide +kernel
theorem dX1_settle_6 : decode cX1_settle 6 = .ok (.getfield 38, 3) := by decide +kernel
theorem dX1_settle_9 : decode cX1_settle 9 = .ok (.iconst 1, 1) := by decide +kernel
theorem dX1_settle_10 : decode cX1_settle 10 = .ok (.iadd, 1) := by decide +kernel
theorem dX1_settle_11 : decode cX1_settle 11 = .ok (.putfield 38, 3) := by decide +kernel
theorem dX1_settle_14 : decode cX1_settle 14 = .ok (.iconst 0, 1) := by decide +kernel
theorem dX1_settle_15 : decode cX1_settle 15 = .ok (.istore_n 1, 1) := by decide +kernel
theorem dX1_settle_16 : decode cX1_settle 16 = .ok (.iload_n 1, 1) := by decide +kernel
theorem dX1_settle_17 : decode cX1_settle 17 = .ok (.aload_n 0, 1) := by decide +kernel
theorem dX1_settle_18 : decode cX1_settle 18 = .ok (.getfield 21, 3) := by decide +kernel
theorem dX1_settle_21 : decode cX1_settle 21 = .ok (.if_icmp .ge 61, 3) := by decide +kernel
theorem dX1_settle_24 : decode cX1_settle 24 = .ok (.aload_n 0, 1) := by decide +kernel
theorem dX1_settle_25 : decode cX1_settle 25 = .ok (.iload_n 1, 1) := by decide +kernel
theorem dX1_settle_26 : decode cX1_settle 26 = .ok (.invokevirtual 41, 3) := by decide +kernel
theorem dX1_settle_29 : decode cX1_settle 29 = .ok (.astore_n 2, 1) := by decide +kernel
theorem dX1_settle_30 : decode cX1_settle 30 = .ok (.aload_n 2, 1) := by decide +kernel
theorem dX1_settle_31 : decode cX1_settle 31 = .ok (.ifnull 45, 3) := by decide +kernel
theorem dX1_settle_34 : decode cX1_settle 34 = .ok (.aload_n 2, 1) := by decide +kernel
theorem dX1_settle_35 : decode cX1_settle 35 = .ok (.invokevirtual 45, 3) := by decide +kernel
theorem dX1_settle_38 : decode cX1_settle 38 = .ok (.ifCond .eq 38, 3) := by decide +kernel
theorem dX1_settle_41 : decode cX1_settle 41 = .ok (.aload_n 0, 1) := by decide +kernel
theorem dX1_settle_42 : decode cX1_settle 42 = .ok (.aload_n 2, 1) := by decide +kernel
theorem dX1_settle_43 : decode cX1_settle 43 = .ok (.getfield 49, 3) := by decide +kernel
theorem dX1_settle_46 : decode cX1_settle 46 = .ok (.invokevirtual 52, 3) := by decide +kernel
theorem dX1_settle_49 : decode cX1_settle 49 = .ok (.ifCond .ne 27, 3) := by decide +kernel
theorem dX1_settle_52 : decode cX1_settle 52 = .ok (.aload_n 0, 1) := by decide +kernel
theorem dX1_settle_53 : decode cX1_settle 53 = .ok (.aload_n 2, 1) := by decide +kernel
theorem dX1_settle_54 : decode cX1_settle 54 = .ok (.getfield 55, 3) := by decide +kernel
theorem dX1_settle_57 : decode cX1_settle 57 = .ok (.invokevirtual 52, 3) := by decide +kernel
theorem dX1_settle_60 : decode cX1_settle 60 = .ok (.ifCond .ne 16, 3) := by decide +kernel
theorem dX1_settle_63 : decode cX1_settle 63 = .ok (.aload_n 0, 1) := by decide +kernel
theorem dX1_settle_64 : decode cX1_settle 64 = .ok (.aload_n 2, 1) := by decide +kernel
theorem dX1_settle_65 : decode cX1_settle 65 = .ok (.aload_n 2, 1) := by decide +kernel
theorem dX1_settle_66 : decode cX1_settle 66 = .ok (.aload_n 0, 1) := by decide +kernel
theorem dX1_settle_67 : decode cX1_settle 67 = .ok (.getfield 38, 3) := by decide +kernel
theorem dX1_settle_70 : decode cX1_settle 70 = .ok (.invokevirtual 58, 3) := by decide +kernel
theorem dX1_settle_73 : decode cX1_settle 73 = .ok (.invokevirtual 62, 3) := by decide +kernel
theorem dX1_settle_76 : decode cX1_settle 76 = .ok (.iinc 1 1, 3) := by decide +kernel
theorem dX1_settle_79 : decode cX1_settle 79 = .ok (.goto (-63), 3) := by decide +kernel
theorem dX1_settle_82 : decode cX1_settle 82 = .ok (.return_, 1) := by decide +kernel
theorem dX1_undo_0 : decode cX1_undo 0 = .ok (.aload_n 0, 1) := by decide +kernel
theorem dX1_undo_1 : decode cX1_undo 1 = .ok (.invokevirtual 35, 3) := by decide +kernel
theorem dX1_undo_4 : decode cX1_undo 4 = .ok (.iconst 0, 1) := by decide +kernel
theorem dX1_undo_5 : decode cX1_undo 5 = .ok (.istore_n 2, 1) := by decide +kernel
theorem dX1_undo_6 : decode cX1_undo 6 = .ok (.iconst 0, 1) := by decide +kernel
theorem dX1_undo_7 : decode cX1_undo 7 = .ok (.istore_n 3, 1) := by decide +kernel
theorem dX1_undo_8 : decode cX1_undo 8 = .ok (.iload_n 3, 1) := by decide +kernel
theorem dX1_undo_9 : decode cX1_undo 9 = .ok (.aload_n 0, 1) := by decide +kernel
theorem dX1_undo_10 : decode cX1_undo 10 = .ok (.getfield 21, 3) := by decide +kernel
theorem dX1_undo_13 : decode cX1_undo 13 = .ok (.if_icmp .ge 56, 3) := by decide +kernel
theorem dX1_undo_16 : decode cX1_undo 16 = .ok (.aload_n 0, 1) := by decide +kernel
theorem dX1_undo_17 : decode cX1_undo 17 = .ok (.iload_n 3, 1) := by decide +kernel
theorem dX1_undo_18 : decode cX1_undo 18 = .ok (.invokevirtual 41, 3) := by decide +kernel
theorem dX1_undo_21 : decode cX1_undo 21 = .ok (.astore 4, 2) := by decide +kernel
theorem dX1_undo_23 : decode cX1_undo 23 = .ok (.aload 4, 2) := by decide +kernel
theorem dX1_undo_25 : decode cX1_undo 25 = .ok (.ifnull 38, 3) := by decide +kernel
theorem dX1_undo_28 : decode cX1_undo 28 = .ok (.aload 4, 2) := by decide +kernel
theorem dX1_undo_30 : decode cX1_undo 30 = .ok (.iload_n 1, 1) := by decide +kernel
theorem dX1_undo_31 : decode cX1_undo 31 = .ok (.invokevirtual 66, 3) := by decide +kernel
theorem dX1_undo_34 : decode cX1_undo 34 = .ok (.ifCond .eq 29, 3) := by decide +kernel
theorem dX1_undo_37 : decode cX1_undo 37 = .ok (.aload 4, 2) := by decide +kernel
theorem dX1_undo_39 : decode cX1_undo 39 = .ok (.aload_n 0, 1) := by decide +kernel
theorem dX1_undo_40 : decode cX1_undo 40 = .ok (.getfield 38, 3) := by decide +kernel
theorem dX1_undo_43 : decode cX1_undo 43 = .ok (.invokevirtual 69, 3) := by decide +kernel
theorem dX1_undo_46 : decode cX1_undo 46 = .ok (.ifCond .eq 17, 3) := by decide +kernel
theorem dX1_undo_49 : decode cX1_undo 49 = .ok (.aload_n 0, 1) := by decide +kernel
theorem dX1_undo_50 : decode cX1_undo 50 = .ok (.aload 4, 2) := by decide +kernel
theorem dX1_undo_52 : decode cX1_undo 52 = .ok (.aload 4, 2) := by decide +kernel
theorem dX1_undo_54 : decode cX1_undo 54 = .ok (.invokevirtual 72, 3) := by decide +kernel
theorem dX1_undo_57 : decode cX1_undo 57 = .ok (.invokevirtual 62, 3) := by decide +kernel
theorem dX1_undo_60 : decode cX1_undo 60 = .ok (.iinc 2 1, 3) := by decide +kernel
theorem dX1_undo_63 : decode cX1_undo 63 = .ok (.iinc 3 1, 3) := by decide +kernel
theorem dX1_undo_66 : decode cX1_undo 66 = .ok (.goto (-58), 3) := by decide +kernel
theorem dX1_undo_69 : decode cX1_undo 69 = .ok (.iload_n 2, 1) := by decide +kernel
theorem dX1_undo_70 : decode cX1_undo 70 = .ok (.ireturn, 1) := by decide +kernel
theorem dX1_forgetNets_0 : decode cX1_forgetNets 0 = .ok (.iconst 0, 1) := by decide +kernel
theorem dX1_forgetNets_1 : decode cX1_forgetNets 1 = .ok (.istore_n 1, 1) := by decide +kernel
theorem dX1_forgetNets_2 : decode cX1_forgetNets 2 = .ok (.iload_n 1, 1) := by decide +kernel
theorem dX1_forgetNets_3 : decode cX1_forgetNets 3 = .ok (.iconst 5, 1) := by decide +kernel
theorem dX1_forgetNets_4 : decode cX1_forgetNets 4 = .ok (.if_icmp .ge 16, 3) := by decide +kernel
theorem dX1_forgetNets_7 : decode cX1_forgetNets 7 = .ok (.aload_n 0, 1) := by decide +kernel
theorem dX1_forgetNets_8 : decode cX1_forgetNets 8 = .ok (.getfield 17, 3) := by decide +kernel
theorem dX1_forgetNets_11 : decode cX1_forgetNets 11 = .ok (.iload_n 1, 1) := by decide +kernel
theorem dX1_forgetNets_12 : decode cX1_forgetNets 12 = .ok (.lconst 0, 1) := by decide +kernel
theorem dX1_forgetNets_13 : decode cX1_forgetNets 13 = .ok (.lastore, 1) := by decide +kernel
theorem dX1_forgetNets_14 : decode cX1_forgetNets 14 = .ok (.iinc 1 1, 3) := by decide +kernel
theorem dX1_forgetNets_17 : decode cX1_forgetNets 17 = .ok (.goto (-15), 3) := by decide +kernel
theorem dX1_forgetNets_20 : decode cX1_forgetNets 20 = .ok (.return_, 1) := by decide +kernel
theorem dX1_addToNets_0 : decode cX1_addToNets 0 = .ok (.aload_n 1, 1) := by decide +kernel
theorem dX1_addToNets_1 : decode cX1_addToNets 1 = .ok (.getfield 49, 3) := by decide +kernel
theorem dX1_addToNets_4 : decode cX1_addToNets 4 = .ok (.invokestatic 28, 3) := by decide +kernel
theorem dX1_addToNets_7 : decode cX1_addToNets 7 = .ok (.ifCond .eq 41, 3) := by decide +kernel
theorem dX1_addToNets_10 : decode cX1_addToNets 10 = .ok (.aload_n 1, 1) := by decide +kernel
theorem dX1_addToNets_11 : decode cX1_addToNets 11 = .ok (.getfield 55, 3) := by decide +kernel
theorem dX1_addToNets_14 : decode cX1_addToNets 14 = .ok (.invokestatic 28, 3) := by decide +kernel
theorem dX1_addToNets_17 : decode cX1_addToNets 17 = .ok (.ifCond .eq 31, 3) := by decide +kernel
theorem dX1_addToNets_20 : decode cX1_addToNets 20 = .ok (.aload_n 0, 1) := by decide +kernel
theorem dX1_addToNets_21 : decode cX1_addToNets 21 = .ok (.getfield 17, 3) := by decide +kernel
theorem dX1_addToNets_24 : decode cX1_addToNets 24 = .ok (.aload_n 1, 1) := by decide +kernel
theorem dX1_addToNets_25 : decode cX1_addToNets 25 = .ok (.getfield 49, 3) := by decide +kernel
theorem dX1_addToNets_28 : decode cX1_addToNets 28 = .ok (.dup2, 1) := by decide +kernel
theorem dX1_addToNets_29 : decode cX1_addToNets 29 = .ok (.laload, 1) := by decide +kernel
theorem dX1_addToNets_30 : decode cX1_addToNets 30 = .ok (.iload_n 2, 1) := by decide +kernel
theorem dX1_addToNets_31 : decode cX1_addToNets 31 = .ok (.i2l, 1) := by decide +kernel
theorem dX1_addToNets_32 : decode cX1_addToNets 32 = .ok (.lsub, 1) := by decide +kernel
theorem dX1_addToNets_33 : decode cX1_addToNets 33 = .ok (.lastore, 1) := by decide +kernel
theorem dX1_addToNets_34 : decode cX1_addToNets 34 = .ok (.aload_n 0, 1) := by decide +kernel
theorem dX1_addToNets_35 : decode cX1_addToNets 35 = .ok (.getfield 17, 3) := by decide +kernel
theorem dX1_addToNets_38 : decode cX1_addToNets 38 = .ok (.aload_n 1, 1) := by decide +kernel
theorem dX1_addToNets_39 : decode cX1_addToNets 39 = .ok (.getfield 55, 3) := by decide +kernel
theorem dX1_addToNets_42 : decode cX1_addToNets 42 = .ok (.dup2, 1) := by decide +kernel
theorem dX1_addToNets_43 : decode cX1_addToNets 43 = .ok (.laload, 1) := by decide +kernel
theorem dX1_addToNets_44 : decode cX1_addToNets 44 = .ok (.iload_n 2, 1) := by decide +kernel
theorem dX1_addToNets_45 : decode cX1_addToNets 45 = .ok (.i2l, 1) := by decide +kernel
theorem dX1_addToNets_46 : decode cX1_addToNets 46 = .ok (.ladd, 1) := by decide +kernel
theorem dX1_addToNets_47 : decode cX1_addToNets 47 = .ok (.lastore, 1) := by decide +kernel
theorem dX1_addToNets_48 : decode cX1_addToNets 48 = .ok (.return_, 1) := by decide +kernel
theorem dX1_netOf_0 : decode cX1_netOf 0 = .ok (.iload_n 1, 1) := by decide +kernel
theorem dX1_netOf_1 : decode cX1_netOf 1 = .ok (.invokestatic 28, 3) := by decide +kernel
theorem dX1_netOf_4 : decode cX1_netOf 4 = .ok (.ifCond .eq 12, 3) := by decide +kernel
theorem dX1_netOf_7 : decode cX1_netOf 7 = .ok (.aload_n 0, 1) := by decide +kernel
theorem dX1_netOf_8 : decode cX1_netOf 8 = .ok (.getfield 17, 3) := by decide +kernel
theorem dX1_netOf_11 : decode cX1_netOf 11 = .ok (.iload_n 1, 1) := by decide +kernel
theorem dX1_netOf_12 : decode cX1_netOf 12 = .ok (.laload, 1) := by decide +kernel
theorem dX1_netOf_13 : decode cX1_netOf 13 = .ok (.goto 4, 3) := by decide +kernel
theorem dX1_netOf_16 : decode cX1_netOf 16 = .ok (.lconst 0, 1) := by decide +kernel
theorem dX1_netOf_17 : decode cX1_netOf 17 = .ok (.lreturn, 1) := by decide +kernel
theorem dX1_sumOfNetsAboveZero_0 : decode cX1_sumOfNetsAboveZero 0 = .ok (.lconst 0, 1) := by decide +kernel
theorem dX1_sumOfNetsAboveZero_1 : decode cX1_sumOfNetsAboveZero 1 = .ok (.lstore_n 1, 1) := by decide +kernel
theorem dX1_sumOfNetsAboveZero_2 : decode cX1_sumOfNetsAboveZero 2 = .ok (.iconst 0, 1) := by decide +kernel
theorem dX1_sumOfNetsAboveZero_3 : decode cX1_sumOfNetsAboveZero 3 = .ok (.istore_n 3, 1) := by decide +kernel
theorem dX1_sumOfNetsAboveZero_4 : decode cX1_sumOfNetsAboveZero 4 = .ok (.iload_n 3, 1) := by decide +kernel
theorem dX1_sumOfNetsAboveZero_5 : decode cX1_sumOfNetsAboveZero 5 = .ok (.iconst 5, 1) := by decide +kernel
theorem dX1_sumOfNetsAboveZero_6 : decode cX1_sumOfNetsAboveZero 6 = .ok (.if_icmp .ge 21, 3) := by decide +kernel
theorem dX1_sumOfNetsAboveZero_9 : decode cX1_sumOfNetsAboveZero 9 = .ok (.lload_n 1, 1) := by decide +kernel
theorem dX1_sumOfNetsAboveZero_10 : decode cX1_sumOfNetsAboveZero 10 = .ok (.aload_n 0, 1) := by decide +kernel
theorem dX1_sumOfNetsAboveZero_11 : decode cX1_sumOfNetsAboveZero 11 = .ok (.iload_n 3, 1) := by decide +kernel
theorem dX1_sumOfNetsAboveZero_12 : decode cX1_sumOfNetsAboveZero 12 = .ok (.invokevirtual 76, 3) := by decide +kernel
theorem dX1_sumOfNetsAboveZero_15 : decode cX1_sumOfNetsAboveZero 15 = .ok (.lconst 0, 1) := by decide +kernel
theorem dX1_sumOfNetsAboveZero_16 : decode cX1_sumOfNetsAboveZero 16 = .ok (.invokestatic 80, 3) := by decide +kernel
theorem dX1_sumOfNetsAboveZero_19 : decode cX1_sumOfNetsAboveZero 19 = .ok (.ladd, 1) := by decide +kernel
theorem dX1_sumOfNetsAboveZero_20 : decode cX1_sumOfNetsAboveZero 20 = .ok (.lstore_n 1, 1) := by decide +kernel
theorem dX1_sumOfNetsAboveZero_21 : decode cX1_sumOfNetsAboveZero 21 = .ok (.iinc 3 1, 3) := by decide +kernel
theorem dX1_sumOfNetsAboveZero_24 : decode cX1_sumOfNetsAboveZero 24 = .ok (.goto (-20), 3) := by decide +kernel
theorem dX1_sumOfNetsAboveZero_27 : decode cX1_sumOfNetsAboveZero 27 = .ok (.lload_n 1, 1) := by decide +kernel
theorem dX1_sumOfNetsAboveZero_28 : decode cX1_sumOfNetsAboveZero 28 = .ok (.lreturn, 1) := by decide +kernel
theorem dX1_gotBy_0 : decode cX1_gotBy 0 = .ok (.lconst 0, 1) := by decide +kernel
theorem dX1_gotBy_1 : decode cX1_gotBy 1 = .ok (.lstore_n 2, 1) := by decide +kernel
theorem dX1_gotBy_2 : decode cX1_gotBy 2 = .ok (.iconst 0, 1) := by decide +kernel
theorem dX1_gotBy_3 : decode cX1_gotBy 3 = .ok (.istore 4, 2) := by decide +kernel
theorem dX1_gotBy_5 : decode cX1_gotBy 5 = .ok (.iload 4, 2) := by decide +kernel
theorem dX1_gotBy_7 : decode cX1_gotBy 7 = .ok (.aload_n 0, 1) := by decide +kernel
theorem dX1_gotBy_8 : decode cX1_gotBy 8 = .ok (.getfield 21, 3) := by decide +kernel
theorem dX1_gotBy_11 : decode cX1_gotBy 11 = .ok (.if_icmp .ge 63, 3) := by decide +kernel
theorem dX1_gotBy_14 : decode cX1_gotBy 14 = .ok (.aload_n 0, 1) := by decide +kernel
theorem dX1_gotBy_15 : decode cX1_gotBy 15 = .ok (.iload 4, 2) := by decide +kernel
theorem dX1_gotBy_17 : decode cX1_gotBy 17 = .ok (.invokevirtual 41, 3) := by decide +kernel
theorem dX1_gotBy_20 : decode cX1_gotBy 20 = .ok (.astore 5, 2) := by decide +kernel
theorem dX1_gotBy_22 : decode cX1_gotBy 22 = .ok (.aload 5, 2) := by decide +kernel
theorem dX1_gotBy_24 : decode cX1_gotBy 24 = .ok (.ifnull 21, 3) := by decide +kernel
theorem dX1_gotBy_27 : decode cX1_gotBy 27 = .ok (.aload 5, 2) := by decide +kernel
theorem dX1_gotBy_29 : decode cX1_gotBy 29 = .ok (.getfield 55, 3) := by decide +kernel
theorem dX1_gotBy_32 : decode cX1_gotBy 32 = .ok (.iload_n 1, 1) := by decide +kernel
theorem dX1_gotBy_33 : decode cX1_gotBy 33 = .ok (.if_icmp .ne 12, 3) := by decide +kernel
theorem dX1_gotBy_36 : decode cX1_gotBy 36 = .ok (.lload_n 2, 1) := by decide +kernel
theorem dX1_gotBy_37 : decode cX1_gotBy 37 = .ok (.aload 5, 2) := by decide +kernel
theorem dX1_gotBy_39 : decode cX1_gotBy 39 = .ok (.invokevirtual 86, 3) := by decide +kernel
theorem dX1_gotBy_42 : decode cX1_gotBy 42 = .ok (.i2l, 1) := by decide +kernel
theorem dX1_gotBy_43 : decode cX1_gotBy 43 = .ok (.ladd, 1) := by decide +kernel
theorem dX1_gotBy_44 : decode cX1_gotBy 44 = .ok (.lstore_n 2, 1) := by decide +kernel
theorem dX1_gotBy_45 : decode cX1_gotBy 45 = .ok (.aload 5, 2) := by decide +kernel
theorem dX1_gotBy_47 : decode cX1_gotBy 47 = .ok (.ifnull 21, 3) := by decide +kernel
theorem dX1_gotBy_50 : decode cX1_gotBy 50 = .ok (.aload 5, 2) := by decide +kernel
theorem dX1_gotBy_52 : decode cX1_gotBy 52 = .ok (.getfield 49, 3) := by decide +kernel
theorem dX1_gotBy_55 : decode cX1_gotBy 55 = .ok (.iload_n 1, 1) := by decide +kernel
theorem dX1_gotBy_56 : decode cX1_gotBy 56 = .ok (.if_icmp .ne 12, 3) := by decide +kernel
theorem dX1_gotBy_59 : decode cX1_gotBy 59 = .ok (.lload_n 2, 1) := by decide +kernel
theorem dX1_gotBy_60 : decode cX1_gotBy 60 = .ok (.aload 5, 2) := by decide +kernel
theorem dX1_gotBy_62 : decode cX1_gotBy 62 = .ok (.invokevirtual 86, 3) := by decide +kernel
theorem dX1_gotBy_65 : decode cX1_gotBy 65 = .ok (.i2l, 1) := by decide +kernel
theorem dX1_gotBy_66 : decode cX1_gotBy 66 = .ok (.lsub, 1) := by decide +kernel
theorem dX1_gotBy_67 : decode cX1_gotBy 67 = .ok (.lstore_n 2, 1) := by decide +kernel
theorem dX1_gotBy_68 : decode cX1_gotBy 68 = .ok (.iinc 4 1, 3) := by decide +kernel
theorem dX1_gotBy_71 : decode cX1_gotBy 71 = .ok (.goto (-66), 3) := by decide +kernel
theorem dX1_gotBy_74 : decode cX1_gotBy 74 = .ok (.lload_n 2, 1) := by decide +kernel
theorem dX1_gotBy_75 : decode cX1_gotBy 75 = .ok (.lreturn, 1) := by decide +kernel
theorem dX2_init_0 : decode cX2_init 0 = .ok (.aload_n 0, 1) := by decide +kernel
theorem dX2_init_1 : decode cX2_init 1 = .ok (.invokespecial 3, 3) := by decide +kernel
theorem dX2_init_4 : decode cX2_init 4 = .ok (.aload_n 0, 1) := by decide +kernel
theorem dX2_init_5 : decode cX2_init 5 = .ok (.iconst 0, 1) := by decide +kernel
theorem dX2_init_6 : decode cX2_init 6 = .ok (.putfield 9, 3) := by decide +kernel
theorem dX2_init_9 : decode cX2_init 9 = .ok (.aload_n 0, 1) := by decide +kernel
theorem dX2_init_10 : decode cX2_init 10 = .ok (.iconst (-1), 1) := by decide +kernel
theorem dX2_init_11 : decode cX2_init 11 = .ok (.putfield 15, 3) := by decide +kernel
theorem dX2_init_14 : decode cX2_init 14 = .ok (.aload_n 0, 1) := by decide +kernel
theorem dX2_init_15 : decode cX2_init 15 = .ok (.aload_n 1, 1) := by decide +kernel
theorem dX2_init_16 : decode cX2_init 16 = .ok (.getfield 18, 3) := by decide +kernel
theorem dX2_init_19 : decode cX2_init 19 = .ok (.putfield 23, 3) := by decide +kernel
theorem dX2_init_22 : decode cX2_init 22 = .ok (.aload_n 0, 1) := by decide +kernel
theorem dX2_init_23 : decode cX2_init 23 = .ok (.aload_n 1, 1) := by decide +kernel
theorem dX2_init_24 : decode cX2_init 24 = .ok (.getfield 24, 3) := by decide +kernel
theorem dX2_init_27 : decode cX2_init 27 = .ok (.putfield 27, 3) := by decide +kernel
theorem dX2_init_30 : decode cX2_init 30 = .ok (.aload_n 0, 1) := by decide +kernel
theorem dX2_init_31 : decode cX2_init 31 = .ok (.aload_n 1, 1) := by decide +kernel
theorem dX2_init_32 : decode cX2_init 32 = .ok (.getfield 28, 3) := by decide +kernel
theorem dX2_init_35 : decode cX2_init 35 = .ok (.putfield 31, 3) := by decide +kernel
theorem dX2_init_38 : decode cX2_init 38 = .ok (.aload_n 0, 1) := by decide +kernel
theorem dX2_init_39 : decode cX2_init 39 = .ok (.aload_n 1, 1) := by decide +kernel
theorem dX2_init_40 : decode cX2_init 40 = .ok (.getfield 32, 3) := by decide +kernel
theorem dX2_init_43 : decode cX2_init 43 = .ok (.putfield 35, 3) := by decide +kernel
theorem dX2_init_46 : decode cX2_init 46 = .ok (.aload_n 0, 1) := by decide +kernel
theorem dX2_init_47 : decode cX2_init 47 = .ok (.iload_n 2, 1) := by decide +kernel
theorem dX2_init_48 : decode cX2_init 48 = .ok (.putfield 36, 3) := by decide +kernel
theorem dX2_init_51 : decode cX2_init 51 = .ok (.return_, 1) := by decide +kernel
theorem dX3_init_0 : decode cX3_init 0 = .ok (.aload_n 0, 1) := by decide +kernel
theorem dX3_init_1 : decode cX3_init 1 = .ok (.invokespecial 1, 3) := by decide +kernel
theorem dX3_init_4 : decode cX3_init 4 = .ok (.aload_n 0, 1) := by decide +kernel
theorem dX3_init_5 : decode cX3_init 5 = .ok (.iload_n 1, 1) := by decide +kernel
theorem dX3_init_6 : decode cX3_init 6 = .ok (.putfield 7, 3) := by decide +kernel
theorem dX3_init_9 : decode cX3_init 9 = .ok (.aload_n 0, 1) := by decide +kernel
theorem dX3_init_10 : decode cX3_init 10 = .ok (.iload_n 2, 1) := by decide +kernel
theorem dX3_init_11 : decode cX3_init 11 = .ok (.putfield 13, 3) := by decide +kernel
theorem dX3_init_14 : decode cX3_init 14 = .ok (.aload_n 0, 1) := by decide +kernel
theorem dX3_init_15 : decode cX3_init 15 = .ok (.iload_n 3, 1) := by decide +kernel
theorem dX3_init_16 : decode cX3_init 16 = .ok (.putfield 16, 3) := by decide +kernel
theorem dX3_init_19 : decode cX3_init 19 = .ok (.aload_n 0, 1) := by decide +kernel
theorem dX3_init_20 : decode cX3_init 20 = .ok (.iload 4, 2) := by decide +kernel
theorem dX3_init_22 : decode cX3_init 22 = .ok (.putfield 19, 3) := by decide +kernel
theorem dX3_init_25 : decode cX3_init 25 = .ok (.aload_n 0, 1) := by decide +kernel
theorem dX3_init_26 : decode cX3_init 26 = .ok (.iload 5, 2) := by decide +kernel
theorem dX3_init_28 : decode cX3_init 28 = .ok (.putfield 22, 3) := by decide +kernel
theorem dX3_init_31 : decode cX3_init 31 = .ok (.aload_n 0, 1) := by decide +kernel
theorem dX3_init_32 : decode cX3_init 32 = .ok (.iload 6, 2) := by decide +kernel
theorem dX3_init_34 : decode cX3_init 34 = .ok (.putfield 25, 3) := by decide +kernel
theorem dX3_init_37 : decode cX3_init 37 = .ok (.return_, 1) := by decide +kernel
theorem dX3_isFor_0 : decode cX3_isFor 0 = .ok (.aload_n 0, 1) := by decide +kernel
theorem dX3_isFor_1 : decode cX3_isFor 1 = .ok (.getfield 7, 3) := by decide +kernel
theorem dX3_isFor_4 : decode cX3_isFor 4 = .ok (.iload_n 1, 1) := by decide +kernel
theorem dX3_isFor_5 : decode cX3_isFor 5 = .ok (.if_icmp .ne 38, 3) := by decide +kernel
theorem dX3_isFor_8 : decode cX3_isFor 8 = .ok (.aload_n 0, 1) := by decide +kernel
theorem dX3_isFor_9 : decode cX3_isFor 9 = .ok (.getfield 13, 3) := by decide +kernel
theorem dX3_isFor_12 : decode cX3_isFor 12 = .ok (.iload_n 2, 1) := by decide +kernel
theorem dX3_isFor_13 : decode cX3_isFor 13 = .ok (.if_icmp .ne 30, 3) := by decide +kernel
theorem dX3_isFor_16 : decode cX3_isFor 16 = .ok (.aload_n 0, 1) := by decide +kernel
theorem dX3_isFor_17 : decode cX3_isFor 17 = .ok (.getfield 28, 3) := by decide +kernel
theorem dX3_isFor_20 : decode cX3_isFor 20 = .ok (.ifCond .ne 23, 3) := by decide +kernel
theorem dX3_isFor_23 : decode cX3_isFor 23 = .ok (.aload_n 0, 1) := by decide +kernel
theorem dX3_isFor_24 : decode cX3_isFor 24 = .ok (.getfield 19, 3) := by decide +kernel
theorem dX3_isFor_27 : decode cX3_isFor 27 = .ok (.iload_n 3, 1) := by decide +kernel
theorem dX3_isFor_28 : decode cX3_isFor 28 = .ok (.if_icmp .gt 15, 3) := by decide +kernel
theorem dX3_isFor_31 : decode cX3_isFor 31 = .ok (.iload_n 3, 1) := by decide +kernel
theorem dX3_isFor_32 : decode cX3_isFor 32 = .ok (.aload_n 0, 1) := by decide +kernel
theorem dX3_isFor_33 : decode cX3_isFor 33 = .ok (.getfield 22, 3) := by decide +kernel
theorem dX3_isFor_36 : decode cX3_isFor 36 = .ok (.if_icmp .gt 7, 3) := by decide +kernel
theorem dX3_isFor_39 : decode cX3_isFor 39 = .ok (.iconst 1, 1) := by decide +kernel
theorem dX3_isFor_40 : decode cX3_isFor 40 = .ok (.goto 4, 3) := by decide +kernel
theorem dX3_isFor_43 : decode cX3_isFor 43 = .ok (.iconst 0, 1) := by decide +kernel
theorem dX3_isFor_44 : decode cX3_isFor 44 = .ok (.ireturn, 1) := by decide +kernel
theorem dX4_init_0 : decode cX4_init 0 = .ok (.aload_n 0, 1) := by decide +kernel
theorem dX4_init_1 : decode cX4_init 1 = .ok (.invokespecial 3, 3) := by decide +kernel
theorem dX4_init_4 : decode cX4_init 4 = .ok (.aload_n 0, 1) := by decide +kernel
theorem dX4_init_5 : decode cX4_init 5 = .ok (.bipush 8, 2) := by decide +kernel
theorem dX4_init_7 : decode cX4_init 7 = .ok (.anewarray 9, 3) := by decide +kernel
theorem dX4_init_10 : decode cX4_init 10 = .ok (.putfield 11, 3) := by decide +kernel
theorem dX4_init_13 : decode cX4_init 13 = .ok (.iconst 0, 1) := by decide +kernel
theorem dX4_init_14 : decode cX4_init 14 = .ok (.istore_n 1, 1) := by decide +kernel
theorem dX4_init_15 : decode cX4_init 15 = .ok (.iload_n 1, 1) := by decide +kernel
theorem dX4_init_16 : decode cX4_init 16 = .ok (.bipush 8, 2) := by decide +kernel
theorem dX4_init_18 : decode cX4_init 18 = .ok (.if_icmp .ge 22, 3) := by decide +kernel
theorem dX4_init_21 : decode cX4_init 21 = .ok (.aload_n 0, 1) := by decide +kernel
theorem dX4_init_22 : decode cX4_init 22 = .ok (.getfield 11, 3) := by decide +kernel
theorem dX4_init_25 : decode cX4_init 25 = .ok (.iload_n 1, 1) := by decide +kernel
theorem dX4_init_26 : decode cX4_init 26 = .ok (.new 9, 3) := by decide +kernel
theorem dX4_init_29 : decode cX4_init 29 = .ok (.dup, 1) := by decide +kernel
theorem dX4_init_30 : decode cX4_init 30 = .ok (.invokespecial 17, 3) := by decide +kernel
theorem dX4_init_33 : decode cX4_init 33 = .ok (.aastore, 1) := by decide +kernel
theorem dX4_init_34 : decode cX4_init 34 = .ok (.iinc 1 1, 3) := by decide +kernel
theorem dX4_init_37 : decode cX4_init 37 = .ok (.goto (-22), 3) := by decide +kernel
theorem dX4_init_40 : decode cX4_init 40 = .ok (.return_, 1) := by decide +kernel
theorem dX4_legAt_0 : decode cX4_legAt 0 = .ok (.iload_n 1, 1) := by decide +kernel
theorem dX4_legAt_1 : decode cX4_legAt 1 = .ok (.ifCond .lt 26, 3) := by decide +kernel
theorem dX4_legAt_4 : decode cX4_legAt 4 = .ok (.iload_n 1, 1) := by decide +kernel
theorem dX4_legAt_5 : decode cX4_legAt 5 = .ok (.aload_n 0, 1) := by decide +kernel
theorem dX4_legAt_6 : decode cX4_legAt 6 = .ok (.getfield 18, 3) := by decide +kernel
theorem dX4_legAt_9 : decode cX4_legAt 9 = .ok (.if_icmp .ge 18, 3) := by decide +kernel
theorem dX4_legAt_12 : decode cX4_legAt 12 = .ok (.iload_n 1, 1) := by decide +kernel
theorem dX4_legAt_13 : decode cX4_legAt 13 = .ok (.bipush 8, 2) := by decide +kernel
theorem dX4_legAt_15 : decode cX4_legAt 15 = .ok (.if_icmp .ge 12, 3) := by decide +kernel
theorem dX4_legAt_18 : decode cX4_legAt 18 = .ok (.aload_n 0, 1) := by decide +kernel
theorem dX4_legAt_19 : decode cX4_legAt 19 = .ok (.getfield 11, 3) := by decide +kernel
theorem dX4_legAt_22 : decode cX4_legAt 22 = .ok (.iload_n 1, 1) := by decide +kernel
theorem dX4_legAt_23 : decode cX4_legAt 23 = .ok (.aaload, 1) := by decide +kernel
theorem dX4_legAt_24 : decode cX4_legAt 24 = .ok (.goto 4, 3) := by decide +kernel
theorem dX4_legAt_27 : decode cX4_legAt 27 = .ok (.aconst_null, 1) := by decide +kernel
theorem dX4_legAt_28 : decode cX4_legAt 28 = .ok (.areturn, 1) := by decide +kernel
theorem dX4_goesOn_0 : decode cX4_goesOn 0 = .ok (.aload_n 0, 1) := by decide +kernel
theorem dX4_goesOn_1 : decode cX4_goesOn 1 = .ok (.aload_n 0, 1) := by decide +kernel
theorem dX4_goesOn_2 : decode cX4_goesOn 2 = .ok (.getfield 18, 3) := by decide +kernel
theorem dX4_goesOn_5 : decode cX4_goesOn 5 = .ok (.iconst 1, 1) := by decide +kernel
theorem dX4_goesOn_6 : decode cX4_goesOn 6 = .ok (.isub, 1) := by decide +kernel
theorem dX4_goesOn_7 : decode cX4_goesOn 7 = .ok (.invokevirtual 22, 3) := by decide +kernel
theorem dX4_goesOn_10 : decode cX4_goesOn 10 = .ok (.astore_n 3, 1) := by decide +kernel
theorem dX4_goesOn_11 : decode cX4_goesOn 11 = .ok (.aload_n 0, 1) := by decide +kernel
theorem dX4_goesOn_12 : decode cX4_goesOn 12 = .ok (.getfield 18, 3) := by decide +kernel
theorem dX4_goesOn_15 : decode cX4_goesOn 15 = .ok (.bipush 8, 2) := by decide +kernel
theorem dX4_goesOn_17 : decode cX4_goesOn 17 = .ok (.if_icmp .ge 27, 3) := by decide +kernel
theorem dX4_goesOn_20 : decode cX4_goesOn 20 = .ok (.aload_n 3, 1) := by decide +kernel
theorem dX4_goesOn_21 : decode cX4_goesOn 21 = .ok (.ifnull 19, 3) := by decide +kernel
theorem dX4_goesOn_24 : decode cX4_goesOn 24 = .ok (.aload_n 3, 1) := by decide +kernel
theorem dX4_goesOn_25 : decode cX4_goesOn 25 = .ok (.getfield 26, 3) := by decide +kernel
theorem dX4_goesOn_28 : decode cX4_goesOn 28 = .ok (.iload_n 1, 1) := by decide +kernel
theorem dX4_goesOn_29 : decode cX4_goesOn 29 = .ok (.if_icmp .ne 15, 3) := by decide +kernel
theorem dX4_goesOn_32 : decode cX4_goesOn 32 = .ok (.aload_n 3, 1) := by decide +kernel
theorem dX4_goesOn_33 : decode cX4_goesOn 33 = .ok (.getfield 29, 3) := by decide +kernel
theorem dX4_goesOn_36 : decode cX4_goesOn 36 = .ok (.iload_n 2, 1) := by decide +kernel
theorem dX4_goesOn_37 : decode cX4_goesOn 37 = .ok (.if_icmp .gt 7, 3) := by decide +kernel
theorem dX4_goesOn_40 : decode cX4_goesOn 40 = .ok (.iconst 1, 1) := by decide +kernel
theorem dX4_goesOn_41 : decode cX4_goesOn 41 = .ok (.goto 4, 3) := by decide +kernel
theorem dX4_goesOn_44 : decode cX4_goesOn 44 = .ok (.iconst 0, 1) := by decide +kernel
theorem dX4_goesOn_45 : decode cX4_goesOn 45 = .ok (.ireturn, 1) := by decide +kernel
theorem dX4_add_0 : decode cX4_add 0 = .ok (.aload_n 0, 1) := by decide +kernel
theorem dX4_add_1 : decode cX4_add 1 = .ok (.getfield 18, 3) := by decide +kernel
theorem dX4_add_4 : decode cX4_add 4 = .ok (.bipush 8, 2) := by decide +kernel
theorem dX4_add_6 : decode cX4_add 6 = .ok (.if_icmp .ge 15, 3) := by decide +kernel
theorem dX4_add_9 : decode cX4_add 9 = .ok (.aload_n 0, 1) := by decide +kernel
theorem dX4_add_10 : decode cX4_add 10 = .ok (.getfield 11, 3) := by decide +kernel
theorem dX4_add_13 : decode cX4_add 13 = .ok (.aload_n 0, 1) := by decide +kernel
theorem dX4_add_14 : decode cX4_add 14 = .ok (.getfield 18, 3) := by decide +kernel
theorem dX4_add_17 : decode cX4_add 17 = .ok (.aaload, 1) := by decide +kernel
theorem dX4_add_18 : decode cX4_add 18 = .ok (.goto 4, 3) := by decide +kernel
theorem dX4_add_21 : decode cX4_add 21 = .ok (.aconst_null, 1) := by decide +kernel
theorem dX4_add_22 : decode cX4_add 22 = .ok (.astore 5, 2) := by decide +kernel
theorem dX4_add_24 : decode cX4_add 24 = .ok (.aload 5, 2) := by decide +kernel
theorem dX4_add_26 : decode cX4_add 26 = .ok (.ifnull 38, 3) := by decide +kernel
theorem dX4_add_29 : decode cX4_add 29 = .ok (.aload 5, 2) := by decide +kernel
theorem dX4_add_31 : decode cX4_add 31 = .ok (.iload_n 1, 1) := by decide +kernel
theorem dX4_add_32 : decode cX4_add 32 = .ok (.putfield 32, 3) := by decide +kernel
theorem dX4_add_35 : decode cX4_add 35 = .ok (.aload 5, 2) := by decide +kernel
theorem dX4_add_37 : decode cX4_add 37 = .ok (.iload_n 2, 1) := by decide +kernel
theorem dX4_add_38 : decode cX4_add 38 = .ok (.putfield 26, 3) := by decide +kernel
theorem dX4_add_41 : decode cX4_add 41 = .ok (.aload 5, 2) := by decide +kernel
theorem dX4_add_43 : decode cX4_add 43 = .ok (.iload_n 3, 1) := by decide +kernel
theorem dX4_add_44 : decode cX4_add 44 = .ok (.putfield 35, 3) := by decide +kernel
theorem dX4_add_47 : decode cX4_add 47 = .ok (.aload 5, 2) := by decide +kernel
theorem dX4_add_49 : decode cX4_add 49 = .ok (.iload 4, 2) := by decide +kernel
theorem dX4_add_51 : decode cX4_add 51 = .ok (.putfield 29, 3) := by decide +kernel
theorem dX4_add_54 : decode cX4_add 54 = .ok (.aload_n 0, 1) := by decide +kernel
theorem dX4_add_55 : decode cX4_add 55 = .ok (.dup, 1) := by decide +kernel
theorem dX4_add_56 : decode cX4_add 56 = .ok (.getfield 18, 3) := by decide +kernel
theorem dX4_add_59 : decode cX4_add 59 = .ok (.iconst 1, 1) := by decide +kernel
theorem dX4_add_60 : decode cX4_add 60 = .ok (.iadd, 1) := by decide +kernel
theorem dX4_add_61 : decode cX4_add 61 = .ok (.putfield 18, 3) := by decide +kernel
theorem dX4_add_64 : decode cX4_add 64 = .ok (.aload_n 0, 1) := by decide +kernel
theorem dX4_add_65 : decode cX4_add 65 = .ok (.getfield 18, 3) := by decide +kernel
theorem dX4_add_68 : decode cX4_add 68 = .ok (.ireturn, 1) := by decide +kernel
theorem dX4_beginAnew_0 : decode cX4_beginAnew 0 = .ok (.aload_n 0, 1) := by decide +kernel
theorem dX4_beginAnew_1 : decode cX4_beginAnew 1 = .ok (.getfield 18, 3) := by decide +kernel
theorem dX4_beginAnew_4 : decode cX4_beginAnew 4 = .ok (.istore_n 1, 1) := by decide +kernel
theorem dX4_beginAnew_5 : decode cX4_beginAnew 5 = .ok (.aload_n 0, 1) := by decide +kernel
theorem dX4_beginAnew_6 : decode cX4_beginAnew 6 = .ok (.iconst 0, 1) := by decide +kernel
theorem dX4_beginAnew_7 : decode cX4_beginAnew 7 = .ok (.putfield 18, 3) := by decide +kernel
theorem dX4_beginAnew_10 : decode cX4_beginAnew 10 = .ok (.iload_n 1, 1) := by decide +kernel
theorem dX4_beginAnew_11 : decode cX4_beginAnew 11 = .ok (.ireturn, 1) := by decide +kernel
theorem dX4_hasLegBefore_0 : decode cX4_hasLegBefore 0 = .ok (.aload_n 0, 1) := by decide +kernel
theorem dX4_hasLegBefore_1 : decode cX4_hasLegBefore 1 = .ok (.iconst 0, 1) := by decide +kernel
theorem dX4_hasLegBefore_2 : decode cX4_hasLegBefore 2 = .ok (.invokevirtual 22, 3) := by decide +kernel
theorem dX4_hasLegBefore_5 : decode cX4_hasLegBefore 5 = .ok (.astore_n 2, 1) := by decide +kernel
theorem dX4_hasLegBefore_6 : decode cX4_hasLegBefore 6 = .ok (.aload_n 2, 1) := by decide +kernel
theorem dX4_hasLegBefore_7 : decode cX4_hasLegBefore 7 = .ok (.ifnull 15, 3) := by decide +kernel
theorem dX4_hasLegBefore_10 : decode cX4_hasLegBefore 10 = .ok (.aload_n 2, 1) := by decide +kernel
theorem dX4_hasLegBefore_11 : decode cX4_hasLegBefore 11 = .ok (.getfield 29, 3) := by decide +kernel
theorem dX4_hasLegBefore_14 : decode cX4_hasLegBefore 14 = .ok (.iload_n 1, 1) := by decide +kernel
theorem dX4_hasLegBefore_15 : decode cX4_hasLegBefore 15 = .ok (.if_icmp .ge 7, 3) := by decide +kernel
theorem dX4_hasLegBefore_18 : decode cX4_hasLegBefore 18 = .ok (.iconst 1, 1) := by decide +kernel
theorem dX4_hasLegBefore_19 : decode cX4_hasLegBefore 19 = .ok (.goto 4, 3) := by decide +kernel
theorem dX4_hasLegBefore_22 : decode cX4_hasLegBefore 22 = .ok (.iconst 0, 1) := by decide +kernel
theorem dX4_hasLegBefore_23 : decode cX4_hasLegBefore 23 = .ok (.ireturn, 1) := by decide +kernel
theorem dX4_isPoint_0 : decode cX4_isPoint 0 = .ok (.aload_n 0, 1) := by decide +kernel
theorem dX4_isPoint_1 : decode cX4_isPoint 1 = .ok (.getfield 18, 3) := by decide +kernel
theorem dX4_isPoint_4 : decode cX4_isPoint 4 = .ok (.ifCond .le 19, 3) := by decide +kernel
theorem dX4_isPoint_7 : decode cX4_isPoint 7 = .ok (.iload_n 1, 1) := by decide +kernel
theorem dX4_isPoint_8 : decode cX4_isPoint 8 = .ok (.iconst 0, 1) := by decide +kernel
theorem dX4_isPoint_9 : decode cX4_isPoint 9 = .ok (.aload_n 0, 1) := by decide +kernel
theorem dX4_isPoint_10 : decode cX4_isPoint 10 = .ok (.getfield 18, 3) := by decide +kernel
theorem dX4_isPoint_13 : decode cX4_isPoint 13 = .ok (.invokestatic 38, 3) := by decide +kernel
theorem dX4_isPoint_16 : decode cX4_isPoint 16 = .ok (.ifCond .eq 7, 3) := by decide +kernel
theorem dX4_isPoint_19 : decode cX4_isPoint 19 = .ok (.iconst 1, 1) := by decide +kernel
theorem dX4_isPoint_20 : decode cX4_isPoint 20 = .ok (.goto 4, 3) := by decide +kernel
theorem dX4_isPoint_23 : decode cX4_isPoint 23 = .ok (.iconst 0, 1) := by decide +kernel
theorem dX4_isPoint_24 : decode cX4_isPoint 24 = .ok (.ireturn, 1) := by decide +kernel
theorem dX4_placeAt_0 : decode cX4_placeAt 0 = .ok (.aload_n 0, 1) := by decide +kernel
theorem dX4_placeAt_1 : decode cX4_placeAt 1 = .ok (.iload_n 1, 1) := by decide +kernel
theorem dX4_placeAt_2 : decode cX4_placeAt 2 = .ok (.ifCond .ne 7, 3) := by decide +kernel
theorem dX4_placeAt_5 : decode cX4_placeAt 5 = .ok (.iconst 0, 1) := by decide +kernel
theorem dX4_placeAt_6 : decode cX4_placeAt 6 = .ok (.goto 6, 3) := by decide +kernel
theorem dX4_placeAt_9 : decode cX4_placeAt 9 = .ok (.iload_n 1, 1) := by decide +kernel
theorem dX4_placeAt_10 : decode cX4_placeAt 10 = .ok (.iconst 1, 1) := by decide +kernel
theorem dX4_placeAt_11 : decode cX4_placeAt 11 = .ok (.isub, 1) := by decide +kernel
theorem dX4_placeAt_12 : decode cX4_placeAt 12 = .ok (.invokevirtual 22, 3) := by decide +kernel
theorem dX4_placeAt_15 : decode cX4_placeAt 15 = .ok (.astore_n 2, 1) := by decide +kernel
theorem dX4_placeAt_16 : decode cX4_placeAt 16 = .ok (.aload_n 2, 1) := by decide +kernel
theorem dX4_placeAt_17 : decode cX4_placeAt 17 = .ok (.ifnonnull 5, 3) := by decide +kernel
theorem dX4_placeAt_20 : decode cX4_placeAt 20 = .ok (.iconst (-1), 1) := by decide +kernel
theorem dX4_placeAt_21 : decode cX4_placeAt 21 = .ok (.ireturn, 1) := by decide +kernel
theorem dX4_placeAt_22 : decode cX4_placeAt 22 = .ok (.iload_n 1, 1) := by decide +kernel
theorem dX4_placeAt_23 : decode cX4_placeAt 23 = .ok (.ifCond .ne 10, 3) := by decide +kernel
theorem dX4_placeAt_26 : decode cX4_placeAt 26 = .ok (.aload_n 2, 1) := by decide +kernel
theorem dX4_placeAt_27 : decode cX4_placeAt 27 = .ok (.getfield 32, 3) := by decide +kernel
theorem dX4_placeAt_30 : decode cX4_placeAt 30 = .ok (.goto 7, 3) := by decide +kernel
theorem dX4_placeAt_33 : decode cX4_placeAt 33 = .ok (.aload_n 2, 1) := by decide +kernel
theorem dX4_placeAt_34 : decode cX4_placeAt 34 = .ok (.getfield 26, 3) := by decide +kernel
theorem dX4_placeAt_37 : decode cX4_placeAt 37 = .ok (.ireturn, 1) := by decide +kernel
theorem dX4_isStop_0 : decode cX4_isStop 0 = .ok (.aload_n 0, 1) := by decide +kernel
theorem dX4_isStop_1 : decode cX4_isStop 1 = .ok (.iload_n 1, 1) := by decide +kernel
theorem dX4_isStop_2 : decode cX4_isStop 2 = .ok (.iconst 1, 1) := by decide +kernel
theorem dX4_isStop_3 : decode cX4_isStop 3 = .ok (.isub, 1) := by decide +kernel
theorem dX4_isStop_4 : decode cX4_isStop 4 = .ok (.invokevirtual 22, 3) := by decide +kernel
theorem dX4_isStop_7 : decode cX4_isStop 7 = .ok (.astore_n 2, 1) := by decide +kernel
theorem dX4_isStop_8 : decode cX4_isStop 8 = .ok (.aload_n 0, 1) := by decide +kernel
theorem dX4_isStop_9 : decode cX4_isStop 9 = .ok (.iload_n 1, 1) := by decide +kernel
theorem dX4_isStop_10 : decode cX4_isStop 10 = .ok (.invokevirtual 22, 3) := by decide +kernel
theorem dX4_isStop_13 : decode cX4_isStop 13 = .ok (.astore_n 3, 1) := by decide +kernel
theorem dX4_isStop_14 : decode cX4_isStop 14 = .ok (.aload_n 2, 1) := by decide +kernel
theorem dX4_isStop_15 : decode cX4_isStop 15 = .ok (.ifnull 22, 3) := by decide +kernel
theorem dX4_isStop_18 : decode cX4_isStop 18 = .ok (.aload_n 3, 1) := by decide +kernel
theorem dX4_isStop_19 : decode cX4_isStop 19 = .ok (.ifnull 18, 3) := by decide +kernel
theorem dX4_isStop_22 : decode cX4_isStop 22 = .ok (.aload_n 3, 1) := by decide +kernel
theorem dX4_isStop_23 : decode cX4_isStop 23 = .ok (.getfield 29, 3) := by decide +kernel
theorem dX4_isStop_26 : decode cX4_isStop 26 = .ok (.aload_n 2, 1) := by decide +kernel
theorem dX4_isStop_27 : decode cX4_isStop 27 = .ok (.getfield 29, 3) := by decide +kernel
theorem dX4_isStop_30 : decode cX4_isStop 30 = .ok (.if_icmp .le 7, 3) := by decide +kernel
theorem dX4_isStop_33 : decode cX4_isStop 33 = .ok (.iconst 1, 1) := by decide +kernel
theorem dX4_isStop_34 : decode cX4_isStop 34 = .ok (.goto 4, 3) := by decide +kernel
theorem dX4_isStop_37 : decode cX4_isStop 37 = .ok (.iconst 0, 1) := by decide +kernel
theorem dX4_isStop_38 : decode cX4_isStop 38 = .ok (.ireturn, 1) := by decide +kernel
theorem dX4_priceOfPart_0 : decode cX4_priceOfPart 0 = .ok (.aload_n 0, 1) := by decide +kernel
theorem dX4_priceOfPart_1 : decode cX4_priceOfPart 1 = .ok (.iload_n 2, 1) := by decide +kernel
theorem dX4_priceOfPart_2 : decode cX4_priceOfPart 2 = .ok (.invokevirtual 42, 3) := by decide +kernel
theorem dX4_priceOfPart_5 : decode cX4_priceOfPart 5 = .ok (.istore 4, 2) := by decide +kernel
theorem dX4_priceOfPart_7 : decode cX4_priceOfPart 7 = .ok (.aload_n 0, 1) := by decide +kernel
theorem dX4_priceOfPart_8 : decode cX4_priceOfPart 8 = .ok (.iload_n 3, 1) := by decide +kernel
theorem dX4_priceOfPart_9 : decode cX4_priceOfPart 9 = .ok (.invokevirtual 42, 3) := by decide +kernel
theorem dX4_priceOfPart_12 : decode cX4_priceOfPart 12 = .ok (.istore 5, 2) := by decide +kernel
theorem dX4_priceOfPart_14 : decode cX4_priceOfPart 14 = .ok (.aload_n 1, 1) := by decide +kernel
theorem dX4_priceOfPart_15 : decode cX4_priceOfPart 15 = .ok (.iload 4, 2) := by decide +kernel
theorem dX4_priceOfPart_17 : decode cX4_priceOfPart 17 = .ok (.iload 5, 2) := by decide +kernel
theorem dX4_priceOfPart_19 : decode cX4_priceOfPart 19 = .ok (.iconst 0, 1) := by decide +kernel
theorem dX4_priceOfPart_20 : decode cX4_priceOfPart 20 = .ok (.invokevirtual 46, 3) := by decide +kernel
theorem dX4_priceOfPart_23 : decode cX4_priceOfPart 23 = .ok (.iconst (-1), 1) := by decide +kernel
theorem dX4_priceOfPart_24 : decode cX4_priceOfPart 24 = .ok (.if_icmp .ne 5, 3) := by decide +kernel
theorem dX4_priceOfPart_27 : decode cX4_priceOfPart 27 = .ok (.iconst (-1), 1) := by decide +kernel
theorem dX4_priceOfPart_28 : decode cX4_priceOfPart 28 = .ok (.ireturn, 1) := by decide +kernel
theorem dX4_priceOfPart_29 : decode cX4_priceOfPart 29 = .ok (.aload_n 1, 1) := by decide +kernel
theorem dX4_priceOfPart_30 : decode cX4_priceOfPart 30 = .ok (.iload 4, 2) := by decide +kernel
theorem dX4_priceOfPart_32 : decode cX4_priceOfPart 32 = .ok (.iload 5, 2) := by decide +kernel
theorem dX4_priceOfPart_34 : decode cX4_priceOfPart 34 = .ok (.aload_n 0, 1) := by decide +kernel
theorem dX4_priceOfPart_35 : decode cX4_priceOfPart 35 = .ok (.iload_n 2, 1) := by decide +kernel
theorem dX4_priceOfPart_36 : decode cX4_priceOfPart 36 = .ok (.iload_n 3, 1) := by decide +kernel
theorem dX4_priceOfPart_37 : decode cX4_priceOfPart 37 = .ok (.invokevirtual 52, 3) := by decide +kernel
theorem dX4_priceOfPart_40 : decode cX4_priceOfPart 40 = .ok (.invokevirtual 46, 3) := by decide +kernel
theorem dX4_priceOfPart_43 : decode cX4_priceOfPart 43 = .ok (.istore 6, 2) := by decide +kernel
theorem dX4_priceOfPart_45 : decode cX4_priceOfPart 45 = .ok (.iload 6, 2) := by decide +kernel
theorem dX4_priceOfPart_47 : decode cX4_priceOfPart 47 = .ok (.iconst (-1), 1) := by decide +kernel
theorem dX4_priceOfPart_48 : decode cX4_priceOfPart 48 = .ok (.if_icmp .ne 6, 3) := by decide +kernel
theorem dX4_priceOfPart_51 : decode cX4_priceOfPart 51 = .ok (.bipush (-2), 2) := by decide +kernel
theorem dX4_priceOfPart_53 : decode cX4_priceOfPart 53 = .ok (.ireturn, 1) := by decide +kernel
theorem dX4_priceOfPart_54 : decode cX4_priceOfPart 54 = .ok (.aload_n 1, 1) := by decide +kernel
theorem dX4_priceOfPart_55 : decode cX4_priceOfPart 55 = .ok (.iload 4, 2) := by decide +kernel
theorem dX4_priceOfPart_57 : decode cX4_priceOfPart 57 = .ok (.iload 5, 2) := by decide +kernel
theorem dX4_priceOfPart_59 : decode cX4_priceOfPart 59 = .ok (.aload_n 0, 1) := by decide +kernel
theorem dX4_priceOfPart_60 : decode cX4_priceOfPart 60 = .ok (.aload_n 1, 1) := by decide +kernel
theorem dX4_priceOfPart_61 : decode cX4_priceOfPart 61 = .ok (.getfield 56, 3) := by decide +kernel
theorem dX4_priceOfPart_64 : decode cX4_priceOfPart 64 = .ok (.iload_n 2, 1) := by decide +kernel
theorem dX4_priceOfPart_65 : decode cX4_priceOfPart 65 = .ok (.iload_n 3, 1) := by decide +kernel
theorem dX4_priceOfPart_66 : decode cX4_priceOfPart 66 = .ok (.invokevirtual 60, 3) := by decide +kernel
theorem dX4_priceOfPart_69 : decode cX4_priceOfPart 69 = .ok (.invokevirtual 64, 3) := by decide +kernel
theorem dX4_priceOfPart_72 : decode cX4_priceOfPart 72 = .ok (.istore 7, 2) := by decide +kernel
theorem dX4_priceOfPart_74 : decode cX4_priceOfPart 74 = .ok (.iload 7, 2) := by decide +kernel
theorem dX4_priceOfPart_76 : decode cX4_priceOfPart 76 = .ok (.iconst (-1), 1) := by decide +kernel
theorem dX4_priceOfPart_77 : decode cX4_priceOfPart 77 = .ok (.if_icmp .ne 6, 3) := by decide +kernel
theorem dX4_priceOfPart_80 : decode cX4_priceOfPart 80 = .ok (.bipush (-3), 2) := by decide +kernel
theorem dX4_priceOfPart_82 : decode cX4_priceOfPart 82 = .ok (.ireturn, 1) := by decide +kernel
theorem dX4_priceOfPart_83 : decode cX4_priceOfPart 83 = .ok (.aload_n 1, 1) := by decide +kernel
theorem dX4_priceOfPart_84 : decode cX4_priceOfPart 84 = .ok (.iload 6, 2) := by decide +kernel
theorem dX4_priceOfPart_86 : decode cX4_priceOfPart 86 = .ok (.aload_n 0, 1) := by decide +kernel
theorem dX4_priceOfPart_87 : decode cX4_priceOfPart 87 = .ok (.aload_n 1, 1) := by decide +kernel
theorem dX4_priceOfPart_88 : decode cX4_priceOfPart 88 = .ok (.iload_n 2, 1) := by decide +kernel
theorem dX4_priceOfPart_89 : decode cX4_priceOfPart 89 = .ok (.iload_n 3, 1) := by decide +kernel
theorem dX4_priceOfPart_90 : decode cX4_priceOfPart 90 = .ok (.invokevirtual 67, 3) := by decide +kernel
theorem dX4_priceOfPart_93 : decode cX4_priceOfPart 93 = .ok (.invokestatic 71, 3) := by decide +kernel
theorem dX4_priceOfPart_96 : decode cX4_priceOfPart 96 = .ok (.iload 7, 2) := by decide +kernel
theorem dX4_priceOfPart_98 : decode cX4_priceOfPart 98 = .ok (.invokevirtual 76, 3) := by decide +kernel
theorem dX4_priceOfPart_101 : decode cX4_priceOfPart 101 = .ok (.ireturn, 1) := by decide +kernel
theorem dX4_stopsBetween_0 : decode cX4_stopsBetween 0 = .ok (.iconst 0, 1) := by decide +kernel
theorem dX4_stopsBetween_1 : decode cX4_stopsBetween 1 = .ok (.istore_n 3, 1) := by decide +kernel
theorem dX4_stopsBetween_2 : decode cX4_stopsBetween 2 = .ok (.iload_n 1, 1) := by decide +kernel
theorem dX4_stopsBetween_3 : decode cX4_stopsBetween 3 = .ok (.iconst 1, 1) := by decide +kernel
theorem dX4_stopsBetween_4 : decode cX4_stopsBetween 4 = .ok (.iadd, 1) := by decide +kernel
theorem dX4_stopsBetween_5 : decode cX4_stopsBetween 5 = .ok (.istore 4, 2) := by decide +kernel
theorem dX4_stopsBetween_7 : decode cX4_stopsBetween 7 = .ok (.iload 4, 2) := by decide +kernel
theorem dX4_stopsBetween_9 : decode cX4_stopsBetween 9 = .ok (.iload_n 2, 1) := by decide +kernel
theorem dX4_stopsBetween_10 : decode cX4_stopsBetween 10 = .ok (.if_icmp .ge 21, 3) := by decide +kernel
theorem dX4_stopsBetween_13 : decode cX4_stopsBetween 13 = .ok (.aload_n 0, 1) := by decide +kernel
theorem dX4_stopsBetween_14 : decode cX4_stopsBetween 14 = .ok (.iload 4, 2) := by decide +kernel
theorem dX4_stopsBetween_16 : decode cX4_stopsBetween 16 = .ok (.invokevirtual 79, 3) := by decide +kernel
theorem dX4_stopsBetween_19 : decode cX4_stopsBetween 19 = .ok (.ifCond .eq 6, 3) := by decide +kernel
theorem dX4_stopsBetween_22 : decode cX4_stopsBetween 22 = .ok (.iinc 3 1, 3) := by decide +kernel
theorem dX4_stopsBetween_25 : decode cX4_stopsBetween 25 = .ok (.iinc 4 1, 3) := by decide +kernel
theorem dX4_stopsBetween_28 : decode cX4_stopsBetween 28 = .ok (.goto (-21), 3) := by decide +kernel
theorem dX4_stopsBetween_31 : decode cX4_stopsBetween 31 = .ok (.iload_n 3, 1) := by decide +kernel
theorem dX4_stopsBetween_32 : decode cX4_stopsBetween 32 = .ok (.ireturn, 1) := by decide +kernel
theorem dX4_milesOfLegs_0 : decode cX4_milesOfLegs 0 = .ok (.iconst 0, 1) := by decide +kernel
theorem dX4_milesOfLegs_1 : decode cX4_milesOfLegs 1 = .ok (.istore 4, 2) := by decide +kernel
theorem dX4_milesOfLegs_3 : decode cX4_milesOfLegs 3 = .ok (.iload_n 2, 1) := by decide +kernel
theorem dX4_milesOfLegs_4 : decode cX4_milesOfLegs 4 = .ok (.istore 5, 2) := by decide +kernel
theorem dX4_milesOfLegs_6 : decode cX4_milesOfLegs 6 = .ok (.iload 5, 2) := by decide +kernel
theorem dX4_milesOfLegs_8 : decode cX4_milesOfLegs 8 = .ok (.iload_n 3, 1) := by decide +kernel
theorem dX4_milesOfLegs_9 : decode cX4_milesOfLegs 9 = .ok (.if_icmp .ge 41, 3) := by decide +kernel
theorem dX4_milesOfLegs_12 : decode cX4_milesOfLegs 12 = .ok (.aload_n 0, 1) := by decide +kernel
theorem dX4_milesOfLegs_13 : decode cX4_milesOfLegs 13 = .ok (.iload 5, 2) := by decide +kernel
theorem dX4_milesOfLegs_15 : decode cX4_milesOfLegs 15 = .ok (.invokevirtual 22, 3) := by decide +kernel
theorem dX4_milesOfLegs_18 : decode cX4_milesOfLegs 18 = .ok (.astore 6, 2) := by decide +kernel
theorem dX4_milesOfLegs_20 : decode cX4_milesOfLegs 20 = .ok (.aload 6, 2) := by decide +kernel
theorem dX4_milesOfLegs_22 : decode cX4_milesOfLegs 22 = .ok (.ifnull 22, 3) := by decide +kernel
theorem dX4_milesOfLegs_25 : decode cX4_milesOfLegs 25 = .ok (.iload 4, 2) := by decide +kernel
theorem dX4_milesOfLegs_27 : decode cX4_milesOfLegs 27 = .ok (.aload_n 1, 1) := by decide +kernel
theorem dX4_milesOfLegs_28 : decode cX4_milesOfLegs 28 = .ok (.aload 6, 2) := by decide +kernel
theorem dX4_milesOfLegs_30 : decode cX4_milesOfLegs 30 = .ok (.getfield 32, 3) := by decide +kernel
theorem dX4_milesOfLegs_33 : decode cX4_milesOfLegs 33 = .ok (.aload 6, 2) := by decide +kernel
theorem dX4_milesOfLegs_35 : decode cX4_milesOfLegs 35 = .ok (.getfield 26, 3) := by decide +kernel
theorem dX4_milesOfLegs_38 : decode cX4_milesOfLegs 38 = .ok (.invokevirtual 83, 3) := by decide +kernel
theorem dX4_milesOfLegs_41 : decode cX4_milesOfLegs 41 = .ok (.iadd, 1) := by decide +kernel
theorem dX4_milesOfLegs_42 : decode cX4_milesOfLegs 42 = .ok (.istore 4, 2) := by decide +kernel
theorem dX4_milesOfLegs_44 : decode cX4_milesOfLegs 44 = .ok (.iinc 5 1, 3) := by decide +kernel
theorem dX4_milesOfLegs_47 : decode cX4_milesOfLegs 47 = .ok (.goto (-41), 3) := by decide +kernel
theorem dX4_milesOfLegs_50 : decode cX4_milesOfLegs 50 = .ok (.iload 4, 2) := by decide +kernel
theorem dX4_milesOfLegs_52 : decode cX4_milesOfLegs 52 = .ok (.ireturn, 1) := by decide +kernel
theorem dX4_highestBetween_0 : decode cX4_highestBetween 0 = .ok (.iconst (-1), 1) := by decide +kernel
theorem dX4_highestBetween_1 : decode cX4_highestBetween 1 = .ok (.istore 4, 2) := by decide +kernel
theorem dX4_highestBetween_3 : decode cX4_highestBetween 3 = .ok (.iload_n 2, 1) := by decide +kernel
theorem dX4_highestBetween_4 : decode cX4_highestBetween 4 = .ok (.iconst 1, 1) := by decide +kernel
theorem dX4_highestBetween_5 : decode cX4_highestBetween 5 = .ok (.iadd, 1) := by decide +kernel
theorem dX4_highestBetween_6 : decode cX4_highestBetween 6 = .ok (.istore 5, 2) := by decide +kernel
theorem dX4_highestBetween_8 : decode cX4_highestBetween 8 = .ok (.iload 5, 2) := by decide +kernel
theorem dX4_highestBetween_10 : decode cX4_highestBetween 10 = .ok (.iload_n 3, 1) := by decide +kernel
theorem dX4_highestBetween_11 : decode cX4_highestBetween 11 = .ok (.if_icmp .ge 32, 3) := by decide +kernel
theorem dX4_highestBetween_14 : decode cX4_highestBetween 14 = .ok (.iload 4, 2) := by decide +kernel
theorem dX4_highestBetween_16 : decode cX4_highestBetween 16 = .ok (.aload_n 1, 1) := by decide +kernel
theorem dX4_highestBetween_17 : decode cX4_highestBetween 17 = .ok (.aload_n 0, 1) := by decide +kernel
theorem dX4_highestBetween_18 : decode cX4_highestBetween 18 = .ok (.iload_n 2, 1) := by decide +kernel
theorem dX4_highestBetween_19 : decode cX4_highestBetween 19 = .ok (.invokevirtual 42, 3) := by decide +kernel
theorem dX4_highestBetween_22 : decode cX4_highestBetween 22 = .ok (.aload_n 0, 1) := by decide +kernel
theorem dX4_highestBetween_23 : decode cX4_highestBetween 23 = .ok (.iload 5, 2) := by decide +kernel
theorem dX4_highestBetween_25 : decode cX4_highestBetween 25 = .ok (.invokevirtual 42, 3) := by decide +kernel
theorem dX4_highestBetween_28 : decode cX4_highestBetween 28 = .ok (.iconst 0, 1) := by decide +kernel
theorem dX4_highestBetween_29 : decode cX4_highestBetween 29 = .ok (.invokevirtual 46, 3) := by decide +kernel
theorem dX4_highestBetween_32 : decode cX4_highestBetween 32 = .ok (.invokestatic 71, 3) := by decide +kernel
theorem dX4_highestBetween_35 : decode cX4_highestBetween 35 = .ok (.istore 4, 2) := by decide +kernel
theorem dX4_highestBetween_37 : decode cX4_highestBetween 37 = .ok (.iinc 5 1, 3) := by decide +kernel
theorem dX4_highestBetween_40 : decode cX4_highestBetween 40 = .ok (.goto (-32), 3) := by decide +kernel
theorem dX4_highestBetween_43 : decode cX4_highestBetween 43 = .ok (.iload 4, 2) := by decide +kernel
theorem dX4_highestBetween_45 : decode cX4_highestBetween 45 = .ok (.ireturn, 1) := by decide +kernel
theorem dX5_init_0 : decode cX5_init 0 = .ok (.aload_n 0, 1) := by decide +kernel
theorem dX5_init_1 : decode cX5_init 1 = .ok (.invokespecial 1, 3) := by decide +kernel
theorem dX5_init_4 : decode cX5_init 4 = .ok (.return_, 1) := by decide +kernel
theorem dX6_init_0 : decode cX6_init 0 = .ok (.aload_n 0, 1) := by decide +kernel
theorem dX6_init_1 : decode cX6_init 1 = .ok (.invokespecial 3, 3) := by decide +kernel
theorem dX6_init_4 : decode cX6_init 4 = .ok (.aload_n 0, 1) := by decide +kernel
theorem dX6_init_5 : decode cX6_init 5 = .ok (.bipush 100, 2) := by decide +kernel
theorem dX6_init_7 : decode cX6_init 7 = .ok (.newarray .int, 2) := by decide +kernel
theorem dX6_init_9 : decode cX6_init 9 = .ok (.putfield 9, 3) := by decide +kernel
theorem dX6_init_12 : decode cX6_init 12 = .ok (.return_, 1) := by decide +kernel
theorem dX6_get_0 : decode cX6_get 0 = .ok (.iload_n 1, 1) := by decide +kernel
theorem dX6_get_1 : decode cX6_get 1 = .ok (.invokestatic 15, 3) := by decide +kernel
theorem dX6_get_4 : decode cX6_get 4 = .ok (.ifCond .eq 24, 3) := by decide +kernel
theorem dX6_get_7 : decode cX6_get 7 = .ok (.iload_n 2, 1) := by decide +kernel
theorem dX6_get_8 : decode cX6_get 8 = .ok (.invokestatic 15, 3) := by decide +kernel
theorem dX6_get_11 : decode cX6_get 11 = .ok (.ifCond .eq 17, 3) := by decide +kernel
theorem dX6_get_14 : decode cX6_get 14 = .ok (.aload_n 0, 1) := by decide +kernel
theorem dX6_get_15 : decode cX6_get 15 = .ok (.getfield 9, 3) := by decide +kernel
theorem dX6_get_18 : decode cX6_get 18 = .ok (.iload_n 1, 1) := by decide +kernel
theorem dX6_get_19 : decode cX6_get 19 = .ok (.bipush 10, 2) := by decide +kernel
theorem dX6_get_21 : decode cX6_get 21 = .ok (.imul, 1) := by decide +kernel
theorem dX6_get_22 : decode cX6_get 22 = .ok (.iload_n 2, 1) := by decide +kernel
theorem dX6_get_23 : decode cX6_get 23 = .ok (.iadd, 1) := by decide +kernel
theorem dX6_get_24 : decode cX6_get 24 = .ok (.iaload, 1) := by decide +kernel
theorem dX6_get_25 : decode cX6_get 25 = .ok (.goto 4, 3) := by decide +kernel
theorem dX6_get_28 : decode cX6_get 28 = .ok (.iconst 0, 1) := by decide +kernel
theorem dX6_get_29 : decode cX6_get 29 = .ok (.ireturn, 1) := by decide +kernel
theorem dX6_put_0 : decode cX6_put 0 = .ok (.aload_n 0, 1) := by decide +kernel
theorem dX6_put_1 : decode cX6_put 1 = .ok (.iload_n 1, 1) := by decide +kernel
theorem dX6_put_2 : decode cX6_put 2 = .ok (.iload_n 2, 1) := by decide +kernel
theorem dX6_put_3 : decode cX6_put 3 = .ok (.invokevirtual 19, 3) := by decide +kernel
theorem dX6_put_6 : decode cX6_put 6 = .ok (.istore 4, 2) := by decide +kernel
theorem dX6_put_8 : decode cX6_put 8 = .ok (.iload_n 1, 1) := by decide +kernel
theorem dX6_put_9 : decode cX6_put 9 = .ok (.invokestatic 15, 3) := by decide +kernel
theorem dX6_put_12 : decode cX6_put 12 = .ok (.ifCond .eq 34, 3) := by decide +kernel
theorem dX6_put_15 : decode cX6_put 15 = .ok (.iload_n 2, 1) := by decide +kernel
theorem dX6_put_16 : decode cX6_put 16 = .ok (.invokestatic 15, 3) := by decide +kernel
theorem dX6_put_19 : decode cX6_put 19 = .ok (.ifCond .eq 27, 3) := by decide +kernel
theorem dX6_put_22 : decode cX6_put 22 = .ok (.aload_n 0, 1) := by decide +kernel
theorem dX6_put_23 : decode cX6_put 23 = .ok (.getfield 9, 3) := by decide +kernel
theorem dX6_put_26 : decode cX6_put 26 = .ok (.iload_n 1, 1) := by decide +kernel
theorem dX6_put_27 : decode cX6_put 27 = .ok (.bipush 10, 2) := by decide +kernel
theorem dX6_put_29 : decode cX6_put 29 = .ok (.imul, 1) := by decide +kernel
theorem dX6_put_30 : decode cX6_put 30 = .ok (.iload_n 2, 1) := by decide +kernel
theorem dX6_put_31 : decode cX6_put 31 = .ok (.iadd, 1) := by decide +kernel
theorem dX6_put_32 : decode cX6_put 32 = .ok (.iload_n 3, 1) := by decide +kernel
theorem dX6_put_33 : decode cX6_put 33 = .ok (.iastore, 1) := by decide +kernel
theorem dX6_put_34 : decode cX6_put 34 = .ok (.aload_n 0, 1) := by decide +kernel
theorem dX6_put_35 : decode cX6_put 35 = .ok (.getfield 9, 3) := by decide +kernel
theorem dX6_put_38 : decode cX6_put 38 = .ok (.iload_n 2, 1) := by decide +kernel
theorem dX6_put_39 : decode cX6_put 39 = .ok (.bipush 10, 2) := by decide +kernel
theorem dX6_put_41 : decode cX6_put 41 = .ok (.imul, 1) := by decide +kernel
theorem dX6_put_42 : decode cX6_put 42 = .ok (.iload_n 1, 1) := by decide +kernel
theorem dX6_put_43 : decode cX6_put 43 = .ok (.iadd, 1) := by decide +kernel
theorem dX6_put_44 : decode cX6_put 44 = .ok (.iload_n 3, 1) := by decide +kernel
theorem dX6_put_45 : decode cX6_put 45 = .ok (.iastore, 1) := by decide +kernel
theorem dX6_put_46 : decode cX6_put 46 = .ok (.iload 4, 2) := by decide +kernel
theorem dX6_put_48 : decode cX6_put 48 = .ok (.ireturn, 1) := by decide +kernel
theorem dX7_init_0 : decode cX7_init 0 = .ok (.aload_n 0, 1) := by decide +kernel
theorem dX7_init_1 : decode cX7_init 1 = .ok (.invokespecial 3, 3) := by decide +kernel
theorem dX7_init_4 : decode cX7_init 4 = .ok (.aload_n 0, 1) := by decide +kernel
theorem dX7_init_5 : decode cX7_init 5 = .ok (.new 9, 3) := by decide +kernel
theorem dX7_init_8 : decode cX7_init 8 = .ok (.dup, 1) := by decide +kernel
theorem dX7_init_9 : decode cX7_init 9 = .ok (.invokespecial 11, 3) := by decide +kernel
theorem dX7_init_12 : decode cX7_init 12 = .ok (.putfield 12, 3) := by decide +kernel
theorem dX7_init_15 : decode cX7_init 15 = .ok (.aload_n 0, 1) := by decide +kernel
theorem dX7_init_16 : decode cX7_init 16 = .ok (.sipush 500, 3) := by decide +kernel
theorem dX7_init_19 : decode cX7_init 19 = .ok (.newarray .int, 2) := by decide +kernel
theorem dX7_init_21 : decode cX7_init 21 = .ok (.putfield 18, 3) := by decide +kernel
theorem dX7_init_24 : decode cX7_init 24 = .ok (.iconst 0, 1) := by decide +kernel
theorem dX7_init_25 : decode cX7_init 25 = .ok (.istore_n 1, 1) := by decide +kernel
theorem dX7_init_26 : decode cX7_init 26 = .ok (.iload_n 1, 1) := by decide +kernel
theorem dX7_init_27 : decode cX7_init 27 = .ok (.aload_n 0, 1) := by decide +kernel
theorem dX7_init_28 : decode cX7_init 28 = .ok (.getfield 18, 3) := by decide +kernel
theorem dX7_init_31 : decode cX7_init 31 = .ok (.arraylength, 1) := by decide +kernel
theorem dX7_init_32 : decode cX7_init 32 = .ok (.if_icmp .ge 16, 3) := by decide +kernel
theorem dX7_init_35 : decode cX7_init 35 = .ok (.aload_n 0, 1) := by decide +kernel
theorem dX7_init_36 : decode cX7_init 36 = .ok (.getfield 18, 3) := by decide +kernel
theorem dX7_init_39 : decode cX7_init 39 = .ok (.iload_n 1, 1) := by decide +kernel
theorem dX7_init_40 : decode cX7_init 40 = .ok (.iconst (-1), 1) := by decide +kernel
theorem dX7_init_41 : decode cX7_init 41 = .ok (.iastore, 1) := by decide +kernel
theorem dX7_init_42 : decode cX7_init 42 = .ok (.iinc 1 1, 3) := by decide +kernel
theorem dX7_init_45 : decode cX7_init 45 = .ok (.goto (-19), 3) := by decide +kernel
theorem dX7_init_48 : decode cX7_init 48 = .ok (.return_, 1) := by decide +kernel
theorem dX7_putProviso_0 : decode cX7_putProviso 0 = .ok (.aload_n 0, 1) := by decide +kernel
theorem dX7_putProviso_1 : decode cX7_putProviso 1 = .ok (.iload_n 1, 1) := by decide +kernel
theorem dX7_putProviso_2 : decode cX7_putProviso 2 = .ok (.iload_n 2, 1) := by decide +kernel
theorem dX7_putProviso_3 : decode cX7_putProviso 3 = .ok (.iload_n 3, 1) := by decide +kernel
theorem dX7_putProviso_4 : decode cX7_putProviso 4 = .ok (.invokevirtual 22, 3) := by decide +kernel
theorem dX7_putProviso_7 : decode cX7_putProviso 7 = .ok (.istore 5, 2) := by decide +kernel
theorem dX7_putProviso_9 : decode cX7_putProviso 9 = .ok (.iload_n 1, 1) := by decide +kernel
theorem dX7_putProviso_10 : decode cX7_putProviso 10 = .ok (.invokestatic 26, 3) := by decide +kernel
theorem dX7_putProviso_13 : decode cX7_putProviso 13 = .ok (.ifCond .eq 35, 3) := by decide +kernel
theorem dX7_putProviso_16 : decode cX7_putProviso 16 = .ok (.iload_n 2, 1) := by decide +kernel
theorem dX7_putProviso_17 : decode cX7_putProviso 17 = .ok (.invokestatic 30, 3) := by decide +kernel
theorem dX7_putProviso_20 : decode cX7_putProviso 20 = .ok (.ifCond .eq 28, 3) := by decide +kernel
theorem dX7_putProviso_23 : decode cX7_putProviso 23 = .ok (.iload_n 3, 1) := by decide +kernel
theorem dX7_putProviso_24 : decode cX7_putProviso 24 = .ok (.invokestatic 30, 3) := by decide +kernel
theorem dX7_putProviso_27 : decode cX7_putProviso 27 = .ok (.ifCond .eq 21, 3) := by decide +kernel
theorem dX7_putProviso_30 : decode cX7_putProviso 30 = .ok (.aload_n 0, 1) := by decide +kernel
theorem dX7_putProviso_31 : decode cX7_putProviso 31 = .ok (.getfield 18, 3) := by decide +kernel
theorem dX7_putProviso_34 : decode cX7_putProviso 34 = .ok (.iload_n 1, 1) := by decide +kernel
theorem dX7_putProviso_35 : decode cX7_putProviso 35 = .ok (.bipush 10, 2) := by decide +kernel
theorem dX7_putProviso_37 : decode cX7_putProviso 37 = .ok (.imul, 1) := by decide +kernel
theorem dX7_putProviso_38 : decode cX7_putProviso 38 = .ok (.iload_n 2, 1) := by decide +kernel
theorem dX7_putProviso_39 : decode cX7_putProviso 39 = .ok (.iadd, 1) := by decide +kernel
theorem dX7_putProviso_40 : decode cX7_putProviso 40 = .ok (.bipush 10, 2) := by decide +kernel
theorem dX7_putProviso_42 : decode cX7_putProviso 42 = .ok (.imul, 1) := by decide +kernel
theorem dX7_putProviso_43 : decode cX7_putProviso 43 = .ok (.iload_n 3, 1) := by decide +kernel
theorem dX7_putProviso_44 : decode cX7_putProviso 44 = .ok (.iadd, 1) := by decide +kernel
theorem dX7_putProviso_45 : decode cX7_putProviso 45 = .ok (.iload 4, 2) := by decide +kernel
theorem dX7_putProviso_47 : decode cX7_putProviso 47 = .ok (.iastore, 1) := by decide +kernel
theorem dX7_putProviso_48 : decode cX7_putProviso 48 = .ok (.iload 5, 2) := by decide +kernel
theorem dX7_putProviso_50 : decode cX7_putProviso 50 = .ok (.ireturn, 1) := by decide +kernel
theorem dX7_provisoOf_0 : decode cX7_provisoOf 0 = .ok (.iload_n 1, 1) := by decide +kernel
theorem dX7_provisoOf_1 : decode cX7_provisoOf 1 = .ok (.invokestatic 26, 3) := by decide +kernel
theorem dX7_provisoOf_4 : decode cX7_provisoOf 4 = .ok (.ifCond .eq 17, 3) := by decide +kernel
theorem dX7_provisoOf_7 : decode cX7_provisoOf 7 = .ok (.iload_n 2, 1) := by decide +kernel
theorem dX7_provisoOf_8 : decode cX7_provisoOf 8 = .ok (.invokestatic 30, 3) := by decide +kernel
theorem dX7_provisoOf_11 : decode cX7_provisoOf 11 = .ok (.ifCond .eq 10, 3) := by decide +kernel
theorem dX7_provisoOf_14 : decode cX7_provisoOf 14 = .ok (.iload_n 3, 1) := by decide +kernel
theorem dX7_provisoOf_15 : decode cX7_provisoOf 15 = .ok (.invokestatic 30, 3) := by decide +kernel
theorem dX7_provisoOf_18 : decode cX7_provisoOf 18 = .ok (.ifCond .ne 5, 3) := by decide +kernel
theorem dX7_provisoOf_21 : decode cX7_provisoOf 21 = .ok (.iconst (-1), 1) := by decide +kernel
theorem dX7_provisoOf_22 : decode cX7_provisoOf 22 = .ok (.ireturn, 1) := by decide +kernel
theorem dX7_provisoOf_23 : decode cX7_provisoOf 23 = .ok (.aload_n 0, 1) := by decide +kernel
theorem dX7_provisoOf_24 : decode cX7_provisoOf 24 = .ok (.getfield 18, 3) := by decide +kernel
theorem dX7_provisoOf_27 : decode cX7_provisoOf 27 = .ok (.iload_n 1, 1) := by decide +kernel
theorem dX7_provisoOf_28 : decode cX7_provisoOf 28 = .ok (.bipush 10, 2) := by decide +kernel
theorem dX7_provisoOf_30 : decode cX7_provisoOf 30 = .ok (.imul, 1) := by decide +kernel
theorem dX7_provisoOf_31 : decode cX7_provisoOf 31 = .ok (.iload_n 2, 1) := by decide +kernel
theorem dX7_provisoOf_32 : decode cX7_provisoOf 32 = .ok (.iadd, 1) := by decide +kernel
theorem dX7_provisoOf_33 : decode cX7_provisoOf 33 = .ok (.bipush 10, 2) := by decide +kernel
theorem dX7_provisoOf_35 : decode cX7_provisoOf 35 = .ok (.imul, 1) := by decide +kernel
theorem dX7_provisoOf_36 : decode cX7_provisoOf 36 = .ok (.iload_n 3, 1) := by decide +kernel
theorem dX7_provisoOf_37 : decode cX7_provisoOf 37 = .ok (.iadd, 1) := by decide +kernel
theorem dX7_provisoOf_38 : decode cX7_provisoOf 38 = .ok (.iaload, 1) := by decide +kernel
theorem dX7_provisoOf_39 : decode cX7_provisoOf 39 = .ok (.ireturn, 1) := by decide +kernel
theorem dX7_weightOf_0 : decode cX7_weightOf 0 = .ok (.aload_n 0, 1) := by decide +kernel
theorem dX7_weightOf_1 : decode cX7_weightOf 1 = .ok (.getfield 12, 3) := by decide +kernel
theorem dX7_weightOf_4 : decode cX7_weightOf 4 = .ok (.aload_n 1, 1) := by decide +kernel
theorem dX7_weightOf_5 : decode cX7_weightOf 5 = .ok (.getfield 33, 3) := by decide +kernel
theorem dX7_weightOf_8 : decode cX7_weightOf 8 = .ok (.aload_n 1, 1) := by decide +kernel
theorem dX7_weightOf_9 : decode cX7_weightOf 9 = .ok (.getfield 39, 3) := by decide +kernel
theorem dX7_weightOf_12 : decode cX7_weightOf 12 = .ok (.invokevirtual 42, 3) := by decide +kernel
theorem dX7_weightOf_15 : decode cX7_weightOf 15 = .ok (.istore_n 3, 1) := by decide +kernel
theorem dX7_weightOf_16 : decode cX7_weightOf 16 = .ok (.iload_n 3, 1) := by decide +kernel
theorem dX7_weightOf_17 : decode cX7_weightOf 17 = .ok (.ifCond .ne 18, 3) := by decide +kernel
theorem dX7_weightOf_20 : decode cX7_weightOf 20 = .ok (.aload_n 2, 1) := by decide +kernel
theorem dX7_weightOf_21 : decode cX7_weightOf 21 = .ok (.aload_n 1, 1) := by decide +kernel
theorem dX7_weightOf_22 : decode cX7_weightOf 22 = .ok (.getfield 33, 3) := by decide +kernel
theorem dX7_weightOf_25 : decode cX7_weightOf 25 = .ok (.aload_n 1, 1) := by decide +kernel
theorem dX7_weightOf_26 : decode cX7_weightOf 26 = .ok (.getfield 39, 3) := by decide +kernel
theorem dX7_weightOf_29 : decode cX7_weightOf 29 = .ok (.invokevirtual 42, 3) := by decide +kernel
theorem dX7_weightOf_32 : decode cX7_weightOf 32 = .ok (.goto 4, 3) := by decide +kernel
theorem dX7_weightOf_35 : decode cX7_weightOf 35 = .ok (.iload_n 3, 1) := by decide +kernel
theorem dX7_weightOf_36 : decode cX7_weightOf 36 = .ok (.ireturn, 1) := by decide +kernel
theorem dX7_share_0 : decode cX7_share 0 = .ok (.iload 4, 2) := by decide +kernel
theorem dX7_share_2 : decode cX7_share 2 = .ok (.istore 6, 2) := by decide +kernel
theorem dX7_share_4 : decode cX7_share 4 = .ok (.iconst 0, 1) := by decide +kernel
theorem dX7_share_5 : decode cX7_share 5 = .ok (.istore 7, 2) := by decide +kernel
theorem dX7_share_7 : decode cX7_share 7 = .ok (.iload_n 2, 1) := by decide +kernel
theorem dX7_share_8 : decode cX7_share 8 = .ok (.istore 8, 2) := by decide +kernel
theorem dX7_share_10 : decode cX7_share 10 = .ok (.iload 8, 2) := by decide +kernel
theorem dX7_share_12 : decode cX7_share 12 = .ok (.iload_n 3, 1) := by decide +kernel
theorem dX7_share_13 : decode cX7_share 13 = .ok (.if_icmp .ge 100, 3) := by decide +kernel
theorem dX7_share_16 : decode cX7_share 16 = .ok (.aload_n 1, 1) := by decide +kernel
theorem dX7_share_17 : decode cX7_share 17 = .ok (.iload 8, 2) := by decide +kernel
theorem dX7_share_19 : decode cX7_share 19 = .ok (.invokevirtual 46, 3) := by decide +kernel
theorem dX7_share_22 : decode cX7_share 22 = .ok (.astore 9, 2) := by decide +kernel
theorem dX7_share_24 : decode cX7_share 24 = .ok (.aload 9, 2) := by decide +kernel
theorem dX7_share_26 : decode cX7_share 26 = .ok (.ifnonnull 6, 3) := by decide +kernel
theorem dX7_share_29 : decode cX7_share 29 = .ok (.goto 78, 3) := by decide +kernel
theorem dX7_share_32 : decode cX7_share 32 = .ok (.aload_n 0, 1) := by decide +kernel
theorem dX7_share_33 : decode cX7_share 33 = .ok (.aload 9, 2) := by decide +kernel
theorem dX7_share_35 : decode cX7_share 35 = .ok (.getfield 52, 3) := by decide +kernel
theorem dX7_share_38 : decode cX7_share 38 = .ok (.aload 9, 2) := by decide +kernel
theorem dX7_share_40 : decode cX7_share 40 = .ok (.getfield 33, 3) := by decide +kernel
theorem dX7_share_43 : decode cX7_share 43 = .ok (.aload 9, 2) := by decide +kernel
theorem dX7_share_45 : decode cX7_share 45 = .ok (.getfield 39, 3) := by decide +kernel
theorem dX7_share_48 : decode cX7_share 48 = .ok (.invokevirtual 22, 3) := by decide +kernel
theorem dX7_share_51 : decode cX7_share 51 = .ok (.istore 10, 2) := by decide +kernel
theorem dX7_share_53 : decode cX7_share 53 = .ok (.iload 10, 2) := by decide +kernel
theorem dX7_share_55 : decode cX7_share 55 = .ok (.iconst (-1), 1) := by decide +kernel
theorem dX7_share_56 : decode cX7_share 56 = .ok (.if_icmp .ne 29, 3) := by decide +kernel
theorem dX7_share_59 : decode cX7_share 59 = .ok (.aload 9, 2) := by decide +kernel
theorem dX7_share_61 : decode cX7_share 61 = .ok (.aload_n 0, 1) := by decide +kernel
theorem dX7_share_62 : decode cX7_share 62 = .ok (.aload 9, 2) := by decide +kernel
theorem dX7_share_64 : decode cX7_share 64 = .ok (.aload 5, 2) := by decide +kernel
theorem dX7_share_66 : decode cX7_share 66 = .ok (.invokevirtual 55, 3) := by decide +kernel
theorem dX7_share_69 : decode cX7_share 69 = .ok (.putfield 59, 3) := by decide +kernel
theorem dX7_share_72 : decode cX7_share 72 = .ok (.iload 7, 2) := by decide +kernel
theorem dX7_share_74 : decode cX7_share 74 = .ok (.aload 9, 2) := by decide +kernel
theorem dX7_share_76 : decode cX7_share 76 = .ok (.getfield 59, 3) := by decide +kernel
theorem dX7_share_79 : decode cX7_share 79 = .ok (.iadd, 1) := by decide +kernel
theorem dX7_share_80 : decode cX7_share 80 = .ok (.istore 7, 2) := by decide +kernel
theorem dX7_share_82 : decode cX7_share 82 = .ok (.goto 25, 3) := by decide +kernel
theorem dX7_share_85 : decode cX7_share 85 = .ok (.aload 9, 2) := by decide +kernel
theorem dX7_share_87 : decode cX7_share 87 = .ok (.iload 10, 2) := by decide +kernel
theorem dX7_share_89 : decode cX7_share 89 = .ok (.iload 6, 2) := by decide +kernel
theorem dX7_share_91 : decode cX7_share 91 = .ok (.invokestatic 62, 3) := by decide +kernel
theorem dX7_share_94 : decode cX7_share 94 = .ok (.putfield 67, 3) := by decide +kernel
theorem dX7_share_97 : decode cX7_share 97 = .ok (.iload 6, 2) := by decide +kernel
theorem dX7_share_99 : decode cX7_share 99 = .ok (.aload 9, 2) := by decide +kernel
theorem dX7_share_101 : decode cX7_share 101 = .ok (.getfield 67, 3) := by decide +kernel
theorem dX7_share_104 : decode cX7_share 104 = .ok (.isub, 1) := by decide +kernel
theorem dX7_share_105 : decode cX7_share 105 = .ok (.istore 6, 2) := by decide +kernel
theorem dX7_share_107 : decode cX7_share 107 = .ok (.iinc 8 1, 3) := by decide +kernel
theorem dX7_share_110 : decode cX7_share 110 = .ok (.goto (-100), 3) := by decide +kernel
theorem dX7_share_113 : decode cX7_share 113 = .ok (.iload 7, 2) := by decide +kernel
theorem dX7_share_115 : decode cX7_share 115 = .ok (.ifCond .gt 6, 3) := by decide +kernel
theorem dX7_share_118 : decode cX7_share 118 = .ok (.iload 6, 2) := by decide +kernel
theorem dX7_share_120 : decode cX7_share 120 = .ok (.ireturn, 1) := by decide +kernel
theorem dX7_share_121 : decode cX7_share 121 = .ok (.aload_n 0, 1) := by decide +kernel
theorem dX7_share_122 : decode cX7_share 122 = .ok (.aload_n 1, 1) := by decide +kernel
theorem dX7_share_123 : decode cX7_share 123 = .ok (.iload_n 2, 1) := by decide +kernel
theorem dX7_share_124 : decode cX7_share 124 = .ok (.iload_n 3, 1) := by decide +kernel
theorem dX7_share_125 : decode cX7_share 125 = .ok (.iload 6, 2) := by decide +kernel
theorem dX7_share_127 : decode cX7_share 127 = .ok (.iload 7, 2) := by decide +kernel
theorem dX7_share_129 : decode cX7_share 129 = .ok (.invokevirtual 70, 3) := by decide +kernel
theorem dX7_share_132 : decode cX7_share 132 = .ok (.iconst 0, 1) := by decide +kernel
theorem dX7_share_133 : decode cX7_share 133 = .ok (.ireturn, 1) := by decide +kernel
theorem dX7_shareByWeights_0 : decode cX7_shareByWeights 0 = .ok (.aconst_null, 1) := by decide +kernel
theorem dX7_shareByWeights_1 : decode cX7_shareByWeights 1 = .ok (.astore 6, 2) := by decide +kernel
theorem dX7_shareByWeights_3 : decode cX7_shareByWeights 3 = .ok (.iload 4, 2) := by decide +kernel
theorem dX7_shareByWeights_5 : decode cX7_shareByWeights 5 = .ok (.istore 7, 2) := by decide +kernel
theorem dX7_shareByWeights_7 : decode cX7_shareByWeights 7 = .ok (.iload_n 2, 1) := by decide +kernel
theorem dX7_shareByWeights_8 : decode cX7_shareByWeights 8 = .ok (.istore 8, 2) := by decide +kernel
theorem dX7_shareByWeights_10 : decode cX7_shareByWeights 10 = .ok (.iload 8, 2) := by decide +kernel
theorem dX7_shareByWeights_12 : decode cX7_shareByWeights 12 = .ok (.iload_n 3, 1) := by decide +kernel
theorem dX7_shareByWeights_13 : decode cX7_shareByWeights 13 = .ok (.if_icmp .ge 69, 3) := by decide +kernel
theorem dX7_shareByWeights_16 : decode cX7_shareByWeights 16 = .ok (.aload_n 1, 1) := by decide +kernel
theorem dX7_shareByWeights_17 : decode cX7_shareByWeights 17 = .ok (.iload 8, 2) := by decide +kernel
theorem dX7_shareByWeights_19 : decode cX7_shareByWeights 19 = .ok (.invokevirtual 46, 3) := by decide +kernel
theorem dX7_shareByWeights_22 : decode cX7_shareByWeights 22 = .ok (.astore 9, 2) := by decide +kernel
theorem dX7_shareByWeights_24 : decode cX7_shareByWeights 24 = .ok (.aload 9, 2) := by decide +kernel
theorem dX7_shareByWeights_26 : decode cX7_shareByWeights 26 = .ok (.ifnull 50, 3) := by decide +kernel
theorem dX7_shareByWeights_29 : decode cX7_shareByWeights 29 = .ok (.aload 9, 2) := by decide +kernel
theorem dX7_shareByWeights_31 : decode cX7_shareByWeights 31 = .ok (.getfield 59, 3) := by decide +kernel
theorem dX7_shareByWeights_34 : decode cX7_shareByWeights 34 = .ok (.ifCond .le 42, 3) := by decide +kernel
theorem dX7_shareByWeights_37 : decode cX7_shareByWeights 37 = .ok (.iload 5, 2) := by decide +kernel
theorem dX7_shareByWeights_39 : decode cX7_shareByWeights 39 = .ok (.ifCond .le 37, 3) := by decide +kernel
theorem dX7_shareByWeights_42 : decode cX7_shareByWeights 42 = .ok (.aload 9, 2) := by decide +kernel
theorem dX7_shareByWeights_44 : decode cX7_shareByWeights 44 = .ok (.iload 4, 2) := by decide +kernel
theorem dX7_shareByWeights_46 : decode cX7_shareByWeights 46 = .ok (.i2l, 1) := by decide +kernel
theorem dX7_shareByWeights_47 : decode cX7_shareByWeights 47 = .ok (.aload 9, 2) := by decide +kernel
theorem dX7_shareByWeights_49 : decode cX7_shareByWeights 49 = .ok (.getfield 59, 3) := by decide +kernel
theorem dX7_shareByWeights_52 : decode cX7_shareByWeights 52 = .ok (.i2l, 1) := by decide +kernel
theorem dX7_shareByWeights_53 : decode cX7_shareByWeights 53 = .ok (.lmul, 1) := by decide +kernel
theorem dX7_shareByWeights_54 : decode cX7_shareByWeights 54 = .ok (.iload 5, 2) := by decide +kernel
theorem dX7_shareByWeights_56 : decode cX7_shareByWeights 56 = .ok (.i2l, 1) := by decide +kernel
theorem dX7_shareByWeights_57 : decode cX7_shareByWeights 57 = .ok (.ldiv, 1) := by decide +kernel
theorem dX7_shareByWeights_58 : decode cX7_shareByWeights 58 = .ok (.l2i, 1) := by decide +kernel
theorem dX7_shareByWeights_59 : decode cX7_shareByWeights 59 = .ok (.putfield 67, 3) := by decide +kernel
theorem dX7_shareByWeights_62 : decode cX7_shareByWeights 62 = .ok (.iload 7, 2) := by decide +kernel
theorem dX7_shareByWeights_64 : decode cX7_shareByWeights 64 = .ok (.aload 9, 2) := by decide +kernel
theorem dX7_shareByWeights_66 : decode cX7_shareByWeights 66 = .ok (.getfield 67, 3) := by decide +kernel
theorem dX7_shareByWeights_69 : decode cX7_shareByWeights 69 = .ok (.isub, 1) := by decide +kernel
theorem dX7_shareByWeights_70 : decode cX7_shareByWeights 70 = .ok (.istore 7, 2) := by decide +kernel
theorem dX7_shareByWeights_72 : decode cX7_shareByWeights 72 = .ok (.aload 9, 2) := by decide +kernel
theorem dX7_shareByWeights_74 : decode cX7_shareByWeights 74 = .ok (.astore 6, 2) := by decide +kernel
theorem dX7_shareByWeights_76 : decode cX7_shareByWeights 76 = .ok (.iinc 8 1, 3) := by decide +kernel
theorem dX7_shareByWeights_79 : decode cX7_shareByWeights 79 = .ok (.goto (-69), 3) := by decide +kernel
theorem dX7_shareByWeights_82 : decode cX7_shareByWeights 82 = .ok (.aload 6, 2) := by decide +kernel
theorem dX7_shareByWeights_84 : decode cX7_shareByWeights 84 = .ok (.ifnull 15, 3) := by decide +kernel
theorem dX7_shareByWeights_87 : decode cX7_shareByWeights 87 = .ok (.aload 6, 2) := by decide +kernel
theorem dX7_shareByWeights_89 : decode cX7_shareByWeights 89 = .ok (.dup, 1) := by decide +kernel
theorem dX7_shareByWeights_90 : decode cX7_shareByWeights 90 = .ok (.getfield 67, 3) := by decide +kernel
theorem dX7_shareByWeights_93 : decode cX7_shareByWeights 93 = .ok (.iload 7, 2) := by decide +kernel
theorem dX7_shareByWeights_95 : decode cX7_shareByWeights 95 = .ok (.iadd, 1) := by decide +kernel
theorem dX7_shareByWeights_96 : decode cX7_shareByWeights 96 = .ok (.putfield 67, 3) := by decide +kernel
theorem dX7_shareByWeights_99 : decode cX7_shareByWeights 99 = .ok (.return_, 1) := by decide +kernel
theorem dX8_init_0 : decode cX8_init 0 = .ok (.aload_n 0, 1) := by decide +kernel
theorem dX8_init_1 : decode cX8_init 1 = .ok (.invokespecial 3, 3) := by decide +kernel
theorem dX8_init_4 : decode cX8_init 4 = .ok (.aload_n 0, 1) := by decide +kernel
theorem dX8_init_5 : decode cX8_init 5 = .ok (.new 9, 3) := by decide +kernel
theorem dX8_init_8 : decode cX8_init 8 = .ok (.dup, 1) := by decide +kernel
theorem dX8_init_9 : decode cX8_init 9 = .ok (.invokespecial 11, 3) := by decide +kernel
theorem dX8_init_12 : decode cX8_init 12 = .ok (.putfield 12, 3) := by decide +kernel
theorem dX8_init_15 : decode cX8_init 15 = .ok (.aload_n 0, 1) := by decide +kernel
theorem dX8_init_16 : decode cX8_init 16 = .ok (.bipush 40, 2) := by decide +kernel
theorem dX8_init_18 : decode cX8_init 18 = .ok (.anewarray 18, 3) := by decide +kernel
theorem dX8_init_21 : decode cX8_init 21 = .ok (.putfield 20, 3) := by decide +kernel
theorem dX8_init_24 : decode cX8_init 24 = .ok (.aload_n 0, 1) := by decide +kernel
theorem dX8_init_25 : decode cX8_init 25 = .ok (.bipush 10, 2) := by decide +kernel
theorem dX8_init_27 : decode cX8_init 27 = .ok (.newarray .int, 2) := by decide +kernel
theorem dX8_init_29 : decode cX8_init 29 = .ok (.putfield 24, 3) := by decide +kernel
theorem dX8_init_32 : decode cX8_init 32 = .ok (.aload_n 0, 1) := by decide +kernel
theorem dX8_init_33 : decode cX8_init 33 = .ok (.bipush 10, 2) := by decide +kernel
theorem dX8_init_35 : decode cX8_init 35 = .ok (.newarray .int, 2) := by decide +kernel
theorem dX8_init_37 : decode cX8_init 37 = .ok (.putfield 28, 3) := by decide +kernel
theorem dX8_init_40 : decode cX8_init 40 = .ok (.aload_n 0, 1) := by decide +kernel
theorem dX8_init_41 : decode cX8_init 41 = .ok (.iconst 1, 1) := by decide +kernel
theorem dX8_init_42 : decode cX8_init 42 = .ok (.putfield 31, 3) := by decide +kernel
theorem dX8_init_45 : decode cX8_init 45 = .ok (.return_, 1) := by decide +kernel
theorem dX8_file_0 : decode cX8_file 0 = .ok (.aload_n 0, 1) := by decide +kernel
theorem dX8_file_1 : decode cX8_file 1 = .ok (.getfield 35, 3) := by decide +kernel
theorem dX8_file_4 : decode cX8_file 4 = .ok (.bipush 40, 2) := by decide +kernel
theorem dX8_file_6 : decode cX8_file 6 = .ok (.if_icmp .lt 5, 3) := by decide +kernel
theorem dX8_file_9 : decode cX8_file 9 = .ok (.iconst (-1), 1) := by decide +kernel
theorem dX8_file_10 : decode cX8_file 10 = .ok (.ireturn, 1) := by decide +kernel
theorem dX8_file_11 : decode cX8_file 11 = .ok (.aload_n 0, 1) := by decide +kernel
theorem dX8_file_12 : decode cX8_file 12 = .ok (.getfield 20, 3) := by decide +kernel
theorem dX8_file_15 : decode cX8_file 15 = .ok (.aload_n 0, 1) := by decide +kernel
theorem dX8_file_16 : decode cX8_file 16 = .ok (.getfield 35, 3) := by decide +kernel
theorem dX8_file_19 : decode cX8_file 19 = .ok (.aload_n 1, 1) := by decide +kernel
theorem dX8_file_20 : decode cX8_file 20 = .ok (.aastore, 1) := by decide +kernel
theorem dX8_file_21 : decode cX8_file 21 = .ok (.aload_n 0, 1) := by decide +kernel
theorem dX8_file_22 : decode cX8_file 22 = .ok (.dup, 1) := by decide +kernel
theorem dX8_file_23 : decode cX8_file 23 = .ok (.getfield 35, 3) := by decide +kernel
theorem dX8_file_26 : decode cX8_file 26 = .ok (.iconst 1, 1) := by decide +kernel
theorem dX8_file_27 : decode cX8_file 27 = .ok (.iadd, 1) := by decide +kernel
theorem dX8_file_28 : decode cX8_file 28 = .ok (.putfield 35, 3) := by decide +kernel
theorem dX8_file_31 : decode cX8_file 31 = .ok (.aload_n 0, 1) := by decide +kernel
theorem dX8_file_32 : decode cX8_file 32 = .ok (.getfield 35, 3) := by decide +kernel
theorem dX8_file_35 : decode cX8_file 35 = .ok (.iconst 1, 1) := by decide +kernel
theorem dX8_file_36 : decode cX8_file 36 = .ok (.isub, 1) := by decide +kernel
theorem dX8_file_37 : decode cX8_file 37 = .ok (.ireturn, 1) := by decide +kernel
theorem dX8_fareAt_0 : decode cX8_fareAt 0 = .ok (.iload_n 1, 1) := by decide +kernel
theorem dX8_fareAt_1 : decode cX8_fareAt 1 = .ok (.ifCond .lt 21, 3) := by decide +kernel
theorem dX8_fareAt_4 : decode cX8_fareAt 4 = .ok (.iload_n 1, 1) := by decide +kernel
theorem dX8_fareAt_5 : decode cX8_fareAt 5 = .ok (.aload_n 0, 1) := by decide +kernel
theorem dX8_fareAt_6 : decode cX8_fareAt 6 = .ok (.getfield 35, 3) := by decide +kernel
theorem dX8_fareAt_9 : decode cX8_fareAt 9 = .ok (.if_icmp .ge 13, 3) := by decide +kernel
theorem dX8_fareAt_12 : decode cX8_fareAt 12 = .ok (.iload_n 1, 1) := by decide +kernel
theorem dX8_fareAt_13 : decode cX8_fareAt 13 = .ok (.bipush 40, 2) := by decide +kernel
theorem dX8_fareAt_15 : decode cX8_fareAt 15 = .ok (.if_icmp .ge 7, 3) := by decide +kernel
theorem dX8_fareAt_18 : decode cX8_fareAt 18 = .ok (.iconst 1, 1) := by decide +kernel
theorem dX8_fareAt_19 : decode cX8_fareAt 19 = .ok (.goto 4, 3) := by decide +kernel
theorem dX8_fareAt_22 : decode cX8_fareAt 22 = .ok (.iconst 0, 1) := by decide +kernel
theorem dX8_fareAt_23 : decode cX8_fareAt 23 = .ok (.istore_n 2, 1) := by decide +kernel
theorem dX8_fareAt_24 : decode cX8_fareAt 24 = .ok (.iload_n 2, 1) := by decide +kernel
theorem dX8_fareAt_25 : decode cX8_fareAt 25 = .ok (.ifCond .eq 12, 3) := by decide +kernel
theorem dX8_fareAt_28 : decode cX8_fareAt 28 = .ok (.aload_n 0, 1) := by decide +kernel
theorem dX8_fareAt_29 : decode cX8_fareAt 29 = .ok (.getfield 20, 3) := by decide +kernel
theorem dX8_fareAt_32 : decode cX8_fareAt 32 = .ok (.iload_n 1, 1) := by decide +kernel
theorem dX8_fareAt_33 : decode cX8_fareAt 33 = .ok (.aaload, 1) := by decide +kernel
theorem dX8_fareAt_34 : decode cX8_fareAt 34 = .ok (.goto 4, 3) := by decide +kernel
theorem dX8_fareAt_37 : decode cX8_fareAt 37 = .ok (.aconst_null, 1) := by decide +kernel
theorem dX8_fareAt_38 : decode cX8_fareAt 38 = .ok (.areturn, 1) := by decide +kernel
theorem dX8_putTaxes_0 : decode cX8_putTaxes 0 = .ok (.iload_n 1, 1) := by decide +kernel
theorem dX8_putTaxes_1 : decode cX8_putTaxes 1 = .ok (.invokestatic 38, 3) := by decide +kernel
theorem dX8_putTaxes_4 : decode cX8_putTaxes 4 = .ok (.ifCond .eq 17, 3) := by decide +kernel
theorem dX8_putTaxes_7 : decode cX8_putTaxes 7 = .ok (.aload_n 0, 1) := by decide +kernel
theorem dX8_putTaxes_8 : decode cX8_putTaxes 8 = .ok (.getfield 24, 3) := by decide +kernel
theorem dX8_putTaxes_11 : decode cX8_putTaxes 11 = .ok (.iload_n 1, 1) := by decide +kernel
theorem dX8_putTaxes_12 : decode cX8_putTaxes 12 = .ok (.iload_n 2, 1) := by decide +kernel
theorem dX8_putTaxes_13 : decode cX8_putTaxes 13 = .ok (.iastore, 1) := by decide +kernel
theorem dX8_putTaxes_14 : decode cX8_putTaxes 14 = .ok (.aload_n 0, 1) := by decide +kernel
theorem dX8_putTaxes_15 : decode cX8_putTaxes 15 = .ok (.getfield 28, 3) := by decide +kernel
theorem dX8_putTaxes_18 : decode cX8_putTaxes 18 = .ok (.iload_n 1, 1) := by decide +kernel
theorem dX8_putTaxes_19 : decode cX8_putTaxes 19 = .ok (.iload_n 3, 1) := by decide +kernel
theorem dX8_putTaxes_20 : decode cX8_putTaxes 20 = .ok (.iastore, 1) := by decide +kernel
theorem dX8_putTaxes_21 : decode cX8_putTaxes 21 = .ok (.return_, 1) := by decide +kernel
theorem dX8_taxAt_0 : decode cX8_taxAt 0 = .ok (.iload_n 1, 1) := by decide +kernel
theorem dX8_taxAt_1 : decode cX8_taxAt 1 = .ok (.invokestatic 38, 3) := by decide +kernel
theorem dX8_taxAt_4 : decode cX8_taxAt 4 = .ok (.ifCond .ne 5, 3) := by decide +kernel
theorem dX8_taxAt_7 : decode cX8_taxAt 7 = .ok (.iconst 0, 1) := by decide +kernel
theorem dX8_taxAt_8 : decode cX8_taxAt 8 = .ok (.ireturn, 1) := by decide +kernel
theorem dX8_taxAt_9 : decode cX8_taxAt 9 = .ok (.iload_n 2, 1) := by decide +kernel
theorem dX8_taxAt_10 : decode cX8_taxAt 10 = .ok (.ifCond .eq 12, 3) := by decide +kernel
theorem dX8_taxAt_13 : decode cX8_taxAt 13 = .ok (.aload_n 0, 1) := by decide +kernel
theorem dX8_taxAt_14 : decode cX8_taxAt 14 = .ok (.getfield 24, 3) := by decide +kernel
theorem dX8_taxAt_17 : decode cX8_taxAt 17 = .ok (.iload_n 1, 1) := by decide +kernel
theorem dX8_taxAt_18 : decode cX8_taxAt 18 = .ok (.iaload, 1) := by decide +kernel
theorem dX8_taxAt_19 : decode cX8_taxAt 19 = .ok (.goto 9, 3) := by decide +kernel
theorem dX8_taxAt_22 : decode cX8_taxAt 22 = .ok (.aload_n 0, 1) := by decide +kernel
theorem dX8_taxAt_23 : decode cX8_taxAt 23 = .ok (.getfield 28, 3) := by decide +kernel
theorem dX8_taxAt_26 : decode cX8_taxAt 26 = .ok (.iload_n 1, 1) := by decide +kernel
theorem dX8_taxAt_27 : decode cX8_taxAt 27 = .ok (.iaload, 1) := by decide +kernel
theorem dX8_taxAt_28 : decode cX8_taxAt 28 = .ok (.ireturn, 1) := by decide +kernel
theorem dX8_lowestFare_0 : decode cX8_lowestFare 0 = .ok (.iconst (-1), 1) := by decide +kernel
theorem dX8_lowestFare_1 : decode cX8_lowestFare 1 = .ok (.istore 4, 2) := by decide +kernel
theorem dX8_lowestFare_3 : decode cX8_lowestFare 3 = .ok (.iconst 0, 1) := by decide +kernel
theorem dX8_lowestFare_4 : decode cX8_lowestFare 4 = .ok (.istore 5, 2) := by decide +kernel
theorem dX8_lowestFare_6 : decode cX8_lowestFare 6 = .ok (.iload 5, 2) := by decide +kernel
theorem dX8_lowestFare_8 : decode cX8_lowestFare 8 = .ok (.aload_n 0, 1) := by decide +kernel
theorem dX8_lowestFare_9 : decode cX8_lowestFare 9 = .ok (.getfield 35, 3) := by decide +kernel
theorem dX8_lowestFare_12 : decode cX8_lowestFare 12 = .ok (.if_icmp .ge 68, 3) := by decide +kernel
theorem dX8_lowestFare_15 : decode cX8_lowestFare 15 = .ok (.aload_n 0, 1) := by decide +kernel
theorem dX8_lowestFare_16 : decode cX8_lowestFare 16 = .ok (.iload 5, 2) := by decide +kernel
theorem dX8_lowestFare_18 : decode cX8_lowestFare 18 = .ok (.invokevirtual 42, 3) := by decide +kernel
theorem dX8_lowestFare_21 : decode cX8_lowestFare 21 = .ok (.astore 6, 2) := by decide +kernel
theorem dX8_lowestFare_23 : decode cX8_lowestFare 23 = .ok (.aload 6, 2) := by decide +kernel
theorem dX8_lowestFare_25 : decode cX8_lowestFare 25 = .ok (.ifnull 49, 3) := by decide +kernel
theorem dX8_lowestFare_28 : decode cX8_lowestFare 28 = .ok (.aload 6, 2) := by decide +kernel
theorem dX8_lowestFare_30 : decode cX8_lowestFare 30 = .ok (.iload_n 1, 1) := by decide +kernel
theorem dX8_lowestFare_31 : decode cX8_lowestFare 31 = .ok (.iload_n 2, 1) := by decide +kernel
theorem dX8_lowestFare_32 : decode cX8_lowestFare 32 = .ok (.aload_n 0, 1) := by decide +kernel
theorem dX8_lowestFare_33 : decode cX8_lowestFare 33 = .ok (.getfield 46, 3) := by decide +kernel
theorem dX8_lowestFare_36 : decode cX8_lowestFare 36 = .ok (.invokevirtual 49, 3) := by decide +kernel
theorem dX8_lowestFare_39 : decode cX8_lowestFare 39 = .ok (.ifCond .eq 35, 3) := by decide +kernel
theorem dX8_lowestFare_42 : decode cX8_lowestFare 42 = .ok (.aload 6, 2) := by decide +kernel
theorem dX8_lowestFare_44 : decode cX8_lowestFare 44 = .ok (.getfield 53, 3) := by decide +kernel
theorem dX8_lowestFare_47 : decode cX8_lowestFare 47 = .ok (.iload_n 3, 1) := by decide +kernel
theorem dX8_lowestFare_48 : decode cX8_lowestFare 48 = .ok (.if_icmp .lt 26, 3) := by decide +kernel
theorem dX8_lowestFare_51 : decode cX8_lowestFare 51 = .ok (.iload 4, 2) := by decide +kernel
theorem dX8_lowestFare_53 : decode cX8_lowestFare 53 = .ok (.iconst (-1), 1) := by decide +kernel
theorem dX8_lowestFare_54 : decode cX8_lowestFare 54 = .ok (.if_icmp .eq 13, 3) := by decide +kernel
theorem dX8_lowestFare_57 : decode cX8_lowestFare 57 = .ok (.aload 6, 2) := by decide +kernel
theorem dX8_lowestFare_59 : decode cX8_lowestFare 59 = .ok (.getfield 56, 3) := by decide +kernel
theorem dX8_lowestFare_62 : decode cX8_lowestFare 62 = .ok (.iload 4, 2) := by decide +kernel
theorem dX8_lowestFare_64 : decode cX8_lowestFare 64 = .ok (.if_icmp .ge 10, 3) := by decide +kernel
theorem dX8_lowestFare_67 : decode cX8_lowestFare 67 = .ok (.aload 6, 2) := by decide +kernel
theorem dX8_lowestFare_69 : decode cX8_lowestFare 69 = .ok (.getfield 56, 3) := by decide +kernel
theorem dX8_lowestFare_72 : decode cX8_lowestFare 72 = .ok (.istore 4, 2) := by decide +kernel
theorem dX8_lowestFare_74 : decode cX8_lowestFare 74 = .ok (.iinc 5 1, 3) := by decide +kernel
theorem dX8_lowestFare_77 : decode cX8_lowestFare 77 = .ok (.goto (-71), 3) := by decide +kernel
theorem dX8_lowestFare_80 : decode cX8_lowestFare 80 = .ok (.iload 4, 2) := by decide +kernel
theorem dX8_lowestFare_82 : decode cX8_lowestFare 82 = .ok (.ireturn, 1) := by decide +kernel
theorem dX8_surcharge_0 : decode cX8_surcharge 0 = .ok (.aload_n 0, 1) := by decide +kernel
theorem dX8_surcharge_1 : decode cX8_surcharge 1 = .ok (.getfield 12, 3) := by decide +kernel
theorem dX8_surcharge_4 : decode cX8_surcharge 4 = .ok (.iload_n 1, 1) := by decide +kernel
theorem dX8_surcharge_5 : decode cX8_surcharge 5 = .ok (.iload_n 2, 1) := by decide +kernel
theorem dX8_surcharge_6 : decode cX8_surcharge 6 = .ok (.invokevirtual 59, 3) := by decide +kernel
theorem dX8_surcharge_9 : decode cX8_surcharge 9 = .ok (.istore 4, 2) := by decide +kernel
theorem dX8_surcharge_11 : decode cX8_surcharge 11 = .ok (.iload 4, 2) := by decide +kernel
theorem dX8_surcharge_13 : decode cX8_surcharge 13 = .ok (.ifCond .ne 5, 3) := by decide +kernel
theorem dX8_surcharge_16 : decode cX8_surcharge 16 = .ok (.iconst (-1), 1) := by decide +kernel
theorem dX8_surcharge_17 : decode cX8_surcharge 17 = .ok (.ireturn, 1) := by decide +kernel
theorem dX8_surcharge_18 : decode cX8_surcharge 18 = .ok (.iload 4, 2) := by decide +kernel
theorem dX8_surcharge_20 : decode cX8_surcharge 20 = .ok (.bipush 120, 2) := by decide +kernel
theorem dX8_surcharge_22 : decode cX8_surcharge 22 = .ok (.imul, 1) := by decide +kernel
theorem dX8_surcharge_23 : decode cX8_surcharge 23 = .ok (.bipush 100, 2) := by decide +kernel
theorem dX8_surcharge_25 : decode cX8_surcharge 25 = .ok (.idiv, 1) := by decide +kernel
theorem dX8_surcharge_26 : decode cX8_surcharge 26 = .ok (.istore 5, 2) := by decide +kernel
theorem dX8_surcharge_28 : decode cX8_surcharge 28 = .ok (.iconst 0, 1) := by decide +kernel
theorem dX8_surcharge_29 : decode cX8_surcharge 29 = .ok (.istore 6, 2) := by decide +kernel
theorem dX8_surcharge_31 : decode cX8_surcharge 31 = .ok (.iload 6, 2) := by decide +kernel
theorem dX8_surcharge_33 : decode cX8_surcharge 33 = .ok (.bipush 25, 2) := by decide +kernel
theorem dX8_surcharge_35 : decode cX8_surcharge 35 = .ok (.if_icmp .gt 27, 3) := by decide +kernel
theorem dX8_surcharge_38 : decode cX8_surcharge 38 = .ok (.iload 5, 2) := by decide +kernel
theorem dX8_surcharge_40 : decode cX8_surcharge 40 = .ok (.bipush 100, 2) := by decide +kernel
theorem dX8_surcharge_42 : decode cX8_surcharge 42 = .ok (.iload 6, 2) := by decide +kernel
theorem dX8_surcharge_44 : decode cX8_surcharge 44 = .ok (.iadd, 1) := by decide +kernel
theorem dX8_surcharge_45 : decode cX8_surcharge 45 = .ok (.imul, 1) := by decide +kernel
theorem dX8_surcharge_46 : decode cX8_surcharge 46 = .ok (.bipush 100, 2) := by decide +kernel
theorem dX8_surcharge_48 : decode cX8_surcharge 48 = .ok (.idiv, 1) := by decide +kernel
theorem dX8_surcharge_49 : decode cX8_surcharge 49 = .ok (.iload_n 3, 1) := by decide +kernel
theorem dX8_surcharge_50 : decode cX8_surcharge 50 = .ok (.if_icmp .lt 6, 3) := by decide +kernel
theorem dX8_surcharge_53 : decode cX8_surcharge 53 = .ok (.iload 6, 2) := by decide +kernel
theorem dX8_surcharge_55 : decode cX8_surcharge 55 = .ok (.ireturn, 1) := by decide +kernel
theorem dX8_surcharge_56 : decode cX8_surcharge 56 = .ok (.iinc 6 5, 3) := by decide +kernel
theorem dX8_surcharge_59 : decode cX8_surcharge 59 = .ok (.goto (-28), 3) := by decide +kernel
theorem dX8_surcharge_62 : decode cX8_surcharge 62 = .ok (.iconst (-1), 1) := by decide +kernel
theorem dX8_surcharge_63 : decode cX8_surcharge 63 = .ok (.ireturn, 1) := by decide +kernel
theorem dX8_roundedUp_0 : decode cX8_roundedUp 0 = .ok (.iload_n 1, 1) := by decide +kernel
theorem dX8_roundedUp_1 : decode cX8_roundedUp 1 = .ok (.i2l, 1) := by decide +kernel
theorem dX8_roundedUp_2 : decode cX8_roundedUp 2 = .ok (.bipush 100, 2) := by decide +kernel
theorem dX8_roundedUp_4 : decode cX8_roundedUp 4 = .ok (.iload_n 2, 1) := by decide +kernel
theorem dX8_roundedUp_5 : decode cX8_roundedUp 5 = .ok (.iadd, 1) := by decide +kernel
theorem dX8_roundedUp_6 : decode cX8_roundedUp 6 = .ok (.i2l, 1) := by decide +kernel
theorem dX8_roundedUp_7 : decode cX8_roundedUp 7 = .ok (.lmul, 1) := by decide +kernel
theorem dX8_roundedUp_8 : decode cX8_roundedUp 8 = .ok (.lstore_n 3, 1) := by decide +kernel
theorem dX8_roundedUp_9 : decode cX8_roundedUp 9 = .ok (.ldc2_w 63, 3) := by decide +kernel
theorem dX8_roundedUp_12 : decode cX8_roundedUp 12 = .ok (.aload_n 0, 1) := by decide +kernel
theorem dX8_roundedUp_13 : decode cX8_roundedUp 13 = .ok (.getfield 31, 3) := by decide +kernel
theorem dX8_roundedUp_16 : decode cX8_roundedUp 16 = .ok (.i2l, 1) := by decide +kernel
theorem dX8_roundedUp_17 : decode cX8_roundedUp 17 = .ok (.lmul, 1) := by decide +kernel
theorem dX8_roundedUp_18 : decode cX8_roundedUp 18 = .ok (.lstore 5, 2) := by decide +kernel
theorem dX8_roundedUp_20 : decode cX8_roundedUp 20 = .ok (.lload 5, 2) := by decide +kernel
theorem dX8_roundedUp_22 : decode cX8_roundedUp 22 = .ok (.lconst 0, 1) := by decide +kernel
theorem dX8_roundedUp_23 : decode cX8_roundedUp 23 = .ok (.lcmp, 1) := by decide +kernel
theorem dX8_roundedUp_24 : decode cX8_roundedUp 24 = .ok (.ifCond .le 22, 3) := by decide +kernel
theorem dX8_roundedUp_27 : decode cX8_roundedUp 27 = .ok (.lload_n 3, 1) := by decide +kernel
theorem dX8_roundedUp_28 : decode cX8_roundedUp 28 = .ok (.lload 5, 2) := by decide +kernel
theorem dX8_roundedUp_30 : decode cX8_roundedUp 30 = .ok (.ladd, 1) := by decide +kernel
theorem dX8_roundedUp_31 : decode cX8_roundedUp 31 = .ok (.lconst 1, 1) := by decide +kernel
theorem dX8_roundedUp_32 : decode cX8_roundedUp 32 = .ok (.lsub, 1) := by decide +kernel
theorem dX8_roundedUp_33 : decode cX8_roundedUp 33 = .ok (.lload 5, 2) := by decide +kernel
theorem dX8_roundedUp_35 : decode cX8_roundedUp 35 = .ok (.ldiv, 1) := by decide +kernel
theorem dX8_roundedUp_36 : decode cX8_roundedUp 36 = .ok (.aload_n 0, 1) := by decide +kernel
theorem dX8_roundedUp_37 : decode cX8_roundedUp 37 = .ok (.getfield 31, 3) := by decide +kernel
theorem dX8_roundedUp_40 : decode cX8_roundedUp 40 = .ok (.i2l, 1) := by decide +kernel
theorem dX8_roundedUp_41 : decode cX8_roundedUp 41 = .ok (.lmul, 1) := by decide +kernel
theorem dX8_roundedUp_42 : decode cX8_roundedUp 42 = .ok (.l2i, 1) := by decide +kernel
theorem dX8_roundedUp_43 : decode cX8_roundedUp 43 = .ok (.goto 4, 3) := by decide +kernel
theorem dX8_roundedUp_46 : decode cX8_roundedUp 46 = .ok (.iload_n 1, 1) := by decide +kernel
theorem dX8_roundedUp_47 : decode cX8_roundedUp 47 = .ok (.ireturn, 1) := by decide +kernel
theorem dX9_init_0 : decode cX9_init 0 = .ok (.aload_n 0, 1) := by decide +kernel
theorem dX9_init_1 : decode cX9_init 1 = .ok (.invokespecial 3, 3) := by decide +kernel
theorem dX9_init_4 : decode cX9_init 4 = .ok (.aload_n 0, 1) := by decide +kernel
theorem dX9_init_5 : decode cX9_init 5 = .ok (.bipush 8, 2) := by decide +kernel
theorem dX9_init_7 : decode cX9_init 7 = .ok (.anewarray 9, 3) := by decide +kernel
theorem dX9_init_10 : decode cX9_init 10 = .ok (.putfield 11, 3) := by decide +kernel
theorem dX9_init_13 : decode cX9_init 13 = .ok (.aload_n 0, 1) := by decide +kernel
theorem dX9_init_14 : decode cX9_init 14 = .ok (.iload_n 1, 1) := by decide +kernel
theorem dX9_init_15 : decode cX9_init 15 = .ok (.putfield 17, 3) := by decide +kernel
theorem dX9_init_18 : decode cX9_init 18 = .ok (.aload_n 0, 1) := by decide +kernel
theorem dX9_init_19 : decode cX9_init 19 = .ok (.iload_n 2, 1) := by decide +kernel
theorem dX9_init_20 : decode cX9_init 20 = .ok (.putfield 21, 3) := by decide +kernel
theorem dX9_init_23 : decode cX9_init 23 = .ok (.aload_n 0, 1) := by decide +kernel
theorem dX9_init_24 : decode cX9_init 24 = .ok (.iload_n 3, 1) := by decide +kernel
theorem dX9_init_25 : decode cX9_init 25 = .ok (.putfield 24, 3) := by decide +kernel
theorem dX9_init_28 : decode cX9_init 28 = .ok (.return_, 1) := by decide +kernel
theorem dX9_add_0 : decode cX9_add 0 = .ok (.aload_n 0, 1) := by decide +kernel
theorem dX9_add_1 : decode cX9_add 1 = .ok (.getfield 27, 3) := by decide +kernel
theorem dX9_add_4 : decode cX9_add 4 = .ok (.bipush 8, 2) := by decide +kernel
theorem dX9_add_6 : decode cX9_add 6 = .ok (.if_icmp .ge 36, 3) := by decide +kernel
theorem dX9_add_9 : decode cX9_add 9 = .ok (.aload_n 0, 1) := by decide +kernel
theorem dX9_add_10 : decode cX9_add 10 = .ok (.getfield 11, 3) := by decide +kernel
theorem dX9_add_13 : decode cX9_add 13 = .ok (.aload_n 0, 1) := by decide +kernel
theorem dX9_add_14 : decode cX9_add 14 = .ok (.getfield 27, 3) := by decide +kernel
theorem dX9_add_17 : decode cX9_add 17 = .ok (.aload_n 1, 1) := by decide +kernel
theorem dX9_add_18 : decode cX9_add 18 = .ok (.aastore, 1) := by decide +kernel
theorem dX9_add_19 : decode cX9_add 19 = .ok (.aload_n 0, 1) := by decide +kernel
theorem dX9_add_20 : decode cX9_add 20 = .ok (.dup, 1) := by decide +kernel
theorem dX9_add_21 : decode cX9_add 21 = .ok (.getfield 27, 3) := by decide +kernel
theorem dX9_add_24 : decode cX9_add 24 = .ok (.iconst 1, 1) := by decide +kernel
theorem dX9_add_25 : decode cX9_add 25 = .ok (.iadd, 1) := by decide +kernel
theorem dX9_add_26 : decode cX9_add 26 = .ok (.putfield 27, 3) := by decide +kernel
theorem dX9_add_29 : decode cX9_add 29 = .ok (.aload_n 0, 1) := by decide +kernel
theorem dX9_add_30 : decode cX9_add 30 = .ok (.dup, 1) := by decide +kernel
theorem dX9_add_31 : decode cX9_add 31 = .ok (.getfield 30, 3) := by decide +kernel
theorem dX9_add_34 : decode cX9_add 34 = .ok (.aload_n 1, 1) := by decide +kernel
theorem dX9_add_35 : decode cX9_add 35 = .ok (.getfield 33, 3) := by decide +kernel
theorem dX9_add_38 : decode cX9_add 38 = .ok (.iadd, 1) := by decide +kernel
theorem dX9_add_39 : decode cX9_add 39 = .ok (.putfield 30, 3) := by decide +kernel
theorem dX9_add_42 : decode cX9_add 42 = .ok (.return_, 1) := by decide +kernel
theorem dX9_couponAt_0 : decode cX9_couponAt 0 = .ok (.iload_n 1, 1) := by decide +kernel
theorem dX9_couponAt_1 : decode cX9_couponAt 1 = .ok (.ifCond .lt 26, 3) := by decide +kernel
theorem dX9_couponAt_4 : decode cX9_couponAt 4 = .ok (.iload_n 1, 1) := by decide +kernel
theorem dX9_couponAt_5 : decode cX9_couponAt 5 = .ok (.aload_n 0, 1) := by decide +kernel
theorem dX9_couponAt_6 : decode cX9_couponAt 6 = .ok (.getfield 27, 3) := by decide +kernel
theorem dX9_couponAt_9 : decode cX9_couponAt 9 = .ok (.if_icmp .ge 18, 3) := by decide +kernel
theorem dX9_couponAt_12 : decode cX9_couponAt 12 = .ok (.iload_n 1, 1) := by decide +kernel
theorem dX9_couponAt_13 : decode cX9_couponAt 13 = .ok (.bipush 8, 2) := by decide +kernel
theorem dX9_couponAt_15 : decode cX9_couponAt 15 = .ok (.if_icmp .ge 12, 3) := by decide +kernel
theorem dX9_couponAt_18 : decode cX9_couponAt 18 = .ok (.aload_n 0, 1) := by decide +kernel
theorem dX9_couponAt_19 : decode cX9_couponAt 19 = .ok (.getfield 11, 3) := by decide +kernel
theorem dX9_couponAt_22 : decode cX9_couponAt 22 = .ok (.iload_n 1, 1) := by decide +kernel
theorem dX9_couponAt_23 : decode cX9_couponAt 23 = .ok (.aaload, 1) := by decide +kernel
theorem dX9_couponAt_24 : decode cX9_couponAt 24 = .ok (.goto 4, 3) := by decide +kernel
theorem dX9_couponAt_27 : decode cX9_couponAt 27 = .ok (.aconst_null, 1) := by decide +kernel
theorem dX9_couponAt_28 : decode cX9_couponAt 28 = .ok (.areturn, 1) := by decide +kernel
theorem dX9_openAt_0 : decode cX9_openAt 0 = .ok (.aload_n 0, 1) := by decide +kernel
theorem dX9_openAt_1 : decode cX9_openAt 1 = .ok (.iload_n 1, 1) := by decide +kernel
theorem dX9_openAt_2 : decode cX9_openAt 2 = .ok (.invokevirtual 36, 3) := by decide +kernel
theorem dX9_openAt_5 : decode cX9_openAt 5 = .ok (.astore_n 2, 1) := by decide +kernel
theorem dX9_openAt_6 : decode cX9_openAt 6 = .ok (.aload_n 2, 1) := by decide +kernel
theorem dX9_openAt_7 : decode cX9_openAt 7 = .ok (.ifnull 14, 3) := by decide +kernel
theorem dX9_openAt_10 : decode cX9_openAt 10 = .ok (.aload_n 2, 1) := by decide +kernel
theorem dX9_openAt_11 : decode cX9_openAt 11 = .ok (.getfield 40, 3) := by decide +kernel
theorem dX9_openAt_14 : decode cX9_openAt 14 = .ok (.ifCond .ne 7, 3) := by decide +kernel
theorem dX9_openAt_17 : decode cX9_openAt 17 = .ok (.aload_n 2, 1) := by decide +kernel
theorem dX9_openAt_18 : decode cX9_openAt 18 = .ok (.goto 4, 3) := by decide +kernel
theorem dX9_openAt_21 : decode cX9_openAt 21 = .ok (.aconst_null, 1) := by decide +kernel
theorem dX9_openAt_22 : decode cX9_openAt 22 = .ok (.areturn, 1) := by decide +kernel
theorem dX9_hasOpenOnes_0 : decode cX9_hasOpenOnes 0 = .ok (.iconst 0, 1) := by decide +kernel
theorem dX9_hasOpenOnes_1 : decode cX9_hasOpenOnes 1 = .ok (.istore_n 1, 1) := by decide +kernel
theorem dX9_hasOpenOnes_2 : decode cX9_hasOpenOnes 2 = .ok (.iload_n 1, 1) := by decide +kernel
theorem dX9_hasOpenOnes_3 : decode cX9_hasOpenOnes 3 = .ok (.aload_n 0, 1) := by decide +kernel
theorem dX9_hasOpenOnes_4 : decode cX9_hasOpenOnes 4 = .ok (.getfield 27, 3) := by decide +kernel
theorem dX9_hasOpenOnes_7 : decode cX9_hasOpenOnes 7 = .ok (.if_icmp .ge 19, 3) := by decide +kernel
theorem dX9_hasOpenOnes_10 : decode cX9_hasOpenOnes 10 = .ok (.aload_n 0, 1) := by decide +kernel
theorem dX9_hasOpenOnes_11 : decode cX9_hasOpenOnes 11 = .ok (.iload_n 1, 1) := by decide +kernel
theorem dX9_hasOpenOnes_12 : decode cX9_hasOpenOnes 12 = .ok (.invokevirtual 43, 3) := by decide +kernel
theorem dX9_hasOpenOnes_15 : decode cX9_hasOpenOnes 15 = .ok (.ifnull 5, 3) := by decide +kernel
theorem dX9_hasOpenOnes_18 : decode cX9_hasOpenOnes 18 = .ok (.iconst 1, 1) := by decide +kernel
theorem dX9_hasOpenOnes_19 : decode cX9_hasOpenOnes 19 = .ok (.ireturn, 1) := by decide +kernel
theorem dX9_hasOpenOnes_20 : decode cX9_hasOpenOnes 20 = .ok (.iinc 1 1, 3) := by decide +kernel
theorem dX9_hasOpenOnes_23 : decode cX9_hasOpenOnes 23 = .ok (.goto (-21), 3) := by decide +kernel
theorem dX9_hasOpenOnes_26 : decode cX9_hasOpenOnes 26 = .ok (.iconst 0, 1) := by decide +kernel
theorem dX9_hasOpenOnes_27 : decode cX9_hasOpenOnes 27 = .ok (.ireturn, 1) := by decide +kernel
theorem dX9_openShares_0 : decode cX9_openShares 0 = .ok (.iconst 0, 1) := by decide +kernel
theorem dX9_openShares_1 : decode cX9_openShares 1 = .ok (.istore_n 1, 1) := by decide +kernel
theorem dX9_openShares_2 : decode cX9_openShares 2 = .ok (.iconst 0, 1) := by decide +kernel
theorem dX9_openShares_3 : decode cX9_openShares 3 = .ok (.istore_n 2, 1) := by decide +kernel
theorem dX9_openShares_4 : decode cX9_openShares 4 = .ok (.iload_n 2, 1) := by decide +kernel
theorem dX9_openShares_5 : decode cX9_openShares 5 = .ok (.aload_n 0, 1) := by decide +kernel
theorem dX9_openShares_6 : decode cX9_openShares 6 = .ok (.getfield 27, 3) := by decide +kernel
theorem dX9_openShares_9 : decode cX9_openShares 9 = .ok (.if_icmp .ge 30, 3) := by decide +kernel
theorem dX9_openShares_12 : decode cX9_openShares 12 = .ok (.aload_n 0, 1) := by decide +kernel
theorem dX9_openShares_13 : decode cX9_openShares 13 = .ok (.iload_n 2, 1) := by decide +kernel
theorem dX9_openShares_14 : decode cX9_openShares 14 = .ok (.invokevirtual 43, 3) := by decide +kernel
theorem dX9_openShares_17 : decode cX9_openShares 17 = .ok (.astore_n 3, 1) := by decide +kernel
theorem dX9_openShares_18 : decode cX9_openShares 18 = .ok (.iload_n 1, 1) := by decide +kernel
theorem dX9_openShares_19 : decode cX9_openShares 19 = .ok (.aload_n 3, 1) := by decide +kernel
theorem dX9_openShares_20 : decode cX9_openShares 20 = .ok (.ifnonnull 7, 3) := by decide +kernel
theorem dX9_openShares_23 : decode cX9_openShares 23 = .ok (.iconst 0, 1) := by decide +kernel
theorem dX9_openShares_24 : decode cX9_openShares 24 = .ok (.goto 7, 3) := by decide +kernel
theorem dX9_openShares_27 : decode cX9_openShares 27 = .ok (.aload_n 3, 1) := by decide +kernel
theorem dX9_openShares_28 : decode cX9_openShares 28 = .ok (.getfield 46, 3) := by decide +kernel
theorem dX9_openShares_31 : decode cX9_openShares 31 = .ok (.iadd, 1) := by decide +kernel
theorem dX9_openShares_32 : decode cX9_openShares 32 = .ok (.istore_n 1, 1) := by decide +kernel
theorem dX9_openShares_33 : decode cX9_openShares 33 = .ok (.iinc 2 1, 3) := by decide +kernel
theorem dX9_openShares_36 : decode cX9_openShares 36 = .ok (.goto (-32), 3) := by decide +kernel
theorem dX9_openShares_39 : decode cX9_openShares 39 = .ok (.iload_n 1, 1) := by decide +kernel
theorem dX9_openShares_40 : decode cX9_openShares 40 = .ok (.ireturn, 1) := by decide +kernel
theorem dX9_openTaxes_0 : decode cX9_openTaxes 0 = .ok (.iconst 0, 1) := by decide +kernel
theorem dX9_openTaxes_1 : decode cX9_openTaxes 1 = .ok (.istore_n 1, 1) := by decide +kernel
theorem dX9_openTaxes_2 : decode cX9_openTaxes 2 = .ok (.iconst 0, 1) := by decide +kernel
theorem dX9_openTaxes_3 : decode cX9_openTaxes 3 = .ok (.istore_n 2, 1) := by decide +kernel
theorem dX9_openTaxes_4 : decode cX9_openTaxes 4 = .ok (.iload_n 2, 1) := by decide +kernel
theorem dX9_openTaxes_5 : decode cX9_openTaxes 5 = .ok (.aload_n 0, 1) := by decide +kernel
theorem dX9_openTaxes_6 : decode cX9_openTaxes 6 = .ok (.getfield 27, 3) := by decide +kernel
theorem dX9_openTaxes_9 : decode cX9_openTaxes 9 = .ok (.if_icmp .ge 30, 3) := by decide +kernel
theorem dX9_openTaxes_12 : decode cX9_openTaxes 12 = .ok (.aload_n 0, 1) := by decide +kernel
theorem dX9_openTaxes_13 : decode cX9_openTaxes 13 = .ok (.iload_n 2, 1) := by decide +kernel
theorem dX9_openTaxes_14 : decode cX9_openTaxes 14 = .ok (.invokevirtual 43, 3) := by decide +kernel
theorem dX9_openTaxes_17 : decode cX9_openTaxes 17 = .ok (.astore_n 3, 1) := by decide +kernel
theorem dX9_openTaxes_18 : decode cX9_openTaxes 18 = .ok (.iload_n 1, 1) := by decide +kernel
theorem dX9_openTaxes_19 : decode cX9_openTaxes 19 = .ok (.aload_n 3, 1) := by decide +kernel
theorem dX9_openTaxes_20 : decode cX9_openTaxes 20 = .ok (.ifnonnull 7, 3) := by decide +kernel
theorem dX9_openTaxes_23 : decode cX9_openTaxes 23 = .ok (.iconst 0, 1) := by decide +kernel
theorem dX9_openTaxes_24 : decode cX9_openTaxes 24 = .ok (.goto 7, 3) := by decide +kernel
theorem dX9_openTaxes_27 : decode cX9_openTaxes 27 = .ok (.aload_n 3, 1) := by decide +kernel
theorem dX9_openTaxes_28 : decode cX9_openTaxes 28 = .ok (.getfield 33, 3) := by decide +kernel
theorem dX9_openTaxes_31 : decode cX9_openTaxes 31 = .ok (.iadd, 1) := by decide +kernel
theorem dX9_openTaxes_32 : decode cX9_openTaxes 32 = .ok (.istore_n 1, 1) := by decide +kernel
theorem dX9_openTaxes_33 : decode cX9_openTaxes 33 = .ok (.iinc 2 1, 3) := by decide +kernel
theorem dX9_openTaxes_36 : decode cX9_openTaxes 36 = .ok (.goto (-32), 3) := by decide +kernel
theorem dX9_openTaxes_39 : decode cX9_openTaxes 39 = .ok (.iload_n 1, 1) := by decide +kernel
theorem dX9_openTaxes_40 : decode cX9_openTaxes 40 = .ok (.ireturn, 1) := by decide +kernel
theorem dX9_flownTaxes_0 : decode cX9_flownTaxes 0 = .ok (.iconst 0, 1) := by decide +kernel
theorem dX9_flownTaxes_1 : decode cX9_flownTaxes 1 = .ok (.istore_n 1, 1) := by decide +kernel
theorem dX9_flownTaxes_2 : decode cX9_flownTaxes 2 = .ok (.iconst 0, 1) := by decide +kernel
theorem dX9_flownTaxes_3 : decode cX9_flownTaxes 3 = .ok (.istore_n 2, 1) := by decide +kernel
theorem dX9_flownTaxes_4 : decode cX9_flownTaxes 4 = .ok (.iload_n 2, 1) := by decide +kernel
theorem dX9_flownTaxes_5 : decode cX9_flownTaxes 5 = .ok (.aload_n 0, 1) := by decide +kernel
theorem dX9_flownTaxes_6 : decode cX9_flownTaxes 6 = .ok (.getfield 27, 3) := by decide +kernel
theorem dX9_flownTaxes_9 : decode cX9_flownTaxes 9 = .ok (.if_icmp .ge 38, 3) := by decide +kernel
theorem dX9_flownTaxes_12 : decode cX9_flownTaxes 12 = .ok (.aload_n 0, 1) := by decide +kernel
theorem dX9_flownTaxes_13 : decode cX9_flownTaxes 13 = .ok (.iload_n 2, 1) := by decide +kernel
theorem dX9_flownTaxes_14 : decode cX9_flownTaxes 14 = .ok (.invokevirtual 36, 3) := by decide +kernel
theorem dX9_flownTaxes_17 : decode cX9_flownTaxes 17 = .ok (.astore_n 3, 1) := by decide +kernel
theorem dX9_flownTaxes_18 : decode cX9_flownTaxes 18 = .ok (.iload_n 1, 1) := by decide +kernel
theorem dX9_flownTaxes_19 : decode cX9_flownTaxes 19 = .ok (.aload_n 3, 1) := by decide +kernel
theorem dX9_flownTaxes_20 : decode cX9_flownTaxes 20 = .ok (.ifnull 18, 3) := by decide +kernel
theorem dX9_flownTaxes_23 : decode cX9_flownTaxes 23 = .ok (.aload_n 3, 1) := by decide +kernel
theorem dX9_flownTaxes_24 : decode cX9_flownTaxes 24 = .ok (.getfield 40, 3) := by decide +kernel
theorem dX9_flownTaxes_27 : decode cX9_flownTaxes 27 = .ok (.iconst 1, 1) := by decide +kernel
theorem dX9_flownTaxes_28 : decode cX9_flownTaxes 28 = .ok (.if_icmp .ne 10, 3) := by decide +kernel
theorem dX9_flownTaxes_31 : decode cX9_flownTaxes 31 = .ok (.aload_n 3, 1) := by decide +kernel
theorem dX9_flownTaxes_32 : decode cX9_flownTaxes 32 = .ok (.getfield 33, 3) := by decide +kernel
theorem dX9_flownTaxes_35 : decode cX9_flownTaxes 35 = .ok (.goto 4, 3) := by decide +kernel
theorem dX9_flownTaxes_38 : decode cX9_flownTaxes 38 = .ok (.iconst 0, 1) := by decide +kernel
theorem dX9_flownTaxes_39 : decode cX9_flownTaxes 39 = .ok (.iadd, 1) := by decide +kernel
theorem dX9_flownTaxes_40 : decode cX9_flownTaxes 40 = .ok (.istore_n 1, 1) := by decide +kernel
theorem dX9_flownTaxes_41 : decode cX9_flownTaxes 41 = .ok (.iinc 2 1, 3) := by decide +kernel
theorem dX9_flownTaxes_44 : decode cX9_flownTaxes 44 = .ok (.goto (-40), 3) := by decide +kernel
theorem dX9_flownTaxes_47 : decode cX9_flownTaxes 47 = .ok (.iload_n 1, 1) := by decide +kernel
theorem dX9_flownTaxes_48 : decode cX9_flownTaxes 48 = .ok (.ireturn, 1) := by decide +kernel
theorem dX9_turnOpenOnes_0 : decode cX9_turnOpenOnes 0 = .ok (.iconst 0, 1) := by decide +kernel
theorem dX9_turnOpenOnes_1 : decode cX9_turnOpenOnes 1 = .ok (.istore_n 3, 1) := by decide +kernel
theorem dX9_turnOpenOnes_2 : decode cX9_turnOpenOnes 2 = .ok (.iload_n 3, 1) := by decide +kernel
theorem dX9_turnOpenOnes_3 : decode cX9_turnOpenOnes 3 = .ok (.iload_n 1, 1) := by decide +kernel
theorem dX9_turnOpenOnes_4 : decode cX9_turnOpenOnes 4 = .ok (.if_icmp .ge 27, 3) := by decide +kernel
theorem dX9_turnOpenOnes_7 : decode cX9_turnOpenOnes 7 = .ok (.aload_n 0, 1) := by decide +kernel
theorem dX9_turnOpenOnes_8 : decode cX9_turnOpenOnes 8 = .ok (.iload_n 3, 1) := by decide +kernel
theorem dX9_turnOpenOnes_9 : decode cX9_turnOpenOnes 9 = .ok (.invokevirtual 43, 3) := by decide +kernel
theorem dX9_turnOpenOnes_12 : decode cX9_turnOpenOnes 12 = .ok (.astore 4, 2) := by decide +kernel
theorem dX9_turnOpenOnes_14 : decode cX9_turnOpenOnes 14 = .ok (.aload 4, 2) := by decide +kernel
theorem dX9_turnOpenOnes_16 : decode cX9_turnOpenOnes 16 = .ok (.ifnull 9, 3) := by decide +kernel
theorem dX9_turnOpenOnes_19 : decode cX9_turnOpenOnes 19 = .ok (.aload 4, 2) := by decide +kernel
theorem dX9_turnOpenOnes_21 : decode cX9_turnOpenOnes 21 = .ok (.iload_n 2, 1) := by decide +kernel
theorem dX9_turnOpenOnes_22 : decode cX9_turnOpenOnes 22 = .ok (.putfield 40, 3) := by decide +kernel
theorem dX9_turnOpenOnes_25 : decode cX9_turnOpenOnes 25 = .ok (.iinc 3 1, 3) := by decide +kernel
theorem dX9_turnOpenOnes_28 : decode cX9_turnOpenOnes 28 = .ok (.goto (-26), 3) := by decide +kernel
theorem dX9_turnOpenOnes_31 : decode cX9_turnOpenOnes 31 = .ok (.return_, 1) := by decide +kernel
theorem dX10_init_0 : decode cX10_init 0 = .ok (.aload_n 0, 1) := by decide +kernel
theorem dX10_init_1 : decode cX10_init 1 = .ok (.invokespecial 3, 3) := by decide +kernel
theorem dX10_init_4 : decode cX10_init 4 = .ok (.aload_n 0, 1) := by decide +kernel
theorem dX10_init_5 : decode cX10_init 5 = .ok (.bipush 9, 2) := by decide +kernel
theorem dX10_init_7 : decode cX10_init 7 = .ok (.newarray .int, 2) := by decide +kernel
theorem dX10_init_9 : decode cX10_init 9 = .ok (.putfield 9, 3) := by decide +kernel
theorem dX10_init_12 : decode cX10_init 12 = .ok (.aload_n 0, 1) := by decide +kernel
theorem dX10_init_13 : decode cX10_init 13 = .ok (.bipush 9, 2) := by decide +kernel
theorem dX10_init_15 : decode cX10_init 15 = .ok (.newarray .int, 2) := by decide +kernel
theorem dX10_init_17 : decode cX10_init 17 = .ok (.putfield 15, 3) := by decide +kernel
theorem dX10_init_20 : decode cX10_init 20 = .ok (.aload_n 0, 1) := by decide +kernel
theorem dX10_init_21 : decode cX10_init 21 = .ok (.bipush 81, 2) := by decide +kernel
theorem dX10_init_23 : decode cX10_init 23 = .ok (.newarray .int, 2) := by decide +kernel
theorem dX10_init_25 : decode cX10_init 25 = .ok (.putfield 18, 3) := by decide +kernel
theorem dX10_init_28 : decode cX10_init 28 = .ok (.aload_n 0, 1) := by decide +kernel
theorem dX10_init_29 : decode cX10_init 29 = .ok (.iconst (-1), 1) := by decide +kernel
theorem dX10_init_30 : decode cX10_init 30 = .ok (.putfield 21, 3) := by decide +kernel
theorem dX10_init_33 : decode cX10_init 33 = .ok (.aload_n 0, 1) := by decide +kernel
theorem dX10_init_34 : decode cX10_init 34 = .ok (.iconst (-1), 1) := by decide +kernel
theorem dX10_init_35 : decode cX10_init 35 = .ok (.putfield 25, 3) := by decide +kernel
theorem dX10_init_38 : decode cX10_init 38 = .ok (.return_, 1) := by decide +kernel
theorem dX10_findLeast_0 : decode cX10_findLeast 0 = .ok (.aload_n 0, 1) := by decide +kernel
theorem dX10_findLeast_1 : decode cX10_findLeast 1 = .ok (.iconst (-1), 1) := by decide +kernel
theorem dX10_findLeast_2 : decode cX10_findLeast 2 = .ok (.putfield 21, 3) := by decide +kernel
theorem dX10_findLeast_5 : decode cX10_findLeast 5 = .ok (.aload_n 0, 1) := by decide +kernel
theorem dX10_findLeast_6 : decode cX10_findLeast 6 = .ok (.iconst (-1), 1) := by decide +kernel
theorem dX10_findLeast_7 : decode cX10_findLeast 7 = .ok (.putfield 25, 3) := by decide +kernel
theorem dX10_findLeast_10 : decode cX10_findLeast 10 = .ok (.aload_n 1, 1) := by decide +kernel
theorem dX10_findLeast_11 : decode cX10_findLeast 11 = .ok (.getfield 28, 3) := by decide +kernel
theorem dX10_findLeast_14 : decode cX10_findLeast 14 = .ok (.iconst 1, 1) := by decide +kernel
theorem dX10_findLeast_15 : decode cX10_findLeast 15 = .ok (.if_icmp .lt 12, 3) := by decide +kernel
theorem dX10_findLeast_18 : decode cX10_findLeast 18 = .ok (.aload_n 1, 1) := by decide +kernel
theorem dX10_findLeast_19 : decode cX10_findLeast 19 = .ok (.getfield 28, 3) := by decide +kernel
theorem dX10_findLeast_22 : decode cX10_findLeast 22 = .ok (.bipush 9, 2) := by decide +kernel
theorem dX10_findLeast_24 : decode cX10_findLeast 24 = .ok (.if_icmp .lt 4, 3) := by decide +kernel
theorem dX10_findLeast_27 : decode cX10_findLeast 27 = .ok (.return_, 1) := by decide +kernel
theorem dX10_findLeast_28 : decode cX10_findLeast 28 = .ok (.aload_n 0, 1) := by decide +kernel
theorem dX10_findLeast_29 : decode cX10_findLeast 29 = .ok (.getfield 9, 3) := by decide +kernel
theorem dX10_findLeast_32 : decode cX10_findLeast 32 = .ok (.iconst 0, 1) := by decide +kernel
theorem dX10_findLeast_33 : decode cX10_findLeast 33 = .ok (.iconst 0, 1) := by decide +kernel
theorem dX10_findLeast_34 : decode cX10_findLeast 34 = .ok (.iastore, 1) := by decide +kernel
theorem dX10_findLeast_35 : decode cX10_findLeast 35 = .ok (.aload_n 0, 1) := by decide +kernel
theorem dX10_findLeast_36 : decode cX10_findLeast 36 = .ok (.getfield 15, 3) := by decide +kernel
theorem dX10_findLeast_39 : decode cX10_findLeast 39 = .ok (.iconst 0, 1) := by decide +kernel
theorem dX10_findLeast_40 : decode cX10_findLeast 40 = .ok (.iconst 0, 1) := by decide +kernel
theorem dX10_findLeast_41 : decode cX10_findLeast 41 = .ok (.iastore, 1) := by decide +kernel
theorem dX10_findLeast_42 : decode cX10_findLeast 42 = .ok (.iconst 1, 1) := by decide +kernel
theorem dX10_findLeast_43 : decode cX10_findLeast 43 = .ok (.istore_n 3, 1) := by decide +kernel
theorem dX10_findLeast_44 : decode cX10_findLeast 44 = .ok (.iload_n 3, 1) := by decide +kernel
theorem dX10_findLeast_45 : decode cX10_findLeast 45 = .ok (.aload_n 1, 1) := by decide +kernel
theorem dX10_findLeast_46 : decode cX10_findLeast 46 = .ok (.getfield 28, 3) := by decide +kernel
theorem dX10_findLeast_49 : decode cX10_findLeast 49 = .ok (.if_icmp .gt 53, 3) := by decide +kernel
theorem dX10_findLeast_52 : decode cX10_findLeast 52 = .ok (.aload_n 0, 1) := by decide +kernel
theorem dX10_findLeast_53 : decode cX10_findLeast 53 = .ok (.getfield 9, 3) := by decide +kernel
theorem dX10_findLeast_56 : decode cX10_findLeast 56 = .ok (.iload_n 3, 1) := by decide +kernel
theorem dX10_findLeast_57 : decode cX10_findLeast 57 = .ok (.iconst (-1), 1) := by decide +kernel
theorem dX10_findLeast_58 : decode cX10_findLeast 58 = .ok (.iastore, 1) := by decide +kernel
theorem dX10_findLeast_59 : decode cX10_findLeast 59 = .ok (.aload_n 0, 1) := by decide +kernel
theorem dX10_findLeast_60 : decode cX10_findLeast 60 = .ok (.getfield 15, 3) := by decide +kernel
theorem dX10_findLeast_63 : decode cX10_findLeast 63 = .ok (.iload_n 3, 1) := by decide +kernel
theorem dX10_findLeast_64 : decode cX10_findLeast 64 = .ok (.iconst (-1), 1) := by decide +kernel
theorem dX10_findLeast_65 : decode cX10_findLeast 65 = .ok (.iastore, 1) := by decide +kernel
theorem dX10_findLeast_66 : decode cX10_findLeast 66 = .ok (.iconst 0, 1) := by decide +kernel
theorem dX10_findLeast_67 : decode cX10_findLeast 67 = .ok (.istore 4, 2) := by decide +kernel
theorem dX10_findLeast_69 : decode cX10_findLeast 69 = .ok (.iload 4, 2) := by decide +kernel
theorem dX10_findLeast_71 : decode cX10_findLeast 71 = .ok (.iload_n 3, 1) := by decide +kernel
theorem dX10_findLeast_72 : decode cX10_findLeast 72 = .ok (.if_icmp .ge 24, 3) := by decide +kernel
theorem dX10_findLeast_75 : decode cX10_findLeast 75 = .ok (.aload_n 0, 1) := by decide +kernel
theorem dX10_findLeast_76 : decode cX10_findLeast 76 = .ok (.iload 4, 2) := by decide +kernel
theorem dX10_findLeast_78 : decode cX10_findLeast 78 = .ok (.iload_n 3, 1) := by decide +kernel
theorem dX10_findLeast_79 : decode cX10_findLeast 79 = .ok (.aload_n 1, 1) := by decide +kernel
theorem dX10_findLeast_80 : decode cX10_findLeast 80 = .ok (.aload_n 2, 1) := by decide +kernel
theorem dX10_findLeast_81 : decode cX10_findLeast 81 = .ok (.iload 4, 2) := by decide +kernel
theorem dX10_findLeast_83 : decode cX10_findLeast 83 = .ok (.iload_n 3, 1) := by decide +kernel
theorem dX10_findLeast_84 : decode cX10_findLeast 84 = .ok (.invokevirtual 33, 3) := by decide +kernel
theorem dX10_findLeast_87 : decode cX10_findLeast 87 = .ok (.invokevirtual 37, 3) := by decide +kernel
theorem dX10_findLeast_90 : decode cX10_findLeast 90 = .ok (.iinc 4 1, 3) := by decide +kernel
theorem dX10_findLeast_93 : decode cX10_findLeast 93 = .ok (.goto (-24), 3) := by decide +kernel
theorem dX10_findLeast_96 : decode cX10_findLeast 96 = .ok (.iinc 3 1, 3) := by decide +kernel
theorem dX10_findLeast_99 : decode cX10_findLeast 99 = .ok (.goto (-55), 3) := by decide +kernel
theorem dX10_findLeast_102 : decode cX10_findLeast 102 = .ok (.aload_n 0, 1) := by decide +kernel
theorem dX10_findLeast_103 : decode cX10_findLeast 103 = .ok (.aload_n 0, 1) := by decide +kernel
theorem dX10_findLeast_104 : decode cX10_findLeast 104 = .ok (.getfield 9, 3) := by decide +kernel
theorem dX10_findLeast_107 : decode cX10_findLeast 107 = .ok (.aload_n 1, 1) := by decide +kernel
theorem dX10_findLeast_108 : decode cX10_findLeast 108 = .ok (.getfield 28, 3) := by decide +kernel
theorem dX10_findLeast_111 : decode cX10_findLeast 111 = .ok (.iaload, 1) := by decide +kernel
theorem dX10_findLeast_112 : decode cX10_findLeast 112 = .ok (.putfield 21, 3) := by decide +kernel
theorem dX10_findLeast_115 : decode cX10_findLeast 115 = .ok (.aload_n 0, 1) := by decide +kernel
theorem dX10_findLeast_116 : decode cX10_findLeast 116 = .ok (.aload_n 0, 1) := by decide +kernel
theorem dX10_findLeast_117 : decode cX10_findLeast 117 = .ok (.getfield 15, 3) := by decide +kernel
theorem dX10_findLeast_120 : decode cX10_findLeast 120 = .ok (.aload_n 1, 1) := by decide +kernel
theorem dX10_findLeast_121 : decode cX10_findLeast 121 = .ok (.getfield 28, 3) := by decide +kernel
theorem dX10_findLeast_124 : decode cX10_findLeast 124 = .ok (.iaload, 1) := by decide +kernel
theorem dX10_findLeast_125 : decode cX10_findLeast 125 = .ok (.putfield 25, 3) := by decide +kernel
theorem dX10_findLeast_128 : decode cX10_findLeast 128 = .ok (.return_, 1) := by decide +kernel
theorem dX10_goOn_0 : decode cX10_goOn 0 = .ok (.iload_n 1, 1) := by decide +kernel
theorem dX10_goOn_1 : decode cX10_goOn 1 = .ok (.iconst 0, 1) := by decide +kernel
theorem dX10_goOn_2 : decode cX10_goOn 2 = .ok (.bipush 8, 2) := by decide +kernel
theorem dX10_goOn_4 : decode cX10_goOn 4 = .ok (.invokestatic 41, 3) := by decide +kernel
theorem dX10_goOn_7 : decode cX10_goOn 7 = .ok (.ifCond .eq 13, 3) := by decide +kernel
theorem dX10_goOn_10 : decode cX10_goOn 10 = .ok (.iload_n 2, 1) := by decide +kernel
theorem dX10_goOn_11 : decode cX10_goOn 11 = .ok (.iconst 0, 1) := by decide +kernel
theorem dX10_goOn_12 : decode cX10_goOn 12 = .ok (.bipush 8, 2) := by decide +kernel
theorem dX10_goOn_14 : decode cX10_goOn 14 = .ok (.invokestatic 41, 3) := by decide +kernel
theorem dX10_goOn_17 : decode cX10_goOn 17 = .ok (.ifCond .ne 4, 3) := by decide +kernel
theorem dX10_goOn_20 : decode cX10_goOn 20 = .ok (.return_, 1) := by decide +kernel
theorem dX10_goOn_21 : decode cX10_goOn 21 = .ok (.iload_n 3, 1) := by decide +kernel
theorem dX10_goOn_22 : decode cX10_goOn 22 = .ok (.ifCond .lt 13, 3) := by decide +kernel
theorem dX10_goOn_25 : decode cX10_goOn 25 = .ok (.aload_n 0, 1) := by decide +kernel
theorem dX10_goOn_26 : decode cX10_goOn 26 = .ok (.getfield 9, 3) := by decide +kernel
theorem dX10_goOn_29 : decode cX10_goOn 29 = .ok (.iload_n 1, 1) := by decide +kernel
theorem dX10_goOn_30 : decode cX10_goOn 30 = .ok (.iaload, 1) := by decide +kernel
theorem dX10_goOn_31 : decode cX10_goOn 31 = .ok (.iconst (-1), 1) := by decide +kernel
theorem dX10_goOn_32 : decode cX10_goOn 32 = .ok (.if_icmp .ne 4, 3) := by decide +kernel
theorem dX10_goOn_35 : decode cX10_goOn 35 = .ok (.return_, 1) := by decide +kernel
theorem dX10_goOn_36 : decode cX10_goOn 36 = .ok (.aload_n 0, 1) := by decide +kernel
theorem dX10_goOn_37 : decode cX10_goOn 37 = .ok (.getfield 9, 3) := by decide +kernel
theorem dX10_goOn_40 : decode cX10_goOn 40 = .ok (.iload_n 1, 1) := by decide +kernel
theorem dX10_goOn_41 : decode cX10_goOn 41 = .ok (.iaload, 1) := by decide +kernel
theorem dX10_goOn_42 : decode cX10_goOn 42 = .ok (.iload_n 3, 1) := by decide +kernel
theorem dX10_goOn_43 : decode cX10_goOn 43 = .ok (.iadd, 1) := by decide +kernel
theorem dX10_goOn_44 : decode cX10_goOn 44 = .ok (.istore 4, 2) := by decide +kernel
theorem dX10_goOn_46 : decode cX10_goOn 46 = .ok (.aload_n 0, 1) := by decide +kernel
theorem dX10_goOn_47 : decode cX10_goOn 47 = .ok (.getfield 9, 3) := by decide +kernel
theorem dX10_goOn_50 : decode cX10_goOn 50 = .ok (.iload_n 2, 1) := by decide +kernel
theorem dX10_goOn_51 : decode cX10_goOn 51 = .ok (.iaload, 1) := by decide +kernel
theorem dX10_goOn_52 : decode cX10_goOn 52 = .ok (.iconst (-1), 1) := by decide +kernel
theorem dX10_goOn_53 : decode cX10_goOn 53 = .ok (.if_icmp .eq 14, 3) := by decide +kernel
theorem dX10_goOn_56 : decode cX10_goOn 56 = .ok (.iload 4, 2) := by decide +kernel
theorem dX10_goOn_58 : decode cX10_goOn 58 = .ok (.aload_n 0, 1) := by decide +kernel
theorem dX10_goOn_59 : decode cX10_goOn 59 = .ok (.getfield 9, 3) := by decide +kernel
theorem dX10_goOn_62 : decode cX10_goOn 62 = .ok (.iload_n 2, 1) := by decide +kernel
theorem dX10_goOn_63 : decode cX10_goOn 63 = .ok (.iaload, 1) := by decide +kernel
theorem dX10_goOn_64 : decode cX10_goOn 64 = .ok (.if_icmp .ge 35, 3) := by decide +kernel
theorem dX10_goOn_67 : decode cX10_goOn 67 = .ok (.aload_n 0, 1) := by decide +kernel
theorem dX10_goOn_68 : decode cX10_goOn 68 = .ok (.getfield 9, 3) := by decide +kernel
theorem dX10_goOn_71 : decode cX10_goOn 71 = .ok (.iload_n 2, 1) := by decide +kernel
theorem dX10_goOn_72 : decode cX10_goOn 72 = .ok (.iload 4, 2) := by decide +kernel
theorem dX10_goOn_74 : decode cX10_goOn 74 = .ok (.iastore, 1) := by decide +kernel
theorem dX10_goOn_75 : decode cX10_goOn 75 = .ok (.aload_n 0, 1) := by decide +kernel
theorem dX10_goOn_76 : decode cX10_goOn 76 = .ok (.getfield 15, 3) := by decide +kernel
theorem dX10_goOn_79 : decode cX10_goOn 79 = .ok (.iload_n 2, 1) := by decide +kernel
theorem dX10_goOn_80 : decode cX10_goOn 80 = .ok (.iload_n 1, 1) := by decide +kernel
theorem dX10_goOn_81 : decode cX10_goOn 81 = .ok (.ifCond .ne 7, 3) := by decide +kernel
theorem dX10_goOn_84 : decode cX10_goOn 84 = .ok (.iconst 0, 1) := by decide +kernel
theorem dX10_goOn_85 : decode cX10_goOn 85 = .ok (.goto 13, 3) := by decide +kernel
theorem dX10_goOn_88 : decode cX10_goOn 88 = .ok (.aload_n 0, 1) := by decide +kernel
theorem dX10_goOn_89 : decode cX10_goOn 89 = .ok (.getfield 15, 3) := by decide +kernel
theorem dX10_goOn_92 : decode cX10_goOn 92 = .ok (.iload_n 1, 1) := by decide +kernel
theorem dX10_goOn_93 : decode cX10_goOn 93 = .ok (.iaload, 1) := by decide +kernel
theorem dX10_goOn_94 : decode cX10_goOn 94 = .ok (.iconst 1, 1) := by decide +kernel
theorem dX10_goOn_95 : decode cX10_goOn 95 = .ok (.iload_n 1, 1) := by decide +kernel
theorem dX10_goOn_96 : decode cX10_goOn 96 = .ok (.ishl, 1) := by decide +kernel
theorem dX10_goOn_97 : decode cX10_goOn 97 = .ok (.ior, 1) := by decide +kernel
theorem dX10_goOn_98 : decode cX10_goOn 98 = .ok (.iastore, 1) := by decide +kernel
theorem dX10_goOn_99 : decode cX10_goOn 99 = .ok (.return_, 1) := by decide +kernel
theorem dX10_leastOfAllSets_0 : decode cX10_leastOfAllSets 0 = .ok (.aload_n 1, 1) := by decide +kernel
theorem dX10_leastOfAllSets_1 : decode cX10_leastOfAllSets 1 = .ok (.getfield 28, 3) := by decide +kernel
theorem dX10_leastOfAllSets_4 : decode cX10_leastOfAllSets 4 = .ok (.istore_n 3, 1) := by decide +kernel
theorem dX10_leastOfAllSets_5 : decode cX10_leastOfAllSets 5 = .ok (.iload_n 3, 1) := by decide +kernel
theorem dX10_leastOfAllSets_6 : decode cX10_leastOfAllSets 6 = .ok (.iconst 1, 1) := by decide +kernel
theorem dX10_leastOfAllSets_7 : decode cX10_leastOfAllSets 7 = .ok (.if_icmp .lt 9, 3) := by decide +kernel
theorem dX10_leastOfAllSets_10 : decode cX10_leastOfAllSets 10 = .ok (.iload_n 3, 1) := by decide +kernel
theorem dX10_leastOfAllSets_11 : decode cX10_leastOfAllSets 11 = .ok (.bipush 9, 2) := by decide +kernel
theorem dX10_leastOfAllSets_13 : decode cX10_leastOfAllSets 13 = .ok (.if_icmp .lt 5, 3) := by decide +kernel
theorem dX10_leastOfAllSets_16 : decode cX10_leastOfAllSets 16 = .ok (.iconst (-1), 1) := by decide +kernel
theorem dX10_leastOfAllSets_17 : decode cX10_leastOfAllSets 17 = .ok (.ireturn, 1) := by decide +kernel
theorem dX10_leastOfAllSets_18 : decode cX10_leastOfAllSets 18 = .ok (.iconst 0, 1) := by decide +kernel
theorem dX10_leastOfAllSets_19 : decode cX10_leastOfAllSets 19 = .ok (.istore 4, 2) := by decide +kernel
theorem dX10_leastOfAllSets_21 : decode cX10_leastOfAllSets 21 = .ok (.iload 4, 2) := by decide +kernel
theorem dX10_leastOfAllSets_23 : decode cX10_leastOfAllSets 23 = .ok (.iload_n 3, 1) := by decide +kernel
theorem dX10_leastOfAllSets_24 : decode cX10_leastOfAllSets 24 = .ok (.if_icmp .ge 49, 3) := by decide +kernel
theorem dX10_leastOfAllSets_27 : decode cX10_leastOfAllSets 27 = .ok (.iload 4, 2) := by decide +kernel
theorem dX10_leastOfAllSets_29 : decode cX10_leastOfAllSets 29 = .ok (.iconst 1, 1) := by decide +kernel
theorem dX10_leastOfAllSets_30 : decode cX10_leastOfAllSets 30 = .ok (.iadd, 1) := by decide +kernel
theorem dX10_leastOfAllSets_31 : decode cX10_leastOfAllSets 31 = .ok (.istore 5, 2) := by decide +kernel
theorem dX10_leastOfAllSets_33 : decode cX10_leastOfAllSets 33 = .ok (.iload 5, 2) := by decide +kernel
theorem dX10_leastOfAllSets_35 : decode cX10_leastOfAllSets 35 = .ok (.iload_n 3, 1) := by decide +kernel
theorem dX10_leastOfAllSets_36 : decode cX10_leastOfAllSets 36 = .ok (.if_icmp .gt 31, 3) := by decide +kernel
theorem dX10_leastOfAllSets_39 : decode cX10_leastOfAllSets 39 = .ok (.aload_n 0, 1) := by decide +kernel
theorem dX10_leastOfAllSets_40 : decode cX10_leastOfAllSets 40 = .ok (.getfield 18, 3) := by decide +kernel
theorem dX10_leastOfAllSets_43 : decode cX10_leastOfAllSets 43 = .ok (.iload 4, 2) := by decide +kernel
theorem dX10_leastOfAllSets_45 : decode cX10_leastOfAllSets 45 = .ok (.bipush 9, 2) := by decide +kernel
theorem dX10_leastOfAllSets_47 : decode cX10_leastOfAllSets 47 = .ok (.imul, 1) := by decide +kernel
theorem dX10_leastOfAllSets_48 : decode cX10_leastOfAllSets 48 = .ok (.iload 5, 2) := by decide +kernel
theorem dX10_leastOfAllSets_50 : decode cX10_leastOfAllSets 50 = .ok (.iadd, 1) := by decide +kernel
theorem dX10_leastOfAllSets_51 : decode cX10_leastOfAllSets 51 = .ok (.aload_n 1, 1) := by decide +kernel
theorem dX10_leastOfAllSets_52 : decode cX10_leastOfAllSets 52 = .ok (.aload_n 2, 1) := by decide +kernel
theorem dX10_leastOfAllSets_53 : decode cX10_leastOfAllSets 53 = .ok (.iload 4, 2) := by decide +kernel
theorem dX10_leastOfAllSets_55 : decode cX10_leastOfAllSets 55 = .ok (.iload 5, 2) := by decide +kernel
theorem dX10_leastOfAllSets_57 : decode cX10_leastOfAllSets 57 = .ok (.invokevirtual 33, 3) := by decide +kernel
theorem dX10_leastOfAllSets_60 : decode cX10_leastOfAllSets 60 = .ok (.iastore, 1) := by decide +kernel
theorem dX10_leastOfAllSets_61 : decode cX10_leastOfAllSets 61 = .ok (.iinc 5 1, 3) := by decide +kernel
theorem dX10_leastOfAllSets_64 : decode cX10_leastOfAllSets 64 = .ok (.goto (-31), 3) := by decide +kernel
theorem dX10_leastOfAllSets_67 : decode cX10_leastOfAllSets 67 = .ok (.iinc 4 1, 3) := by decide +kernel
theorem dX10_leastOfAllSets_70 : decode cX10_leastOfAllSets 70 = .ok (.goto (-49), 3) := by decide +kernel
theorem dX10_leastOfAllSets_73 : decode cX10_leastOfAllSets 73 = .ok (.iconst (-1), 1) := by decide +kernel
theorem dX10_leastOfAllSets_74 : decode cX10_leastOfAllSets 74 = .ok (.istore 4, 2) := by decide +kernel
theorem dX10_leastOfAllSets_76 : decode cX10_leastOfAllSets 76 = .ok (.iconst 0, 1) := by decide +kernel
theorem dX10_leastOfAllSets_77 : decode cX10_leastOfAllSets 77 = .ok (.istore 5, 2) := by decide +kernel
theorem dX10_leastOfAllSets_79 : decode cX10_leastOfAllSets 79 = .ok (.iload 5, 2) := by decide +kernel
theorem dX10_leastOfAllSets_81 : decode cX10_leastOfAllSets 81 = .ok (.iconst 1, 1) := by decide +kernel
theorem dX10_leastOfAllSets_82 : decode cX10_leastOfAllSets 82 = .ok (.iload_n 3, 1) := by decide +kernel
theorem dX10_leastOfAllSets_83 : decode cX10_leastOfAllSets 83 = .ok (.ishl, 1) := by decide +kernel
theorem dX10_leastOfAllSets_84 : decode cX10_leastOfAllSets 84 = .ok (.if_icmp .ge 41, 3) := by decide +kernel
theorem dX10_leastOfAllSets_87 : decode cX10_leastOfAllSets 87 = .ok (.aload_n 0, 1) := by decide +kernel
theorem dX10_leastOfAllSets_88 : decode cX10_leastOfAllSets 88 = .ok (.iload 5, 2) := by decide +kernel
theorem dX10_leastOfAllSets_90 : decode cX10_leastOfAllSets 90 = .ok (.iload_n 3, 1) := by decide +kernel
theorem dX10_leastOfAllSets_91 : decode cX10_leastOfAllSets 91 = .ok (.invokevirtual 45, 3) := by decide +kernel
theorem dX10_leastOfAllSets_94 : decode cX10_leastOfAllSets 94 = .ok (.istore 6, 2) := by decide +kernel
theorem dX10_leastOfAllSets_96 : decode cX10_leastOfAllSets 96 = .ok (.iload 6, 2) := by decide +kernel
theorem dX10_leastOfAllSets_98 : decode cX10_leastOfAllSets 98 = .ok (.iconst (-1), 1) := by decide +kernel
theorem dX10_leastOfAllSets_99 : decode cX10_leastOfAllSets 99 = .ok (.if_icmp .eq 20, 3) := by decide +kernel
theorem dX10_leastOfAllSets_102 : decode cX10_leastOfAllSets 102 = .ok (.iload 4, 2) := by decide +kernel
theorem dX10_leastOfAllSets_104 : decode cX10_leastOfAllSets 104 = .ok (.iconst (-1), 1) := by decide +kernel
theorem dX10_leastOfAllSets_105 : decode cX10_leastOfAllSets 105 = .ok (.if_icmp .eq 10, 3) := by decide +kernel
theorem dX10_leastOfAllSets_108 : decode cX10_leastOfAllSets 108 = .ok (.iload 6, 2) := by decide +kernel
theorem dX10_leastOfAllSets_110 : decode cX10_leastOfAllSets 110 = .ok (.iload 4, 2) := by decide +kernel
theorem dX10_leastOfAllSets_112 : decode cX10_leastOfAllSets 112 = .ok (.if_icmp .ge 7, 3) := by decide +kernel
theorem dX10_leastOfAllSets_115 : decode cX10_leastOfAllSets 115 = .ok (.iload 6, 2) := by decide +kernel
theorem dX10_leastOfAllSets_117 : decode cX10_leastOfAllSets 117 = .ok (.istore 4, 2) := by decide +kernel
theorem dX10_leastOfAllSets_119 : decode cX10_leastOfAllSets 119 = .ok (.iinc 5 2, 3) := by decide +kernel
theorem dX10_leastOfAllSets_122 : decode cX10_leastOfAllSets 122 = .ok (.goto (-43), 3) := by decide +kernel
theorem dX10_leastOfAllSets_125 : decode cX10_leastOfAllSets 125 = .ok (.iload 4, 2) := by decide +kernel
theorem dX10_leastOfAllSets_127 : decode cX10_leastOfAllSets 127 = .ok (.ireturn, 1) := by decide +kernel
theorem dX10_sumOfSet_0 : decode cX10_sumOfSet 0 = .ok (.iconst 0, 1) := by decide +kernel
theorem dX10_sumOfSet_1 : decode cX10_sumOfSet 1 = .ok (.istore_n 3, 1) := by decide +kernel
theorem dX10_sumOfSet_2 : decode cX10_sumOfSet 2 = .ok (.iconst 0, 1) := by decide +kernel
theorem dX10_sumOfSet_3 : decode cX10_sumOfSet 3 = .ok (.istore 4, 2) := by decide +kernel
theorem dX10_sumOfSet_5 : decode cX10_sumOfSet 5 = .ok (.iconst 1, 1) := by decide +kernel
theorem dX10_sumOfSet_6 : decode cX10_sumOfSet 6 = .ok (.istore 5, 2) := by decide +kernel
theorem dX10_sumOfSet_8 : decode cX10_sumOfSet 8 = .ok (.iload 5, 2) := by decide +kernel
theorem dX10_sumOfSet_10 : decode cX10_sumOfSet 10 = .ok (.iload_n 2, 1) := by decide +kernel
theorem dX10_sumOfSet_11 : decode cX10_sumOfSet 11 = .ok (.if_icmp .gt 74, 3) := by decide +kernel
theorem dX10_sumOfSet_14 : decode cX10_sumOfSet 14 = .ok (.iload 5, 2) := by decide +kernel
theorem dX10_sumOfSet_16 : decode cX10_sumOfSet 16 = .ok (.iload_n 2, 1) := by decide +kernel
theorem dX10_sumOfSet_17 : decode cX10_sumOfSet 17 = .ok (.if_icmp .eq 13, 3) := by decide +kernel
theorem dX10_sumOfSet_20 : decode cX10_sumOfSet 20 = .ok (.iload_n 1, 1) := by decide +kernel
theorem dX10_sumOfSet_21 : decode cX10_sumOfSet 21 = .ok (.iload 5, 2) := by decide +kernel
theorem dX10_sumOfSet_23 : decode cX10_sumOfSet 23 = .ok (.ishr, 1) := by decide +kernel
theorem dX10_sumOfSet_24 : decode cX10_sumOfSet 24 = .ok (.iconst 1, 1) := by decide +kernel
theorem dX10_sumOfSet_25 : decode cX10_sumOfSet 25 = .ok (.iand, 1) := by decide +kernel
theorem dX10_sumOfSet_26 : decode cX10_sumOfSet 26 = .ok (.iconst 1, 1) := by decide +kernel
theorem dX10_sumOfSet_27 : decode cX10_sumOfSet 27 = .ok (.if_icmp .ne 52, 3) := by decide +kernel
theorem dX10_sumOfSet_30 : decode cX10_sumOfSet 30 = .ok (.iload 4, 2) := by decide +kernel
theorem dX10_sumOfSet_32 : decode cX10_sumOfSet 32 = .ok (.bipush 9, 2) := by decide +kernel
theorem dX10_sumOfSet_34 : decode cX10_sumOfSet 34 = .ok (.imul, 1) := by decide +kernel
theorem dX10_sumOfSet_35 : decode cX10_sumOfSet 35 = .ok (.iload 5, 2) := by decide +kernel
theorem dX10_sumOfSet_37 : decode cX10_sumOfSet 37 = .ok (.iadd, 1) := by decide +kernel
theorem dX10_sumOfSet_38 : decode cX10_sumOfSet 38 = .ok (.istore 6, 2) := by decide +kernel
theorem dX10_sumOfSet_40 : decode cX10_sumOfSet 40 = .ok (.iload 6, 2) := by decide +kernel
theorem dX10_sumOfSet_42 : decode cX10_sumOfSet 42 = .ok (.aload_n 0, 1) := by decide +kernel
theorem dX10_sumOfSet_43 : decode cX10_sumOfSet 43 = .ok (.getfield 18, 3) := by decide +kernel
theorem dX10_sumOfSet_46 : decode cX10_sumOfSet 46 = .ok (.arraylength, 1) := by decide +kernel
theorem dX10_sumOfSet_47 : decode cX10_sumOfSet 47 = .ok (.if_icmp .ge 13, 3) := by decide +kernel
theorem dX10_sumOfSet_50 : decode cX10_sumOfSet 50 = .ok (.aload_n 0, 1) := by decide +kernel
theorem dX10_sumOfSet_51 : decode cX10_sumOfSet 51 = .ok (.getfield 18, 3) := by decide +kernel
theorem dX10_sumOfSet_54 : decode cX10_sumOfSet 54 = .ok (.iload 6, 2) := by decide +kernel
theorem dX10_sumOfSet_56 : decode cX10_sumOfSet 56 = .ok (.iaload, 1) := by decide +kernel
theorem dX10_sumOfSet_57 : decode cX10_sumOfSet 57 = .ok (.goto 4, 3) := by decide +kernel
theorem dX10_sumOfSet_60 : decode cX10_sumOfSet 60 = .ok (.iconst (-1), 1) := by decide +kernel
theorem dX10_sumOfSet_61 : decode cX10_sumOfSet 61 = .ok (.istore 7, 2) := by decide +kernel
theorem dX10_sumOfSet_63 : decode cX10_sumOfSet 63 = .ok (.iload 7, 2) := by decide +kernel
theorem dX10_sumOfSet_65 : decode cX10_sumOfSet 65 = .ok (.ifCond .ge 5, 3) := by decide +kernel
theorem dX10_sumOfSet_68 : decode cX10_sumOfSet 68 = .ok (.iconst (-1), 1) := by decide +kernel
theorem dX10_sumOfSet_69 : decode cX10_sumOfSet 69 = .ok (.ireturn, 1) := by decide +kernel
theorem dX10_sumOfSet_70 : decode cX10_sumOfSet 70 = .ok (.iload_n 3, 1) := by decide +kernel
theorem dX10_sumOfSet_71 : decode cX10_sumOfSet 71 = .ok (.iload 7, 2) := by decide +kernel
theorem dX10_sumOfSet_73 : decode cX10_sumOfSet 73 = .ok (.iadd, 1) := by decide +kernel
theorem dX10_sumOfSet_74 : decode cX10_sumOfSet 74 = .ok (.istore_n 3, 1) := by decide +kernel
theorem dX10_sumOfSet_75 : decode cX10_sumOfSet 75 = .ok (.iload 5, 2) := by decide +kernel
theorem dX10_sumOfSet_77 : decode cX10_sumOfSet 77 = .ok (.istore 4, 2) := by decide +kernel
theorem dX10_sumOfSet_79 : decode cX10_sumOfSet 79 = .ok (.iinc 5 1, 3) := by decide +kernel
theorem dX10_sumOfSet_82 : decode cX10_sumOfSet 82 = .ok (.goto (-74), 3) := by decide +kernel
theorem dX10_sumOfSet_85 : decode cX10_sumOfSet 85 = .ok (.iload_n 3, 1) := by decide +kernel
theorem dX10_sumOfSet_86 : decode cX10_sumOfSet 86 = .ok (.ireturn, 1) := by decide +kernel
theorem dX11_init_0 : decode cX11_init 0 = .ok (.aload_n 0, 1) := by decide +kernel
theorem dX11_init_1 : decode cX11_init 1 = .ok (.invokespecial 3, 3) := by decide +kernel
theorem dX11_init_4 : decode cX11_init 4 = .ok (.aload_n 0, 1) := by decide +kernel
theorem dX11_init_5 : decode cX11_init 5 = .ok (.new 9, 3) := by decide +kernel
theorem dX11_init_8 : decode cX11_init 8 = .ok (.dup, 1) := by decide +kernel
theorem dX11_init_9 : decode cX11_init 9 = .ok (.invokespecial 11, 3) := by decide +kernel
theorem dX11_init_12 : decode cX11_init 12 = .ok (.putfield 12, 3) := by decide +kernel
theorem dX11_init_15 : decode cX11_init 15 = .ok (.aload_n 0, 1) := by decide +kernel
theorem dX11_init_16 : decode cX11_init 16 = .ok (.new 16, 3) := by decide +kernel
theorem dX11_init_19 : decode cX11_init 19 = .ok (.dup, 1) := by decide +kernel
theorem dX11_init_20 : decode cX11_init 20 = .ok (.invokespecial 18, 3) := by decide +kernel
theorem dX11_init_23 : decode cX11_init 23 = .ok (.putfield 19, 3) := by decide +kernel
theorem dX11_init_26 : decode cX11_init 26 = .ok (.aload_n 0, 1) := by decide +kernel
theorem dX11_init_27 : decode cX11_init 27 = .ok (.new 23, 3) := by decide +kernel
theorem dX11_init_30 : decode cX11_init 30 = .ok (.dup, 1) := by decide +kernel
theorem dX11_init_31 : decode cX11_init 31 = .ok (.invokespecial 25, 3) := by decide +kernel
theorem dX11_init_34 : decode cX11_init 34 = .ok (.putfield 26, 3) := by decide +kernel
theorem dX11_init_37 : decode cX11_init 37 = .ok (.aload_n 0, 1) := by decide +kernel
theorem dX11_init_38 : decode cX11_init 38 = .ok (.new 30, 3) := by decide +kernel
theorem dX11_init_41 : decode cX11_init 41 = .ok (.dup, 1) := by decide +kernel
theorem dX11_init_42 : decode cX11_init 42 = .ok (.invokespecial 32, 3) := by decide +kernel
theorem dX11_init_45 : decode cX11_init 45 = .ok (.putfield 33, 3) := by decide +kernel
theorem dX11_init_48 : decode cX11_init 48 = .ok (.aload_n 0, 1) := by decide +kernel
theorem dX11_init_49 : decode cX11_init 49 = .ok (.new 37, 3) := by decide +kernel
theorem dX11_init_52 : decode cX11_init 52 = .ok (.dup, 1) := by decide +kernel
theorem dX11_init_53 : decode cX11_init 53 = .ok (.invokespecial 39, 3) := by decide +kernel
theorem dX11_init_56 : decode cX11_init 56 = .ok (.putfield 40, 3) := by decide +kernel
theorem dX11_init_59 : decode cX11_init 59 = .ok (.aload_n 0, 1) := by decide +kernel
theorem dX11_init_60 : decode cX11_init 60 = .ok (.bipush 30, 2) := by decide +kernel
theorem dX11_init_62 : decode cX11_init 62 = .ok (.anewarray 44, 3) := by decide +kernel
theorem dX11_init_65 : decode cX11_init 65 = .ok (.putfield 46, 3) := by decide +kernel
theorem dX11_init_68 : decode cX11_init 68 = .ok (.aload_n 0, 1) := by decide +kernel
theorem dX11_init_69 : decode cX11_init 69 = .ok (.iconst 5, 1) := by decide +kernel
theorem dX11_init_70 : decode cX11_init 70 = .ok (.newarray .long, 2) := by decide +kernel
theorem dX11_init_72 : decode cX11_init 72 = .ok (.putfield 50, 3) := by decide +kernel
theorem dX11_init_75 : decode cX11_init 75 = .ok (.aload_n 0, 1) := by decide +kernel
theorem dX11_init_76 : decode cX11_init 76 = .ok (.bipush 10, 2) := by decide +kernel
theorem dX11_init_78 : decode cX11_init 78 = .ok (.newarray .long, 2) := by decide +kernel
theorem dX11_init_80 : decode cX11_init 80 = .ok (.putfield 54, 3) := by decide +kernel
theorem dX11_init_83 : decode cX11_init 83 = .ok (.return_, 1) := by decide +kernel
theorem dX11_miles_0 : decode cX11_miles 0 = .ok (.iload_n 1, 1) := by decide +kernel
theorem dX11_miles_1 : decode cX11_miles 1 = .ok (.invokestatic 57, 3) := by decide +kernel
theorem dX11_miles_4 : decode cX11_miles 4 = .ok (.ifCond .eq 10, 3) := by decide +kernel
theorem dX11_miles_7 : decode cX11_miles 7 = .ok (.iload_n 2, 1) := by decide +kernel
theorem dX11_miles_8 : decode cX11_miles 8 = .ok (.invokestatic 57, 3) := by decide +kernel
theorem dX11_miles_11 : decode cX11_miles 11 = .ok (.ifCond .ne 13, 3) := by decide +kernel
theorem dX11_miles_14 : decode cX11_miles 14 = .ok (.new 61, 3) := by decide +kernel
theorem dX11_miles_17 : decode cX11_miles 17 = .ok (.dup, 1) := by decide +kernel
theorem dX11_miles_18 : decode cX11_miles 18 = .ok (.ldc 63, 2) := by decide +kernel
theorem dX11_miles_20 : decode cX11_miles 20 = .ok (.invokespecial 65, 3) := by decide +kernel
theorem dX11_miles_23 : decode cX11_miles 23 = .ok (.athrow, 1) := by decide +kernel
theorem dX11_miles_24 : decode cX11_miles 24 = .ok (.iload_n 1, 1) := by decide +kernel
theorem dX11_miles_25 : decode cX11_miles 25 = .ok (.iload_n 2, 1) := by decide +kernel
theorem dX11_miles_26 : decode cX11_miles 26 = .ok (.if_icmp .eq 14, 3) := by decide +kernel
theorem dX11_miles_29 : decode cX11_miles 29 = .ok (.iload_n 3, 1) := by decide +kernel
theorem dX11_miles_30 : decode cX11_miles 30 = .ok (.iconst 1, 1) := by decide +kernel
theorem dX11_miles_31 : decode cX11_miles 31 = .ok (.sipush 9999, 3) := by decide +kernel
theorem dX11_miles_34 : decode cX11_miles 34 = .ok (.invokestatic 68, 3) := by decide +kernel
theorem dX11_miles_37 : decode cX11_miles 37 = .ok (.ifCond .ne 13, 3) := by decide +kernel
theorem dX11_miles_40 : decode cX11_miles 40 = .ok (.new 72, 3) := by decide +kernel
theorem dX11_miles_43 : decode cX11_miles 43 = .ok (.dup, 1) := by decide +kernel
theorem dX11_miles_44 : decode cX11_miles 44 = .ok (.ldc 74, 2) := by decide +kernel
theorem dX11_miles_46 : decode cX11_miles 46 = .ok (.invokespecial 76, 3) := by decide +kernel
theorem dX11_miles_49 : decode cX11_miles 49 = .ok (.athrow, 1) := by decide +kernel
theorem dX11_miles_50 : decode cX11_miles 50 = .ok (.aload_n 0, 1) := by decide +kernel
theorem dX11_miles_51 : decode cX11_miles 51 = .ok (.getfield 12, 3) := by decide +kernel
theorem dX11_miles_54 : decode cX11_miles 54 = .ok (.getfield 77, 3) := by decide +kernel
theorem dX11_miles_57 : decode cX11_miles 57 = .ok (.iload_n 1, 1) := by decide +kernel
theorem dX11_miles_58 : decode cX11_miles 58 = .ok (.iload_n 2, 1) := by decide +kernel
theorem dX11_miles_59 : decode cX11_miles 59 = .ok (.iload_n 3, 1) := by decide +kernel
theorem dX11_miles_60 : decode cX11_miles 60 = .ok (.invokevirtual 81, 3) := by decide +kernel
theorem dX11_miles_63 : decode cX11_miles 63 = .ok (.ireturn, 1) := by decide +kernel
theorem dX11_fare_0 : decode cX11_fare 0 = .ok (.iload_n 1, 1) := by decide +kernel
theorem dX11_fare_1 : decode cX11_fare 1 = .ok (.invokestatic 57, 3) := by decide +kernel
theorem dX11_fare_4 : decode cX11_fare 4 = .ok (.ifCond .eq 10, 3) := by decide +kernel
theorem dX11_fare_7 : decode cX11_fare 7 = .ok (.iload_n 2, 1) := by decide +kernel
theorem dX11_fare_8 : decode cX11_fare 8 = .ok (.invokestatic 57, 3) := by decide +kernel
theorem dX11_fare_11 : decode cX11_fare 11 = .ok (.ifCond .ne 13, 3) := by decide +kernel
theorem dX11_fare_14 : decode cX11_fare 14 = .ok (.new 61, 3) := by decide +kernel
theorem dX11_fare_17 : decode cX11_fare 17 = .ok (.dup, 1) := by decide +kernel
theorem dX11_fare_18 : decode cX11_fare 18 = .ok (.ldc 63, 2) := by decide +kernel
theorem dX11_fare_20 : decode cX11_fare 20 = .ok (.invokespecial 65, 3) := by decide +kernel
theorem dX11_fare_23 : decode cX11_fare 23 = .ok (.athrow, 1) := by decide +kernel
theorem dX11_fare_24 : decode cX11_fare 24 = .ok (.iload_n 1, 1) := by decide +kernel
theorem dX11_fare_25 : decode cX11_fare 25 = .ok (.iload_n 2, 1) := by decide +kernel
theorem dX11_fare_26 : decode cX11_fare 26 = .ok (.if_icmp .eq 49, 3) := by decide +kernel
theorem dX11_fare_29 : decode cX11_fare 29 = .ok (.iload_n 3, 1) := by decide +kernel
theorem dX11_fare_30 : decode cX11_fare 30 = .ok (.iconst 1, 1) := by decide +kernel
theorem dX11_fare_31 : decode cX11_fare 31 = .ok (.ldc 87, 2) := by decide +kernel
theorem dX11_fare_33 : decode cX11_fare 33 = .ok (.invokestatic 68, 3) := by decide +kernel
theorem dX11_fare_36 : decode cX11_fare 36 = .ok (.ifCond .eq 39, 3) := by decide +kernel
theorem dX11_fare_39 : decode cX11_fare 39 = .ok (.iload 4, 2) := by decide +kernel
theorem dX11_fare_41 : decode cX11_fare 41 = .ok (.iconst 0, 1) := by decide +kernel
theorem dX11_fare_42 : decode cX11_fare 42 = .ok (.sipush 999, 3) := by decide +kernel
theorem dX11_fare_45 : decode cX11_fare 45 = .ok (.invokestatic 68, 3) := by decide +kernel
theorem dX11_fare_48 : decode cX11_fare 48 = .ok (.ifCond .eq 27, 3) := by decide +kernel
theorem dX11_fare_51 : decode cX11_fare 51 = .ok (.iload 5, 2) := by decide +kernel
theorem dX11_fare_53 : decode cX11_fare 53 = .ok (.iload 4, 2) := by decide +kernel
theorem dX11_fare_55 : decode cX11_fare 55 = .ok (.sipush 999, 3) := by decide +kernel
theorem dX11_fare_58 : decode cX11_fare 58 = .ok (.invokestatic 68, 3) := by decide +kernel
theorem dX11_fare_61 : decode cX11_fare 61 = .ok (.ifCond .eq 14, 3) := by decide +kernel
theorem dX11_fare_64 : decode cX11_fare 64 = .ok (.iload 6, 2) := by decide +kernel
theorem dX11_fare_66 : decode cX11_fare 66 = .ok (.iconst 0, 1) := by decide +kernel
theorem dX11_fare_67 : decode cX11_fare 67 = .ok (.bipush 7, 2) := by decide +kernel
theorem dX11_fare_69 : decode cX11_fare 69 = .ok (.invokestatic 68, 3) := by decide +kernel
theorem dX11_fare_72 : decode cX11_fare 72 = .ok (.ifCond .ne 13, 3) := by decide +kernel
theorem dX11_fare_75 : decode cX11_fare 75 = .ok (.new 72, 3) := by decide +kernel
theorem dX11_fare_78 : decode cX11_fare 78 = .ok (.dup, 1) := by decide +kernel
theorem dX11_fare_79 : decode cX11_fare 79 = .ok (.ldc 88, 2) := by decide +kernel
theorem dX11_fare_81 : decode cX11_fare 81 = .ok (.invokespecial 76, 3) := by decide +kernel
theorem dX11_fare_84 : decode cX11_fare 84 = .ok (.athrow, 1) := by decide +kernel
theorem dX11_fare_85 : decode cX11_fare 85 = .ok (.aload_n 0, 1) := by decide +kernel
theorem dX11_fare_86 : decode cX11_fare 86 = .ok (.getfield 12, 3) := by decide +kernel
theorem dX11_fare_89 : decode cX11_fare 89 = .ok (.getfield 90, 3) := by decide +kernel
theorem dX11_fare_92 : decode cX11_fare 92 = .ok (.bipush 40, 2) := by decide +kernel
theorem dX11_fare_94 : decode cX11_fare 94 = .ok (.if_icmp .lt 13, 3) := by decide +kernel
theorem dX11_fare_97 : decode cX11_fare 97 = .ok (.new 94, 3) := by decide +kernel
theorem dX11_fare_100 : decode cX11_fare 100 = .ok (.dup, 1) := by decide +kernel
theorem dX11_fare_101 : decode cX11_fare 101 = .ok (.ldc 96, 2) := by decide +kernel
theorem dX11_fare_103 : decode cX11_fare 103 = .ok (.invokespecial 98, 3) := by decide +kernel
theorem dX11_fare_106 : decode cX11_fare 106 = .ok (.athrow, 1) := by decide +kernel
theorem dX11_fare_107 : decode cX11_fare 107 = .ok (.aload_n 0, 1) := by decide +kernel
theorem dX11_fare_108 : decode cX11_fare 108 = .ok (.getfield 12, 3) := by decide +kernel
theorem dX11_fare_111 : decode cX11_fare 111 = .ok (.new 99, 3) := by decide +kernel
theorem dX11_fare_114 : decode cX11_fare 114 = .ok (.dup, 1) := by decide +kernel
theorem dX11_fare_115 : decode cX11_fare 115 = .ok (.iload_n 1, 1) := by decide +kernel
theorem dX11_fare_116 : decode cX11_fare 116 = .ok (.iload_n 2, 1) := by decide +kernel
theorem dX11_fare_117 : decode cX11_fare 117 = .ok (.iload_n 3, 1) := by decide +kernel
theorem dX11_fare_118 : decode cX11_fare 118 = .ok (.iload 4, 2) := by decide +kernel
theorem dX11_fare_120 : decode cX11_fare 120 = .ok (.iload 5, 2) := by decide +kernel
theorem dX11_fare_122 : decode cX11_fare 122 = .ok (.iload 6, 2) := by decide +kernel
theorem dX11_fare_124 : decode cX11_fare 124 = .ok (.invokespecial 101, 3) := by decide +kernel
theorem dX11_fare_127 : decode cX11_fare 127 = .ok (.invokevirtual 104, 3) := by decide +kernel
theorem dX11_fare_130 : decode cX11_fare 130 = .ok (.ireturn, 1) := by decide +kernel
theorem dX11_unit_0 : decode cX11_unit 0 = .ok (.iload_n 1, 1) := by decide +kernel
theorem dX11_unit_1 : decode cX11_unit 1 = .ok (.iconst 1, 1) := by decide +kernel
theorem dX11_unit_2 : decode cX11_unit 2 = .ok (.sipush 1000, 3) := by decide +kernel
theorem dX11_unit_5 : decode cX11_unit 5 = .ok (.invokestatic 68, 3) := by decide +kernel
theorem dX11_unit_8 : decode cX11_unit 8 = .ok (.ifCond .ne 13, 3) := by decide +kernel
theorem dX11_unit_11 : decode cX11_unit 11 = .ok (.new 72, 3) := by decide +kernel
theorem dX11_unit_14 : decode cX11_unit 14 = .ok (.dup, 1) := by decide +kernel
theorem dX11_unit_15 : decode cX11_unit 15 = .ok (.ldc 120, 2) := by decide +kernel
theorem dX11_unit_17 : decode cX11_unit 17 = .ok (.invokespecial 76, 3) := by decide +kernel
theorem dX11_unit_20 : decode cX11_unit 20 = .ok (.athrow, 1) := by decide +kernel
theorem dX11_unit_21 : decode cX11_unit 21 = .ok (.aload_n 0, 1) := by decide +kernel
theorem dX11_unit_22 : decode cX11_unit 22 = .ok (.getfield 12, 3) := by decide +kernel
theorem dX11_unit_25 : decode cX11_unit 25 = .ok (.getfield 122, 3) := by decide +kernel
theorem dX11_unit_28 : decode cX11_unit 28 = .ok (.istore_n 2, 1) := by decide +kernel
theorem dX11_unit_29 : decode cX11_unit 29 = .ok (.aload_n 0, 1) := by decide +kernel
theorem dX11_unit_30 : decode cX11_unit 30 = .ok (.getfield 12, 3) := by decide +kernel
theorem dX11_unit_33 : decode cX11_unit 33 = .ok (.iload_n 1, 1) := by decide +kernel
theorem dX11_unit_34 : decode cX11_unit 34 = .ok (.putfield 122, 3) := by decide +kernel
theorem dX11_unit_37 : decode cX11_unit 37 = .ok (.iload_n 2, 1) := by decide +kernel
theorem dX11_unit_38 : decode cX11_unit 38 = .ok (.ireturn, 1) := by decide +kernel
theorem dX11_tax_0 : decode cX11_tax 0 = .ok (.iload_n 1, 1) := by decide +kernel
theorem dX11_tax_1 : decode cX11_tax 1 = .ok (.invokestatic 57, 3) := by decide +kernel
theorem dX11_tax_4 : decode cX11_tax 4 = .ok (.ifCond .ne 13, 3) := by decide +kernel
theorem dX11_tax_7 : decode cX11_tax 7 = .ok (.new 61, 3) := by decide +kernel
theorem dX11_tax_10 : decode cX11_tax 10 = .ok (.dup, 1) := by decide +kernel
theorem dX11_tax_11 : decode cX11_tax 11 = .ok (.ldc 63, 2) := by decide +kernel
theorem dX11_tax_13 : decode cX11_tax 13 = .ok (.invokespecial 65, 3) := by decide +kernel
theorem dX11_tax_16 : decode cX11_tax 16 = .ok (.athrow, 1) := by decide +kernel
theorem dX11_tax_17 : decode cX11_tax 17 = .ok (.iload_n 2, 1) := by decide +kernel
theorem dX11_tax_18 : decode cX11_tax 18 = .ok (.iconst 0, 1) := by decide +kernel
theorem dX11_tax_19 : decode cX11_tax 19 = .ok (.sipush 10000, 3) := by decide +kernel
theorem dX11_tax_22 : decode cX11_tax 22 = .ok (.invokestatic 68, 3) := by decide +kernel
theorem dX11_tax_25 : decode cX11_tax 25 = .ok (.ifCond .eq 14, 3) := by decide +kernel
theorem dX11_tax_28 : decode cX11_tax 28 = .ok (.iload_n 3, 1) := by decide +kernel
theorem dX11_tax_29 : decode cX11_tax 29 = .ok (.iconst 0, 1) := by decide +kernel
theorem dX11_tax_30 : decode cX11_tax 30 = .ok (.sipush 10000, 3) := by decide +kernel
theorem dX11_tax_33 : decode cX11_tax 33 = .ok (.invokestatic 68, 3) := by decide +kernel
theorem dX11_tax_36 : decode cX11_tax 36 = .ok (.ifCond .ne 13, 3) := by decide +kernel
theorem dX11_tax_39 : decode cX11_tax 39 = .ok (.new 72, 3) := by decide +kernel
theorem dX11_tax_42 : decode cX11_tax 42 = .ok (.dup, 1) := by decide +kernel
theorem dX11_tax_43 : decode cX11_tax 43 = .ok (.ldc 125, 2) := by decide +kernel
theorem dX11_tax_45 : decode cX11_tax 45 = .ok (.invokespecial 76, 3) := by decide +kernel
theorem dX11_tax_48 : decode cX11_tax 48 = .ok (.athrow, 1) := by decide +kernel
theorem dX11_tax_49 : decode cX11_tax 49 = .ok (.aload_n 0, 1) := by decide +kernel
theorem dX11_tax_50 : decode cX11_tax 50 = .ok (.getfield 12, 3) := by decide +kernel
theorem dX11_tax_53 : decode cX11_tax 53 = .ok (.iload_n 1, 1) := by decide +kernel
theorem dX11_tax_54 : decode cX11_tax 54 = .ok (.iload_n 2, 1) := by decide +kernel
theorem dX11_tax_55 : decode cX11_tax 55 = .ok (.iload_n 3, 1) := by decide +kernel
theorem dX11_tax_56 : decode cX11_tax 56 = .ok (.invokevirtual 127, 3) := by decide +kernel
theorem dX11_tax_59 : decode cX11_tax 59 = .ok (.return_, 1) := by decide +kernel
theorem dX11_weight_0 : decode cX11_weight 0 = .ok (.iload_n 1, 1) := by decide +kernel
theorem dX11_weight_1 : decode cX11_weight 1 = .ok (.invokestatic 57, 3) := by decide +kernel
theorem dX11_weight_4 : decode cX11_weight 4 = .ok (.ifCond .eq 10, 3) := by decide +kernel
theorem dX11_weight_7 : decode cX11_weight 7 = .ok (.iload_n 2, 1) := by decide +kernel
theorem dX11_weight_8 : decode cX11_weight 8 = .ok (.invokestatic 57, 3) := by decide +kernel
theorem dX11_weight_11 : decode cX11_weight 11 = .ok (.ifCond .ne 13, 3) := by decide +kernel
theorem dX11_weight_14 : decode cX11_weight 14 = .ok (.new 61, 3) := by decide +kernel
theorem dX11_weight_17 : decode cX11_weight 17 = .ok (.dup, 1) := by decide +kernel
theorem dX11_weight_18 : decode cX11_weight 18 = .ok (.ldc 63, 2) := by decide +kernel
theorem dX11_weight_20 : decode cX11_weight 20 = .ok (.invokespecial 65, 3) := by decide +kernel
theorem dX11_weight_23 : decode cX11_weight 23 = .ok (.athrow, 1) := by decide +kernel
theorem dX11_weight_24 : decode cX11_weight 24 = .ok (.iload_n 1, 1) := by decide +kernel
theorem dX11_weight_25 : decode cX11_weight 25 = .ok (.iload_n 2, 1) := by decide +kernel
theorem dX11_weight_26 : decode cX11_weight 26 = .ok (.if_icmp .eq 14, 3) := by decide +kernel
theorem dX11_weight_29 : decode cX11_weight 29 = .ok (.iload_n 3, 1) := by decide +kernel
theorem dX11_weight_30 : decode cX11_weight 30 = .ok (.iconst 0, 1) := by decide +kernel
theorem dX11_weight_31 : decode cX11_weight 31 = .ok (.sipush 9999, 3) := by decide +kernel
theorem dX11_weight_34 : decode cX11_weight 34 = .ok (.invokestatic 68, 3) := by decide +kernel
theorem dX11_weight_37 : decode cX11_weight 37 = .ok (.ifCond .ne 13, 3) := by decide +kernel
theorem dX11_weight_40 : decode cX11_weight 40 = .ok (.new 72, 3) := by decide +kernel
theorem dX11_weight_43 : decode cX11_weight 43 = .ok (.dup, 1) := by decide +kernel
theorem dX11_weight_44 : decode cX11_weight 44 = .ok (.ldc 131, 2) := by decide +kernel
theorem dX11_weight_46 : decode cX11_weight 46 = .ok (.invokespecial 76, 3) := by decide +kernel
theorem dX11_weight_49 : decode cX11_weight 49 = .ok (.athrow, 1) := by decide +kernel
theorem dX11_weight_50 : decode cX11_weight 50 = .ok (.aload_n 0, 1) := by decide +kernel
theorem dX11_weight_51 : decode cX11_weight 51 = .ok (.getfield 19, 3) := by decide +kernel
theorem dX11_weight_54 : decode cX11_weight 54 = .ok (.getfield 133, 3) := by decide +kernel
theorem dX11_weight_57 : decode cX11_weight 57 = .ok (.iload_n 1, 1) := by decide +kernel
theorem dX11_weight_58 : decode cX11_weight 58 = .ok (.iload_n 2, 1) := by decide +kernel
theorem dX11_weight_59 : decode cX11_weight 59 = .ok (.iload_n 3, 1) := by decide +kernel
theorem dX11_weight_60 : decode cX11_weight 60 = .ok (.invokevirtual 81, 3) := by decide +kernel
theorem dX11_weight_63 : decode cX11_weight 63 = .ok (.ireturn, 1) := by decide +kernel
theorem dX11_proviso_0 : decode cX11_proviso 0 = .ok (.iload_n 1, 1) := by decide +kernel
theorem dX11_proviso_1 : decode cX11_proviso 1 = .ok (.invokestatic 136, 3) := by decide +kernel
theorem dX11_proviso_4 : decode cX11_proviso 4 = .ok (.ifCond .eq 17, 3) := by decide +kernel
theorem dX11_proviso_7 : decode cX11_proviso 7 = .ok (.iload_n 2, 1) := by decide +kernel
theorem dX11_proviso_8 : decode cX11_proviso 8 = .ok (.invokestatic 57, 3) := by decide +kernel
theorem dX11_proviso_11 : decode cX11_proviso 11 = .ok (.ifCond .eq 10, 3) := by decide +kernel
theorem dX11_proviso_14 : decode cX11_proviso 14 = .ok (.iload_n 3, 1) := by decide +kernel
theorem dX11_proviso_15 : decode cX11_proviso 15 = .ok (.invokestatic 57, 3) := by decide +kernel
theorem dX11_proviso_18 : decode cX11_proviso 18 = .ok (.ifCond .ne 13, 3) := by decide +kernel
theorem dX11_proviso_21 : decode cX11_proviso 21 = .ok (.new 61, 3) := by decide +kernel
theorem dX11_proviso_24 : decode cX11_proviso 24 = .ok (.dup, 1) := by decide +kernel
theorem dX11_proviso_25 : decode cX11_proviso 25 = .ok (.ldc 139, 2) := by decide +kernel
theorem dX11_proviso_27 : decode cX11_proviso 27 = .ok (.invokespecial 65, 3) := by decide +kernel
theorem dX11_proviso_30 : decode cX11_proviso 30 = .ok (.athrow, 1) := by decide +kernel
theorem dX11_proviso_31 : decode cX11_proviso 31 = .ok (.iload_n 2, 1) := by decide +kernel
theorem dX11_proviso_32 : decode cX11_proviso 32 = .ok (.iload_n 3, 1) := by decide +kernel
theorem dX11_proviso_33 : decode cX11_proviso 33 = .ok (.if_icmp .eq 20, 3) := by decide +kernel
theorem dX11_proviso_36 : decode cX11_proviso 36 = .ok (.iload 4, 2) := by decide +kernel
theorem dX11_proviso_38 : decode cX11_proviso 38 = .ok (.iconst (-1), 1) := by decide +kernel
theorem dX11_proviso_39 : decode cX11_proviso 39 = .ok (.if_icmp .eq 24, 3) := by decide +kernel
theorem dX11_proviso_42 : decode cX11_proviso 42 = .ok (.iload 4, 2) := by decide +kernel
theorem dX11_proviso_44 : decode cX11_proviso 44 = .ok (.iconst 0, 1) := by decide +kernel
theorem dX11_proviso_45 : decode cX11_proviso 45 = .ok (.ldc 87, 2) := by decide +kernel
theorem dX11_proviso_47 : decode cX11_proviso 47 = .ok (.invokestatic 68, 3) := by decide +kernel
theorem dX11_proviso_50 : decode cX11_proviso 50 = .ok (.ifCond .ne 13, 3) := by decide +kernel
theorem dX11_proviso_53 : decode cX11_proviso 53 = .ok (.new 72, 3) := by decide +kernel
theorem dX11_proviso_56 : decode cX11_proviso 56 = .ok (.dup, 1) := by decide +kernel
theorem dX11_proviso_57 : decode cX11_proviso 57 = .ok (.ldc 141, 2) := by decide +kernel
theorem dX11_proviso_59 : decode cX11_proviso 59 = .ok (.invokespecial 76, 3) := by decide +kernel
theorem dX11_proviso_62 : decode cX11_proviso 62 = .ok (.athrow, 1) := by decide +kernel
theorem dX11_proviso_63 : decode cX11_proviso 63 = .ok (.aload_n 0, 1) := by decide +kernel
theorem dX11_proviso_64 : decode cX11_proviso 64 = .ok (.getfield 19, 3) := by decide +kernel
theorem dX11_proviso_67 : decode cX11_proviso 67 = .ok (.iload_n 1, 1) := by decide +kernel
theorem dX11_proviso_68 : decode cX11_proviso 68 = .ok (.iload_n 2, 1) := by decide +kernel
theorem dX11_proviso_69 : decode cX11_proviso 69 = .ok (.iload_n 3, 1) := by decide +kernel
theorem dX11_proviso_70 : decode cX11_proviso 70 = .ok (.iload 4, 2) := by decide +kernel
theorem dX11_proviso_72 : decode cX11_proviso 72 = .ok (.invokevirtual 143, 3) := by decide +kernel
theorem dX11_proviso_75 : decode cX11_proviso 75 = .ok (.ireturn, 1) := by decide +kernel
theorem dX11_penalty_0 : decode cX11_penalty 0 = .ok (.iload_n 1, 1) := by decide +kernel
theorem dX11_penalty_1 : decode cX11_penalty 1 = .ok (.iconst 0, 1) := by decide +kernel
theorem dX11_penalty_2 : decode cX11_penalty 2 = .ok (.bipush 100, 2) := by decide +kernel
theorem dX11_penalty_4 : decode cX11_penalty 4 = .ok (.invokestatic 68, 3) := by decide +kernel
theorem dX11_penalty_7 : decode cX11_penalty 7 = .ok (.ifCond .ne 13, 3) := by decide +kernel
theorem dX11_penalty_10 : decode cX11_penalty 10 = .ok (.new 72, 3) := by decide +kernel
theorem dX11_penalty_13 : decode cX11_penalty 13 = .ok (.dup, 1) := by decide +kernel
theorem dX11_penalty_14 : decode cX11_penalty 14 = .ok (.ldc 147, 2) := by decide +kernel
theorem dX11_penalty_16 : decode cX11_penalty 16 = .ok (.invokespecial 76, 3) := by decide +kernel
theorem dX11_penalty_19 : decode cX11_penalty 19 = .ok (.athrow, 1) := by decide +kernel
theorem dX11_penalty_20 : decode cX11_penalty 20 = .ok (.aload_n 0, 1) := by decide +kernel
theorem dX11_penalty_21 : decode cX11_penalty 21 = .ok (.getfield 149, 3) := by decide +kernel
theorem dX11_penalty_24 : decode cX11_penalty 24 = .ok (.istore_n 2, 1) := by decide +kernel
theorem dX11_penalty_25 : decode cX11_penalty 25 = .ok (.aload_n 0, 1) := by decide +kernel
theorem dX11_penalty_26 : decode cX11_penalty 26 = .ok (.iload_n 1, 1) := by decide +kernel
theorem dX11_penalty_27 : decode cX11_penalty 27 = .ok (.putfield 149, 3) := by decide +kernel
theorem dX11_penalty_30 : decode cX11_penalty 30 = .ok (.iload_n 2, 1) := by decide +kernel
theorem dX11_penalty_31 : decode cX11_penalty 31 = .ok (.ireturn, 1) := by decide +kernel
theorem dX11_leg_0 : decode cX11_leg 0 = .ok (.iload_n 1, 1) := by decide +kernel
theorem dX11_leg_1 : decode cX11_leg 1 = .ok (.invokestatic 57, 3) := by decide +kernel
theorem dX11_leg_4 : decode cX11_leg 4 = .ok (.ifCond .eq 17, 3) := by decide +kernel
theorem dX11_leg_7 : decode cX11_leg 7 = .ok (.iload_n 2, 1) := by decide +kernel
theorem dX11_leg_8 : decode cX11_leg 8 = .ok (.invokestatic 57, 3) := by decide +kernel
theorem dX11_leg_11 : decode cX11_leg 11 = .ok (.ifCond .eq 10, 3) := by decide +kernel
theorem dX11_leg_14 : decode cX11_leg 14 = .ok (.iload_n 3, 1) := by decide +kernel
theorem dX11_leg_15 : decode cX11_leg 15 = .ok (.invokestatic 136, 3) := by decide +kernel
theorem dX11_leg_18 : decode cX11_leg 18 = .ok (.ifCond .ne 13, 3) := by decide +kernel
theorem dX11_leg_21 : decode cX11_leg 21 = .ok (.new 61, 3) := by decide +kernel
theorem dX11_leg_24 : decode cX11_leg 24 = .ok (.dup, 1) := by decide +kernel
theorem dX11_leg_25 : decode cX11_leg 25 = .ok (.ldc 152, 2) := by decide +kernel
theorem dX11_leg_27 : decode cX11_leg 27 = .ok (.invokespecial 65, 3) := by decide +kernel
theorem dX11_leg_30 : decode cX11_leg 30 = .ok (.athrow, 1) := by decide +kernel
theorem dX11_leg_31 : decode cX11_leg 31 = .ok (.iload_n 1, 1) := by decide +kernel
theorem dX11_leg_32 : decode cX11_leg 32 = .ok (.iload_n 2, 1) := by decide +kernel
theorem dX11_leg_33 : decode cX11_leg 33 = .ok (.if_icmp .eq 21, 3) := by decide +kernel
theorem dX11_leg_36 : decode cX11_leg 36 = .ok (.iload 4, 2) := by decide +kernel
theorem dX11_leg_38 : decode cX11_leg 38 = .ok (.aload_n 0, 1) := by decide +kernel
theorem dX11_leg_39 : decode cX11_leg 39 = .ok (.getfield 12, 3) := by decide +kernel
theorem dX11_leg_42 : decode cX11_leg 42 = .ok (.getfield 154, 3) := by decide +kernel
theorem dX11_leg_45 : decode cX11_leg 45 = .ok (.sipush 999, 3) := by decide +kernel
theorem dX11_leg_48 : decode cX11_leg 48 = .ok (.invokestatic 68, 3) := by decide +kernel
theorem dX11_leg_51 : decode cX11_leg 51 = .ok (.ifCond .ne 13, 3) := by decide +kernel
theorem dX11_leg_54 : decode cX11_leg 54 = .ok (.new 72, 3) := by decide +kernel
theorem dX11_leg_57 : decode cX11_leg 57 = .ok (.dup, 1) := by decide +kernel
theorem dX11_leg_58 : decode cX11_leg 58 = .ok (.ldc 157, 2) := by decide +kernel
theorem dX11_leg_60 : decode cX11_leg 60 = .ok (.invokespecial 76, 3) := by decide +kernel
theorem dX11_leg_63 : decode cX11_leg 63 = .ok (.athrow, 1) := by decide +kernel
theorem dX11_leg_64 : decode cX11_leg 64 = .ok (.aload_n 0, 1) := by decide +kernel
theorem dX11_leg_65 : decode cX11_leg 65 = .ok (.getfield 26, 3) := by decide +kernel
theorem dX11_leg_68 : decode cX11_leg 68 = .ok (.iload_n 1, 1) := by decide +kernel
theorem dX11_leg_69 : decode cX11_leg 69 = .ok (.iload 4, 2) := by decide +kernel
theorem dX11_leg_71 : decode cX11_leg 71 = .ok (.invokevirtual 159, 3) := by decide +kernel
theorem dX11_leg_74 : decode cX11_leg 74 = .ok (.ifCond .eq 18, 3) := by decide +kernel
theorem dX11_leg_77 : decode cX11_leg 77 = .ok (.aload_n 0, 1) := by decide +kernel
theorem dX11_leg_78 : decode cX11_leg 78 = .ok (.getfield 12, 3) := by decide +kernel
theorem dX11_leg_81 : decode cX11_leg 81 = .ok (.getfield 77, 3) := by decide +kernel
theorem dX11_leg_84 : decode cX11_leg 84 = .ok (.iload_n 1, 1) := by decide +kernel
theorem dX11_leg_85 : decode cX11_leg 85 = .ok (.iload_n 2, 1) := by decide +kernel
theorem dX11_leg_86 : decode cX11_leg 86 = .ok (.invokevirtual 163, 3) := by decide +kernel
theorem dX11_leg_89 : decode cX11_leg 89 = .ok (.ifCond .ne 13, 3) := by decide +kernel
theorem dX11_leg_92 : decode cX11_leg 92 = .ok (.new 94, 3) := by decide +kernel
theorem dX11_leg_95 : decode cX11_leg 95 = .ok (.dup, 1) := by decide +kernel
theorem dX11_leg_96 : decode cX11_leg 96 = .ok (.ldc 167, 2) := by decide +kernel
theorem dX11_leg_98 : decode cX11_leg 98 = .ok (.invokespecial 98, 3) := by decide +kernel
theorem dX11_leg_101 : decode cX11_leg 101 = .ok (.athrow, 1) := by decide +kernel
theorem dX11_leg_102 : decode cX11_leg 102 = .ok (.aload_n 0, 1) := by decide +kernel
theorem dX11_leg_103 : decode cX11_leg 103 = .ok (.getfield 26, 3) := by decide +kernel
theorem dX11_leg_106 : decode cX11_leg 106 = .ok (.iload_n 1, 1) := by decide +kernel
theorem dX11_leg_107 : decode cX11_leg 107 = .ok (.iload_n 2, 1) := by decide +kernel
theorem dX11_leg_108 : decode cX11_leg 108 = .ok (.iload_n 3, 1) := by decide +kernel
theorem dX11_leg_109 : decode cX11_leg 109 = .ok (.iload 4, 2) := by decide +kernel
theorem dX11_leg_111 : decode cX11_leg 111 = .ok (.invokevirtual 169, 3) := by decide +kernel
theorem dX11_leg_114 : decode cX11_leg 114 = .ok (.ireturn, 1) := by decide +kernel
theorem dX11_part_0 : decode cX11_part 0 = .ok (.aload_n 0, 1) := by decide +kernel
theorem dX11_part_1 : decode cX11_part 1 = .ok (.getfield 26, 3) := by decide +kernel
theorem dX11_part_4 : decode cX11_part 4 = .ok (.iload_n 1, 1) := by decide +kernel
theorem dX11_part_5 : decode cX11_part 5 = .ok (.invokevirtual 176, 3) := by decide +kernel
theorem dX11_part_8 : decode cX11_part 8 = .ok (.ifCond .eq 14, 3) := by decide +kernel
theorem dX11_part_11 : decode cX11_part 11 = .ok (.aload_n 0, 1) := by decide +kernel
theorem dX11_part_12 : decode cX11_part 12 = .ok (.getfield 26, 3) := by decide +kernel
theorem dX11_part_15 : decode cX11_part 15 = .ok (.iload_n 2, 1) := by decide +kernel
theorem dX11_part_16 : decode cX11_part 16 = .ok (.invokevirtual 176, 3) := by decide +kernel
theorem dX11_part_19 : decode cX11_part 19 = .ok (.ifCond .ne 13, 3) := by decide +kernel
theorem dX11_part_22 : decode cX11_part 22 = .ok (.new 61, 3) := by decide +kernel
theorem dX11_part_25 : decode cX11_part 25 = .ok (.dup, 1) := by decide +kernel
theorem dX11_part_26 : decode cX11_part 26 = .ok (.ldc 179, 2) := by decide +kernel
theorem dX11_part_28 : decode cX11_part 28 = .ok (.invokespecial 65, 3) := by decide +kernel
theorem dX11_part_31 : decode cX11_part 31 = .ok (.athrow, 1) := by decide +kernel
theorem dX11_part_32 : decode cX11_part 32 = .ok (.iload_n 2, 1) := by decide +kernel
theorem dX11_part_33 : decode cX11_part 33 = .ok (.iload_n 1, 1) := by decide +kernel
theorem dX11_part_34 : decode cX11_part 34 = .ok (.if_icmp .gt 13, 3) := by decide +kernel
theorem dX11_part_37 : decode cX11_part 37 = .ok (.new 72, 3) := by decide +kernel
theorem dX11_part_40 : decode cX11_part 40 = .ok (.dup, 1) := by decide +kernel
theorem dX11_part_41 : decode cX11_part 41 = .ok (.ldc 181, 2) := by decide +kernel
theorem dX11_part_43 : decode cX11_part 43 = .ok (.invokespecial 76, 3) := by decide +kernel
theorem dX11_part_46 : decode cX11_part 46 = .ok (.athrow, 1) := by decide +kernel
theorem dX11_part_47 : decode cX11_part 47 = .ok (.aload_n 0, 1) := by decide +kernel
theorem dX11_part_48 : decode cX11_part 48 = .ok (.getfield 26, 3) := by decide +kernel
theorem dX11_part_51 : decode cX11_part 51 = .ok (.aload_n 0, 1) := by decide +kernel
theorem dX11_part_52 : decode cX11_part 52 = .ok (.getfield 12, 3) := by decide +kernel
theorem dX11_part_55 : decode cX11_part 55 = .ok (.iload_n 1, 1) := by decide +kernel
theorem dX11_part_56 : decode cX11_part 56 = .ok (.iload_n 2, 1) := by decide +kernel
theorem dX11_part_57 : decode cX11_part 57 = .ok (.invokevirtual 183, 3) := by decide +kernel
theorem dX11_part_60 : decode cX11_part 60 = .ok (.ireturn, 1) := by decide +kernel
theorem dX11_price_0 : decode cX11_price 0 = .ok (.aload_n 0, 1) := by decide +kernel
theorem dX11_price_1 : decode cX11_price 1 = .ok (.getfield 33, 3) := by decide +kernel
theorem dX11_price_4 : decode cX11_price 4 = .ok (.aload_n 0, 1) := by decide +kernel
theorem dX11_price_5 : decode cX11_price 5 = .ok (.getfield 26, 3) := by decide +kernel
theorem dX11_price_8 : decode cX11_price 8 = .ok (.aload_n 0, 1) := by decide +kernel
theorem dX11_price_9 : decode cX11_price 9 = .ok (.getfield 12, 3) := by decide +kernel
theorem dX11_price_12 : decode cX11_price 12 = .ok (.invokevirtual 187, 3) := by decide +kernel
theorem dX11_price_15 : decode cX11_price 15 = .ok (.aload_n 0, 1) := by decide +kernel
theorem dX11_price_16 : decode cX11_price 16 = .ok (.getfield 33, 3) := by decide +kernel
theorem dX11_price_19 : decode cX11_price 19 = .ok (.getfield 191, 3) := by decide +kernel
theorem dX11_price_22 : decode cX11_price 22 = .ok (.ireturn, 1) := by decide +kernel
theorem dX11_priceAnew_0 : decode cX11_priceAnew 0 = .ok (.aload_n 0, 1) := by decide +kernel
theorem dX11_priceAnew_1 : decode cX11_priceAnew 1 = .ok (.getfield 33, 3) := by decide +kernel
theorem dX11_priceAnew_4 : decode cX11_priceAnew 4 = .ok (.aload_n 0, 1) := by decide +kernel
theorem dX11_priceAnew_5 : decode cX11_priceAnew 5 = .ok (.getfield 26, 3) := by decide +kernel
theorem dX11_priceAnew_8 : decode cX11_priceAnew 8 = .ok (.aload_n 0, 1) := by decide +kernel
theorem dX11_priceAnew_9 : decode cX11_priceAnew 9 = .ok (.getfield 12, 3) := by decide +kernel
theorem dX11_priceAnew_12 : decode cX11_priceAnew 12 = .ok (.invokevirtual 194, 3) := by decide +kernel
theorem dX11_priceAnew_15 : decode cX11_priceAnew 15 = .ok (.ireturn, 1) := by decide +kernel
theorem dX11_cuts_0 : decode cX11_cuts 0 = .ok (.aload_n 0, 1) := by decide +kernel
theorem dX11_cuts_1 : decode cX11_cuts 1 = .ok (.getfield 33, 3) := by decide +kernel
theorem dX11_cuts_4 : decode cX11_cuts 4 = .ok (.aload_n 0, 1) := by decide +kernel
theorem dX11_cuts_5 : decode cX11_cuts 5 = .ok (.getfield 26, 3) := by decide +kernel
theorem dX11_cuts_8 : decode cX11_cuts 8 = .ok (.aload_n 0, 1) := by decide +kernel
theorem dX11_cuts_9 : decode cX11_cuts 9 = .ok (.getfield 12, 3) := by decide +kernel
theorem dX11_cuts_12 : decode cX11_cuts 12 = .ok (.invokevirtual 187, 3) := by decide +kernel
theorem dX11_cuts_15 : decode cX11_cuts 15 = .ok (.aload_n 0, 1) := by decide +kernel
theorem dX11_cuts_16 : decode cX11_cuts 16 = .ok (.getfield 33, 3) := by decide +kernel
theorem dX11_cuts_19 : decode cX11_cuts 19 = .ok (.getfield 198, 3) := by decide +kernel
theorem dX11_cuts_22 : decode cX11_cuts 22 = .ok (.ireturn, 1) := by decide +kernel
theorem dX11_issue_0 : decode cX11_issue 0 = .ok (.iload_n 1, 1) := by decide +kernel
theorem dX11_issue_1 : decode cX11_issue 1 = .ok (.invokestatic 136, 3) := by decide +kernel
theorem dX11_issue_4 : decode cX11_issue 4 = .ok (.ifCond .ne 13, 3) := by decide +kernel
theorem dX11_issue_7 : decode cX11_issue 7 = .ok (.new 61, 3) := by decide +kernel
theorem dX11_issue_10 : decode cX11_issue 10 = .ok (.dup, 1) := by decide +kernel
theorem dX11_issue_11 : decode cX11_issue 11 = .ok (.ldc 201, 2) := by decide +kernel
theorem dX11_issue_13 : decode cX11_issue 13 = .ok (.invokespecial 65, 3) := by decide +kernel
theorem dX11_issue_16 : decode cX11_issue 16 = .ok (.athrow, 1) := by decide +kernel
theorem dX11_issue_17 : decode cX11_issue 17 = .ok (.aload_n 0, 1) := by decide +kernel
theorem dX11_issue_18 : decode cX11_issue 18 = .ok (.getfield 33, 3) := by decide +kernel
theorem dX11_issue_21 : decode cX11_issue 21 = .ok (.aload_n 0, 1) := by decide +kernel
theorem dX11_issue_22 : decode cX11_issue 22 = .ok (.getfield 26, 3) := by decide +kernel
theorem dX11_issue_25 : decode cX11_issue 25 = .ok (.aload_n 0, 1) := by decide +kernel
theorem dX11_issue_26 : decode cX11_issue 26 = .ok (.getfield 12, 3) := by decide +kernel
theorem dX11_issue_29 : decode cX11_issue 29 = .ok (.invokevirtual 187, 3) := by decide +kernel
theorem dX11_issue_32 : decode cX11_issue 32 = .ok (.aload_n 0, 1) := by decide +kernel
theorem dX11_issue_33 : decode cX11_issue 33 = .ok (.invokevirtual 203, 3) := by decide +kernel
theorem dX11_issue_36 : decode cX11_issue 36 = .ok (.ifCond .ne 13, 3) := by decide +kernel
theorem dX11_issue_39 : decode cX11_issue 39 = .ok (.new 94, 3) := by decide +kernel
theorem dX11_issue_42 : decode cX11_issue 42 = .ok (.dup, 1) := by decide +kernel
theorem dX11_issue_43 : decode cX11_issue 43 = .ok (.ldc 207, 2) := by decide +kernel
theorem dX11_issue_45 : decode cX11_issue 45 = .ok (.invokespecial 98, 3) := by decide +kernel
theorem dX11_issue_48 : decode cX11_issue 48 = .ok (.athrow, 1) := by decide +kernel
theorem dX11_issue_49 : decode cX11_issue 49 = .ok (.aload_n 0, 1) := by decide +kernel
theorem dX11_issue_50 : decode cX11_issue 50 = .ok (.iload_n 1, 1) := by decide +kernel
theorem dX11_issue_51 : decode cX11_issue 51 = .ok (.invokevirtual 209, 3) := by decide +kernel
theorem dX11_issue_54 : decode cX11_issue 54 = .ok (.astore_n 2, 1) := by decide +kernel
theorem dX11_issue_55 : decode cX11_issue 55 = .ok (.aload_n 0, 1) := by decide +kernel
theorem dX11_issue_56 : decode cX11_issue 56 = .ok (.aload_n 2, 1) := by decide +kernel
theorem dX11_issue_57 : decode cX11_issue 57 = .ok (.aload_n 2, 1) := by decide +kernel
theorem dX11_issue_58 : decode cX11_issue 58 = .ok (.getfield 213, 3) := by decide +kernel
theorem dX11_issue_61 : decode cX11_issue 61 = .ok (.aload_n 2, 1) := by decide +kernel
theorem dX11_issue_62 : decode cX11_issue 62 = .ok (.getfield 216, 3) := by decide +kernel
theorem dX11_issue_65 : decode cX11_issue 65 = .ok (.iadd, 1) := by decide +kernel
theorem dX11_issue_66 : decode cX11_issue 66 = .ok (.invokevirtual 219, 3) := by decide +kernel
theorem dX11_issue_69 : decode cX11_issue 69 = .ok (.aload_n 0, 1) := by decide +kernel
theorem dX11_issue_70 : decode cX11_issue 70 = .ok (.getfield 223, 3) := by decide +kernel
theorem dX11_issue_73 : decode cX11_issue 73 = .ok (.iconst 1, 1) := by decide +kernel
theorem dX11_issue_74 : decode cX11_issue 74 = .ok (.isub, 1) := by decide +kernel
theorem dX11_issue_75 : decode cX11_issue 75 = .ok (.ireturn, 1) := by decide +kernel
theorem dX11_fly_0 : decode cX11_fly 0 = .ok (.aload_n 0, 1) := by decide +kernel
theorem dX11_fly_1 : decode cX11_fly 1 = .ok (.iload_n 1, 1) := by decide +kernel
theorem dX11_fly_2 : decode cX11_fly 2 = .ok (.invokevirtual 226, 3) := by decide +kernel
theorem dX11_fly_5 : decode cX11_fly 5 = .ok (.astore_n 3, 1) := by decide +kernel
theorem dX11_fly_6 : decode cX11_fly 6 = .ok (.aload_n 3, 1) := by decide +kernel
theorem dX11_fly_7 : decode cX11_fly 7 = .ok (.ifnonnull 7, 3) := by decide +kernel
theorem dX11_fly_10 : decode cX11_fly 10 = .ok (.aconst_null, 1) := by decide +kernel
theorem dX11_fly_11 : decode cX11_fly 11 = .ok (.goto 8, 3) := by decide +kernel
theorem dX11_fly_14 : decode cX11_fly 14 = .ok (.aload_n 3, 1) := by decide +kernel
theorem dX11_fly_15 : decode cX11_fly 15 = .ok (.iload_n 2, 1) := by decide +kernel
theorem dX11_fly_16 : decode cX11_fly 16 = .ok (.invokevirtual 229, 3) := by decide +kernel
theorem dX11_fly_19 : decode cX11_fly 19 = .ok (.astore 4, 2) := by decide +kernel
theorem dX11_fly_21 : decode cX11_fly 21 = .ok (.aload_n 3, 1) := by decide +kernel
theorem dX11_fly_22 : decode cX11_fly 22 = .ok (.ifnull 8, 3) := by decide +kernel
theorem dX11_fly_25 : decode cX11_fly 25 = .ok (.aload 4, 2) := by decide +kernel
theorem dX11_fly_27 : decode cX11_fly 27 = .ok (.ifnonnull 13, 3) := by decide +kernel
theorem dX11_fly_30 : decode cX11_fly 30 = .ok (.new 61, 3) := by decide +kernel
theorem dX11_fly_33 : decode cX11_fly 33 = .ok (.dup, 1) := by decide +kernel
theorem dX11_fly_34 : decode cX11_fly 34 = .ok (.ldc 233, 2) := by decide +kernel
theorem dX11_fly_36 : decode cX11_fly 36 = .ok (.invokespecial 65, 3) := by decide +kernel
theorem dX11_fly_39 : decode cX11_fly 39 = .ok (.athrow, 1) := by decide +kernel
theorem dX11_fly_40 : decode cX11_fly 40 = .ok (.aload 4, 2) := by decide +kernel
theorem dX11_fly_42 : decode cX11_fly 42 = .ok (.getfield 235, 3) := by decide +kernel
theorem dX11_fly_45 : decode cX11_fly 45 = .ok (.ifCond .ne 18, 3) := by decide +kernel
theorem dX11_fly_48 : decode cX11_fly 48 = .ok (.aload 4, 2) := by decide +kernel
theorem dX11_fly_50 : decode cX11_fly 50 = .ok (.getfield 240, 3) := by decide +kernel
theorem dX11_fly_53 : decode cX11_fly 53 = .ok (.aload_n 0, 1) := by decide +kernel
theorem dX11_fly_54 : decode cX11_fly 54 = .ok (.getfield 12, 3) := by decide +kernel
theorem dX11_fly_57 : decode cX11_fly 57 = .ok (.getfield 154, 3) := by decide +kernel
theorem dX11_fly_60 : decode cX11_fly 60 = .ok (.if_icmp .le 13, 3) := by decide +kernel
theorem dX11_fly_63 : decode cX11_fly 63 = .ok (.new 94, 3) := by decide +kernel
theorem dX11_fly_66 : decode cX11_fly 66 = .ok (.dup, 1) := by decide +kernel
theorem dX11_fly_67 : decode cX11_fly 67 = .ok (.ldc 243, 2) := by decide +kernel
theorem dX11_fly_69 : decode cX11_fly 69 = .ok (.invokespecial 98, 3) := by decide +kernel
theorem dX11_fly_72 : decode cX11_fly 72 = .ok (.athrow, 1) := by decide +kernel
theorem dX11_fly_73 : decode cX11_fly 73 = .ok (.aload 4, 2) := by decide +kernel
theorem dX11_fly_75 : decode cX11_fly 75 = .ok (.iconst 1, 1) := by decide +kernel
theorem dX11_fly_76 : decode cX11_fly 76 = .ok (.putfield 235, 3) := by decide +kernel
theorem dX11_fly_79 : decode cX11_fly 79 = .ok (.aload_n 3, 1) := by decide +kernel
theorem dX11_fly_80 : decode cX11_fly 80 = .ok (.iload_n 2, 1) := by decide +kernel
theorem dX11_fly_81 : decode cX11_fly 81 = .ok (.iconst 2, 1) := by decide +kernel
theorem dX11_fly_82 : decode cX11_fly 82 = .ok (.invokevirtual 245, 3) := by decide +kernel
theorem dX11_fly_85 : decode cX11_fly 85 = .ok (.aload_n 0, 1) := by decide +kernel
theorem dX11_fly_86 : decode cX11_fly 86 = .ok (.aload_n 3, 1) := by decide +kernel
theorem dX11_fly_87 : decode cX11_fly 87 = .ok (.getfield 249, 3) := by decide +kernel
theorem dX11_fly_90 : decode cX11_fly 90 = .ok (.aload 4, 2) := by decide +kernel
theorem dX11_fly_92 : decode cX11_fly 92 = .ok (.getfield 252, 3) := by decide +kernel
theorem dX11_fly_95 : decode cX11_fly 95 = .ok (.ineg, 1) := by decide +kernel
theorem dX11_fly_96 : decode cX11_fly 96 = .ok (.i2l, 1) := by decide +kernel
theorem dX11_fly_97 : decode cX11_fly 97 = .ok (.invokevirtual 255, 3) := by decide +kernel
theorem dX11_fly_100 : decode cX11_fly 100 = .ok (.aload 4, 2) := by decide +kernel
theorem dX11_fly_102 : decode cX11_fly 102 = .ok (.getfield 259, 3) := by decide +kernel
theorem dX11_fly_105 : decode cX11_fly 105 = .ok (.invokestatic 57, 3) := by decide +kernel
theorem dX11_fly_108 : decode cX11_fly 108 = .ok (.ifCond .eq 22, 3) := by decide +kernel
theorem dX11_fly_111 : decode cX11_fly 111 = .ok (.aload_n 0, 1) := by decide +kernel
theorem dX11_fly_112 : decode cX11_fly 112 = .ok (.getfield 54, 3) := by decide +kernel
theorem dX11_fly_115 : decode cX11_fly 115 = .ok (.aload 4, 2) := by decide +kernel
theorem dX11_fly_117 : decode cX11_fly 117 = .ok (.getfield 259, 3) := by decide +kernel
theorem dX11_fly_120 : decode cX11_fly 120 = .ok (.dup2, 1) := by decide +kernel
theorem dX11_fly_121 : decode cX11_fly 121 = .ok (.laload, 1) := by decide +kernel
theorem dX11_fly_122 : decode cX11_fly 122 = .ok (.aload 4, 2) := by decide +kernel
theorem dX11_fly_124 : decode cX11_fly 124 = .ok (.getfield 252, 3) := by decide +kernel
theorem dX11_fly_127 : decode cX11_fly 127 = .ok (.i2l, 1) := by decide +kernel
theorem dX11_fly_128 : decode cX11_fly 128 = .ok (.ladd, 1) := by decide +kernel
theorem dX11_fly_129 : decode cX11_fly 129 = .ok (.lastore, 1) := by decide +kernel
theorem dX11_fly_130 : decode cX11_fly 130 = .ok (.aload 4, 2) := by decide +kernel
theorem dX11_fly_132 : decode cX11_fly 132 = .ok (.getfield 262, 3) := by decide +kernel
theorem dX11_fly_135 : decode cX11_fly 135 = .ok (.aload_n 3, 1) := by decide +kernel
theorem dX11_fly_136 : decode cX11_fly 136 = .ok (.getfield 249, 3) := by decide +kernel
theorem dX11_fly_139 : decode cX11_fly 139 = .ok (.if_icmp .eq 29, 3) := by decide +kernel
theorem dX11_fly_142 : decode cX11_fly 142 = .ok (.aload 4, 2) := by decide +kernel
theorem dX11_fly_144 : decode cX11_fly 144 = .ok (.aload_n 0, 1) := by decide +kernel
theorem dX11_fly_145 : decode cX11_fly 145 = .ok (.getfield 40, 3) := by decide +kernel
theorem dX11_fly_148 : decode cX11_fly 148 = .ok (.aload_n 3, 1) := by decide +kernel
theorem dX11_fly_149 : decode cX11_fly 149 = .ok (.getfield 249, 3) := by decide +kernel
theorem dX11_fly_152 : decode cX11_fly 152 = .ok (.aload 4, 2) := by decide +kernel
theorem dX11_fly_154 : decode cX11_fly 154 = .ok (.getfield 262, 3) := by decide +kernel
theorem dX11_fly_157 : decode cX11_fly 157 = .ok (.aload 4, 2) := by decide +kernel
theorem dX11_fly_159 : decode cX11_fly 159 = .ok (.getfield 265, 3) := by decide +kernel
theorem dX11_fly_162 : decode cX11_fly 162 = .ok (.invokevirtual 268, 3) := by decide +kernel
theorem dX11_fly_165 : decode cX11_fly 165 = .ok (.putfield 271, 3) := by decide +kernel
theorem dX11_fly_168 : decode cX11_fly 168 = .ok (.aload 4, 2) := by decide +kernel
theorem dX11_fly_170 : decode cX11_fly 170 = .ok (.getfield 271, 3) := by decide +kernel
theorem dX11_fly_173 : decode cX11_fly 173 = .ok (.ireturn, 1) := by decide +kernel
theorem dX11_endorse_0 : decode cX11_endorse 0 = .ok (.aload_n 0, 1) := by decide +kernel
theorem dX11_endorse_1 : decode cX11_endorse 1 = .ok (.iload_n 1, 1) := by decide +kernel
theorem dX11_endorse_2 : decode cX11_endorse 2 = .ok (.invokevirtual 226, 3) := by decide +kernel
theorem dX11_endorse_5 : decode cX11_endorse 5 = .ok (.astore 4, 2) := by decide +kernel
theorem dX11_endorse_7 : decode cX11_endorse 7 = .ok (.aload 4, 2) := by decide +kernel
theorem dX11_endorse_9 : decode cX11_endorse 9 = .ok (.ifnonnull 7, 3) := by decide +kernel
theorem dX11_endorse_12 : decode cX11_endorse 12 = .ok (.aconst_null, 1) := by decide +kernel
theorem dX11_endorse_13 : decode cX11_endorse 13 = .ok (.goto 9, 3) := by decide +kernel
theorem dX11_endorse_16 : decode cX11_endorse 16 = .ok (.aload 4, 2) := by decide +kernel
theorem dX11_endorse_18 : decode cX11_endorse 18 = .ok (.iload_n 2, 1) := by decide +kernel
theorem dX11_endorse_19 : decode cX11_endorse 19 = .ok (.invokevirtual 229, 3) := by decide +kernel
theorem dX11_endorse_22 : decode cX11_endorse 22 = .ok (.astore 5, 2) := by decide +kernel
theorem dX11_endorse_24 : decode cX11_endorse 24 = .ok (.aload 5, 2) := by decide +kernel
theorem dX11_endorse_26 : decode cX11_endorse 26 = .ok (.ifnull 10, 3) := by decide +kernel
theorem dX11_endorse_29 : decode cX11_endorse 29 = .ok (.iload_n 3, 1) := by decide +kernel
theorem dX11_endorse_30 : decode cX11_endorse 30 = .ok (.invokestatic 136, 3) := by decide +kernel
theorem dX11_endorse_33 : decode cX11_endorse 33 = .ok (.ifCond .ne 14, 3) := by decide +kernel
theorem dX11_endorse_36 : decode cX11_endorse 36 = .ok (.new 61, 3) := by decide +kernel
theorem dX11_endorse_39 : decode cX11_endorse 39 = .ok (.dup, 1) := by decide +kernel
theorem dX11_endorse_40 : decode cX11_endorse 40 = .ok (.ldc_w 274, 3) := by decide +kernel
theorem dX11_endorse_43 : decode cX11_endorse 43 = .ok (.invokespecial 65, 3) := by decide +kernel
theorem dX11_endorse_46 : decode cX11_endorse 46 = .ok (.athrow, 1) := by decide +kernel
theorem dX11_endorse_47 : decode cX11_endorse 47 = .ok (.aload 5, 2) := by decide +kernel
theorem dX11_endorse_49 : decode cX11_endorse 49 = .ok (.getfield 235, 3) := by decide +kernel
theorem dX11_endorse_52 : decode cX11_endorse 52 = .ok (.ifCond .ne 12, 3) := by decide +kernel
theorem dX11_endorse_55 : decode cX11_endorse 55 = .ok (.aload 5, 2) := by decide +kernel
theorem dX11_endorse_57 : decode cX11_endorse 57 = .ok (.getfield 262, 3) := by decide +kernel
theorem dX11_endorse_60 : decode cX11_endorse 60 = .ok (.iload_n 3, 1) := by decide +kernel
theorem dX11_endorse_61 : decode cX11_endorse 61 = .ok (.if_icmp .ne 14, 3) := by decide +kernel
theorem dX11_endorse_64 : decode cX11_endorse 64 = .ok (.new 94, 3) := by decide +kernel
theorem dX11_endorse_67 : decode cX11_endorse 67 = .ok (.dup, 1) := by decide +kernel
theorem dX11_endorse_68 : decode cX11_endorse 68 = .ok (.ldc_w 276, 3) := by decide +kernel
theorem dX11_endorse_71 : decode cX11_endorse 71 = .ok (.invokespecial 98, 3) := by decide +kernel
theorem dX11_endorse_74 : decode cX11_endorse 74 = .ok (.athrow, 1) := by decide +kernel
theorem dX11_endorse_75 : decode cX11_endorse 75 = .ok (.aload 5, 2) := by decide +kernel
theorem dX11_endorse_77 : decode cX11_endorse 77 = .ok (.getfield 262, 3) := by decide +kernel
theorem dX11_endorse_80 : decode cX11_endorse 80 = .ok (.istore 6, 2) := by decide +kernel
theorem dX11_endorse_82 : decode cX11_endorse 82 = .ok (.aload 5, 2) := by decide +kernel
theorem dX11_endorse_84 : decode cX11_endorse 84 = .ok (.iload_n 3, 1) := by decide +kernel
theorem dX11_endorse_85 : decode cX11_endorse 85 = .ok (.putfield 262, 3) := by decide +kernel
theorem dX11_endorse_88 : decode cX11_endorse 88 = .ok (.iload 6, 2) := by decide +kernel
theorem dX11_endorse_90 : decode cX11_endorse 90 = .ok (.ireturn, 1) := by decide +kernel
theorem dX11_refund_0 : decode cX11_refund 0 = .ok (.aload_n 0, 1) := by decide +kernel
theorem dX11_refund_1 : decode cX11_refund 1 = .ok (.iload_n 1, 1) := by decide +kernel
theorem dX11_refund_2 : decode cX11_refund 2 = .ok (.invokevirtual 226, 3) := by decide +kernel
theorem dX11_refund_5 : decode cX11_refund 5 = .ok (.astore_n 2, 1) := by decide +kernel
theorem dX11_refund_6 : decode cX11_refund 6 = .ok (.aload_n 2, 1) := by decide +kernel
theorem dX11_refund_7 : decode cX11_refund 7 = .ok (.ifnonnull 14, 3) := by decide +kernel
theorem dX11_refund_10 : decode cX11_refund 10 = .ok (.new 61, 3) := by decide +kernel
theorem dX11_refund_13 : decode cX11_refund 13 = .ok (.dup, 1) := by decide +kernel
theorem dX11_refund_14 : decode cX11_refund 14 = .ok (.ldc_w 278, 3) := by decide +kernel
theorem dX11_refund_17 : decode cX11_refund 17 = .ok (.invokespecial 65, 3) := by decide +kernel
theorem dX11_refund_20 : decode cX11_refund 20 = .ok (.athrow, 1) := by decide +kernel
theorem dX11_refund_21 : decode cX11_refund 21 = .ok (.aload_n 2, 1) := by decide +kernel
theorem dX11_refund_22 : decode cX11_refund 22 = .ok (.invokevirtual 280, 3) := by decide +kernel
theorem dX11_refund_25 : decode cX11_refund 25 = .ok (.ifCond .ne 14, 3) := by decide +kernel
theorem dX11_refund_28 : decode cX11_refund 28 = .ok (.new 94, 3) := by decide +kernel
theorem dX11_refund_31 : decode cX11_refund 31 = .ok (.dup, 1) := by decide +kernel
theorem dX11_refund_32 : decode cX11_refund 32 = .ok (.ldc_w 283, 3) := by decide +kernel
theorem dX11_refund_35 : decode cX11_refund 35 = .ok (.invokespecial 98, 3) := by decide +kernel
theorem dX11_refund_38 : decode cX11_refund 38 = .ok (.athrow, 1) := by decide +kernel
theorem dX11_refund_39 : decode cX11_refund 39 = .ok (.aload_n 2, 1) := by decide +kernel
theorem dX11_refund_40 : decode cX11_refund 40 = .ok (.invokevirtual 285, 3) := by decide +kernel
theorem dX11_refund_43 : decode cX11_refund 43 = .ok (.istore_n 3, 1) := by decide +kernel
theorem dX11_refund_44 : decode cX11_refund 44 = .ok (.iload_n 3, 1) := by decide +kernel
theorem dX11_refund_45 : decode cX11_refund 45 = .ok (.i2l, 1) := by decide +kernel
theorem dX11_refund_46 : decode cX11_refund 46 = .ok (.aload_n 0, 1) := by decide +kernel
theorem dX11_refund_47 : decode cX11_refund 47 = .ok (.getfield 149, 3) := by decide +kernel
theorem dX11_refund_50 : decode cX11_refund 50 = .ok (.i2l, 1) := by decide +kernel
theorem dX11_refund_51 : decode cX11_refund 51 = .ok (.lmul, 1) := by decide +kernel
theorem dX11_refund_52 : decode cX11_refund 52 = .ok (.ldc2_w 288, 3) := by decide +kernel
theorem dX11_refund_55 : decode cX11_refund 55 = .ok (.ladd, 1) := by decide +kernel
theorem dX11_refund_56 : decode cX11_refund 56 = .ok (.lconst 1, 1) := by decide +kernel
theorem dX11_refund_57 : decode cX11_refund 57 = .ok (.lsub, 1) := by decide +kernel
theorem dX11_refund_58 : decode cX11_refund 58 = .ok (.ldc2_w 288, 3) := by decide +kernel
theorem dX11_refund_61 : decode cX11_refund 61 = .ok (.ldiv, 1) := by decide +kernel
theorem dX11_refund_62 : decode cX11_refund 62 = .ok (.l2i, 1) := by decide +kernel
theorem dX11_refund_63 : decode cX11_refund 63 = .ok (.istore 4, 2) := by decide +kernel
theorem dX11_refund_65 : decode cX11_refund 65 = .ok (.iload_n 3, 1) := by decide +kernel
theorem dX11_refund_66 : decode cX11_refund 66 = .ok (.iload 4, 2) := by decide +kernel
theorem dX11_refund_68 : decode cX11_refund 68 = .ok (.isub, 1) := by decide +kernel
theorem dX11_refund_69 : decode cX11_refund 69 = .ok (.aload_n 2, 1) := by decide +kernel
theorem dX11_refund_70 : decode cX11_refund 70 = .ok (.invokevirtual 290, 3) := by decide +kernel
theorem dX11_refund_73 : decode cX11_refund 73 = .ok (.iadd, 1) := by decide +kernel
theorem dX11_refund_74 : decode cX11_refund 74 = .ok (.istore 5, 2) := by decide +kernel
theorem dX11_refund_76 : decode cX11_refund 76 = .ok (.aload_n 2, 1) := by decide +kernel
theorem dX11_refund_77 : decode cX11_refund 77 = .ok (.aload_n 2, 1) := by decide +kernel
theorem dX11_refund_78 : decode cX11_refund 78 = .ok (.getfield 293, 3) := by decide +kernel
theorem dX11_refund_81 : decode cX11_refund 81 = .ok (.iconst 3, 1) := by decide +kernel
theorem dX11_refund_82 : decode cX11_refund 82 = .ok (.invokevirtual 245, 3) := by decide +kernel
theorem dX11_refund_85 : decode cX11_refund 85 = .ok (.aload_n 0, 1) := by decide +kernel
theorem dX11_refund_86 : decode cX11_refund 86 = .ok (.aload_n 2, 1) := by decide +kernel
theorem dX11_refund_87 : decode cX11_refund 87 = .ok (.iload 5, 2) := by decide +kernel
theorem dX11_refund_89 : decode cX11_refund 89 = .ok (.ineg, 1) := by decide +kernel
theorem dX11_refund_90 : decode cX11_refund 90 = .ok (.invokevirtual 219, 3) := by decide +kernel
theorem dX11_refund_93 : decode cX11_refund 93 = .ok (.iload 5, 2) := by decide +kernel
theorem dX11_refund_95 : decode cX11_refund 95 = .ok (.ireturn, 1) := by decide +kernel
theorem dX11_reissue_0 : decode cX11_reissue 0 = .ok (.aload_n 0, 1) := by decide +kernel
theorem dX11_reissue_1 : decode cX11_reissue 1 = .ok (.iload_n 1, 1) := by decide +kernel
theorem dX11_reissue_2 : decode cX11_reissue 2 = .ok (.invokevirtual 226, 3) := by decide +kernel
theorem dX11_reissue_5 : decode cX11_reissue 5 = .ok (.astore_n 2, 1) := by decide +kernel
theorem dX11_reissue_6 : decode cX11_reissue 6 = .ok (.aload_n 2, 1) := by decide +kernel
theorem dX11_reissue_7 : decode cX11_reissue 7 = .ok (.ifnonnull 14, 3) := by decide +kernel
theorem dX11_reissue_10 : decode cX11_reissue 10 = .ok (.new 61, 3) := by decide +kernel
theorem dX11_reissue_13 : decode cX11_reissue 13 = .ok (.dup, 1) := by decide +kernel
theorem dX11_reissue_14 : decode cX11_reissue 14 = .ok (.ldc_w 278, 3) := by decide +kernel
theorem dX11_reissue_17 : decode cX11_reissue 17 = .ok (.invokespecial 65, 3) := by decide +kernel
theorem dX11_reissue_20 : decode cX11_reissue 20 = .ok (.athrow, 1) := by decide +kernel
theorem dX11_reissue_21 : decode cX11_reissue 21 = .ok (.aload_n 0, 1) := by decide +kernel
theorem dX11_reissue_22 : decode cX11_reissue 22 = .ok (.getfield 33, 3) := by decide +kernel
theorem dX11_reissue_25 : decode cX11_reissue 25 = .ok (.aload_n 0, 1) := by decide +kernel
theorem dX11_reissue_26 : decode cX11_reissue 26 = .ok (.getfield 26, 3) := by decide +kernel
theorem dX11_reissue_29 : decode cX11_reissue 29 = .ok (.aload_n 0, 1) := by decide +kernel
theorem dX11_reissue_30 : decode cX11_reissue 30 = .ok (.getfield 12, 3) := by decide +kernel
theorem dX11_reissue_33 : decode cX11_reissue 33 = .ok (.invokevirtual 187, 3) := by decide +kernel
theorem dX11_reissue_36 : decode cX11_reissue 36 = .ok (.aload_n 2, 1) := by decide +kernel
theorem dX11_reissue_37 : decode cX11_reissue 37 = .ok (.invokevirtual 280, 3) := by decide +kernel
theorem dX11_reissue_40 : decode cX11_reissue 40 = .ok (.ifCond .eq 10, 3) := by decide +kernel
theorem dX11_reissue_43 : decode cX11_reissue 43 = .ok (.aload_n 0, 1) := by decide +kernel
theorem dX11_reissue_44 : decode cX11_reissue 44 = .ok (.invokevirtual 203, 3) := by decide +kernel
theorem dX11_reissue_47 : decode cX11_reissue 47 = .ok (.ifCond .ne 14, 3) := by decide +kernel
theorem dX11_reissue_50 : decode cX11_reissue 50 = .ok (.new 94, 3) := by decide +kernel
theorem dX11_reissue_53 : decode cX11_reissue 53 = .ok (.dup, 1) := by decide +kernel
theorem dX11_reissue_54 : decode cX11_reissue 54 = .ok (.ldc_w 296, 3) := by decide +kernel
theorem dX11_reissue_57 : decode cX11_reissue 57 = .ok (.invokespecial 98, 3) := by decide +kernel
theorem dX11_reissue_60 : decode cX11_reissue 60 = .ok (.athrow, 1) := by decide +kernel
theorem dX11_reissue_61 : decode cX11_reissue 61 = .ok (.aload_n 2, 1) := by decide +kernel
theorem dX11_reissue_62 : decode cX11_reissue 62 = .ok (.invokevirtual 285, 3) := by decide +kernel
theorem dX11_reissue_65 : decode cX11_reissue 65 = .ok (.aload_n 2, 1) := by decide +kernel
theorem dX11_reissue_66 : decode cX11_reissue 66 = .ok (.invokevirtual 290, 3) := by decide +kernel
theorem dX11_reissue_69 : decode cX11_reissue 69 = .ok (.iadd, 1) := by decide +kernel
theorem dX11_reissue_70 : decode cX11_reissue 70 = .ok (.istore_n 3, 1) := by decide +kernel
theorem dX11_reissue_71 : decode cX11_reissue 71 = .ok (.aload_n 2, 1) := by decide +kernel
theorem dX11_reissue_72 : decode cX11_reissue 72 = .ok (.aload_n 2, 1) := by decide +kernel
theorem dX11_reissue_73 : decode cX11_reissue 73 = .ok (.getfield 293, 3) := by decide +kernel
theorem dX11_reissue_76 : decode cX11_reissue 76 = .ok (.iconst 4, 1) := by decide +kernel
theorem dX11_reissue_77 : decode cX11_reissue 77 = .ok (.invokevirtual 245, 3) := by decide +kernel
theorem dX11_reissue_80 : decode cX11_reissue 80 = .ok (.aload_n 0, 1) := by decide +kernel
theorem dX11_reissue_81 : decode cX11_reissue 81 = .ok (.aload_n 2, 1) := by decide +kernel
theorem dX11_reissue_82 : decode cX11_reissue 82 = .ok (.getfield 249, 3) := by decide +kernel
theorem dX11_reissue_85 : decode cX11_reissue 85 = .ok (.invokevirtual 209, 3) := by decide +kernel
theorem dX11_reissue_88 : decode cX11_reissue 88 = .ok (.astore 4, 2) := by decide +kernel
theorem dX11_reissue_90 : decode cX11_reissue 90 = .ok (.aload 4, 2) := by decide +kernel
theorem dX11_reissue_92 : decode cX11_reissue 92 = .ok (.getfield 213, 3) := by decide +kernel
theorem dX11_reissue_95 : decode cX11_reissue 95 = .ok (.aload 4, 2) := by decide +kernel
theorem dX11_reissue_97 : decode cX11_reissue 97 = .ok (.getfield 216, 3) := by decide +kernel
theorem dX11_reissue_100 : decode cX11_reissue 100 = .ok (.iadd, 1) := by decide +kernel
theorem dX11_reissue_101 : decode cX11_reissue 101 = .ok (.iload_n 3, 1) := by decide +kernel
theorem dX11_reissue_102 : decode cX11_reissue 102 = .ok (.isub, 1) := by decide +kernel
theorem dX11_reissue_103 : decode cX11_reissue 103 = .ok (.istore 5, 2) := by decide +kernel
theorem dX11_reissue_105 : decode cX11_reissue 105 = .ok (.aload_n 0, 1) := by decide +kernel
theorem dX11_reissue_106 : decode cX11_reissue 106 = .ok (.aload 4, 2) := by decide +kernel
theorem dX11_reissue_108 : decode cX11_reissue 108 = .ok (.iload 5, 2) := by decide +kernel
theorem dX11_reissue_110 : decode cX11_reissue 110 = .ok (.invokevirtual 219, 3) := by decide +kernel
theorem dX11_reissue_113 : decode cX11_reissue 113 = .ok (.iload 5, 2) := by decide +kernel
theorem dX11_reissue_115 : decode cX11_reissue 115 = .ok (.ireturn, 1) := by decide +kernel
theorem dX11_pass_0 : decode cX11_pass 0 = .ok (.iload_n 1, 1) := by decide +kernel
theorem dX11_pass_1 : decode cX11_pass 1 = .ok (.iconst 1, 1) := by decide +kernel
theorem dX11_pass_2 : decode cX11_pass 2 = .ok (.bipush 100, 2) := by decide +kernel
theorem dX11_pass_4 : decode cX11_pass 4 = .ok (.invokestatic 68, 3) := by decide +kernel
theorem dX11_pass_7 : decode cX11_pass 7 = .ok (.ifCond .ne 14, 3) := by decide +kernel
theorem dX11_pass_10 : decode cX11_pass 10 = .ok (.new 72, 3) := by decide +kernel
theorem dX11_pass_13 : decode cX11_pass 13 = .ok (.dup, 1) := by decide +kernel
theorem dX11_pass_14 : decode cX11_pass 14 = .ok (.ldc_w 298, 3) := by decide +kernel
theorem dX11_pass_17 : decode cX11_pass 17 = .ok (.invokespecial 76, 3) := by decide +kernel
theorem dX11_pass_20 : decode cX11_pass 20 = .ok (.athrow, 1) := by decide +kernel
theorem dX11_pass_21 : decode cX11_pass 21 = .ok (.aload_n 0, 1) := by decide +kernel
theorem dX11_pass_22 : decode cX11_pass 22 = .ok (.getfield 12, 3) := by decide +kernel
theorem dX11_pass_25 : decode cX11_pass 25 = .ok (.getfield 154, 3) := by decide +kernel
theorem dX11_pass_28 : decode cX11_pass 28 = .ok (.iload_n 1, 1) := by decide +kernel
theorem dX11_pass_29 : decode cX11_pass 29 = .ok (.iadd, 1) := by decide +kernel
theorem dX11_pass_30 : decode cX11_pass 30 = .ok (.sipush 999, 3) := by decide +kernel
theorem dX11_pass_33 : decode cX11_pass 33 = .ok (.if_icmp .le 14, 3) := by decide +kernel
theorem dX11_pass_36 : decode cX11_pass 36 = .ok (.new 94, 3) := by decide +kernel
theorem dX11_pass_39 : decode cX11_pass 39 = .ok (.dup, 1) := by decide +kernel
theorem dX11_pass_40 : decode cX11_pass 40 = .ok (.ldc_w 300, 3) := by decide +kernel
theorem dX11_pass_43 : decode cX11_pass 43 = .ok (.invokespecial 98, 3) := by decide +kernel
theorem dX11_pass_46 : decode cX11_pass 46 = .ok (.athrow, 1) := by decide +kernel
theorem dX11_pass_47 : decode cX11_pass 47 = .ok (.aload_n 0, 1) := by decide +kernel
theorem dX11_pass_48 : decode cX11_pass 48 = .ok (.getfield 12, 3) := by decide +kernel
theorem dX11_pass_51 : decode cX11_pass 51 = .ok (.dup, 1) := by decide +kernel
theorem dX11_pass_52 : decode cX11_pass 52 = .ok (.getfield 154, 3) := by decide +kernel
theorem dX11_pass_55 : decode cX11_pass 55 = .ok (.iload_n 1, 1) := by decide +kernel
theorem dX11_pass_56 : decode cX11_pass 56 = .ok (.iadd, 1) := by decide +kernel
theorem dX11_pass_57 : decode cX11_pass 57 = .ok (.putfield 154, 3) := by decide +kernel
theorem dX11_pass_60 : decode cX11_pass 60 = .ok (.aload_n 0, 1) := by decide +kernel
theorem dX11_pass_61 : decode cX11_pass 61 = .ok (.getfield 12, 3) := by decide +kernel
theorem dX11_pass_64 : decode cX11_pass 64 = .ok (.getfield 154, 3) := by decide +kernel
theorem dX11_pass_67 : decode cX11_pass 67 = .ok (.ireturn, 1) := by decide +kernel
theorem dX11_clear_0 : decode cX11_clear 0 = .ok (.aload_n 0, 1) := by decide +kernel
theorem dX11_clear_1 : decode cX11_clear 1 = .ok (.getfield 40, 3) := by decide +kernel
theorem dX11_clear_4 : decode cX11_clear 4 = .ok (.invokevirtual 302, 3) := by decide +kernel
theorem dX11_clear_7 : decode cX11_clear 7 = .ok (.aload_n 0, 1) := by decide +kernel
theorem dX11_clear_8 : decode cX11_clear 8 = .ok (.invokevirtual 305, 3) := by decide +kernel
theorem dX11_clear_11 : decode cX11_clear 11 = .ok (.aload_n 0, 1) := by decide +kernel
theorem dX11_clear_12 : decode cX11_clear 12 = .ok (.getfield 40, 3) := by decide +kernel
theorem dX11_clear_15 : decode cX11_clear 15 = .ok (.invokevirtual 308, 3) := by decide +kernel
theorem dX11_clear_18 : decode cX11_clear 18 = .ok (.lreturn, 1) := by decide +kernel
theorem dX11_reject_0 : decode cX11_reject 0 = .ok (.aload_n 0, 1) := by decide +kernel
theorem dX11_reject_1 : decode cX11_reject 1 = .ok (.getfield 40, 3) := by decide +kernel
theorem dX11_reject_4 : decode cX11_reject 4 = .ok (.iload_n 1, 1) := by decide +kernel
theorem dX11_reject_5 : decode cX11_reject 5 = .ok (.invokevirtual 312, 3) := by decide +kernel
theorem dX11_reject_8 : decode cX11_reject 8 = .ok (.astore_n 2, 1) := by decide +kernel
theorem dX11_reject_9 : decode cX11_reject 9 = .ok (.aload_n 2, 1) := by decide +kernel
theorem dX11_reject_10 : decode cX11_reject 10 = .ok (.ifnonnull 14, 3) := by decide +kernel
theorem dX11_reject_13 : decode cX11_reject 13 = .ok (.new 61, 3) := by decide +kernel
theorem dX11_reject_16 : decode cX11_reject 16 = .ok (.dup, 1) := by decide +kernel
theorem dX11_reject_17 : decode cX11_reject 17 = .ok (.ldc_w 316, 3) := by decide +kernel
theorem dX11_reject_20 : decode cX11_reject 20 = .ok (.invokespecial 65, 3) := by decide +kernel
theorem dX11_reject_23 : decode cX11_reject 23 = .ok (.athrow, 1) := by decide +kernel
theorem dX11_reject_24 : decode cX11_reject 24 = .ok (.aload_n 2, 1) := by decide +kernel
theorem dX11_reject_25 : decode cX11_reject 25 = .ok (.getfield 318, 3) := by decide +kernel
theorem dX11_reject_28 : decode cX11_reject 28 = .ok (.iconst 1, 1) := by decide +kernel
theorem dX11_reject_29 : decode cX11_reject 29 = .ok (.if_icmp .ne 19, 3) := by decide +kernel
theorem dX11_reject_32 : decode cX11_reject 32 = .ok (.aload_n 2, 1) := by decide +kernel
theorem dX11_reject_33 : decode cX11_reject 33 = .ok (.getfield 321, 3) := by decide +kernel
theorem dX11_reject_36 : decode cX11_reject 36 = .ok (.aload_n 0, 1) := by decide +kernel
theorem dX11_reject_37 : decode cX11_reject 37 = .ok (.getfield 40, 3) := by decide +kernel
theorem dX11_reject_40 : decode cX11_reject 40 = .ok (.getfield 324, 3) := by decide +kernel
theorem dX11_reject_43 : decode cX11_reject 43 = .ok (.iconst 1, 1) := by decide +kernel
theorem dX11_reject_44 : decode cX11_reject 44 = .ok (.isub, 1) := by decide +kernel
theorem dX11_reject_45 : decode cX11_reject 45 = .ok (.if_icmp .ge 14, 3) := by decide +kernel
theorem dX11_reject_48 : decode cX11_reject 48 = .ok (.new 94, 3) := by decide +kernel
theorem dX11_reject_51 : decode cX11_reject 51 = .ok (.dup, 1) := by decide +kernel
theorem dX11_reject_52 : decode cX11_reject 52 = .ok (.ldc_w 327, 3) := by decide +kernel
theorem dX11_reject_55 : decode cX11_reject 55 = .ok (.invokespecial 98, 3) := by decide +kernel
theorem dX11_reject_58 : decode cX11_reject 58 = .ok (.athrow, 1) := by decide +kernel
theorem dX11_reject_59 : decode cX11_reject 59 = .ok (.aload_n 2, 1) := by decide +kernel
theorem dX11_reject_60 : decode cX11_reject 60 = .ok (.iconst 2, 1) := by decide +kernel
theorem dX11_reject_61 : decode cX11_reject 61 = .ok (.putfield 318, 3) := by decide +kernel
theorem dX11_reject_64 : decode cX11_reject 64 = .ok (.aload_n 2, 1) := by decide +kernel
theorem dX11_reject_65 : decode cX11_reject 65 = .ok (.dup, 1) := by decide +kernel
theorem dX11_reject_66 : decode cX11_reject 66 = .ok (.getfield 329, 3) := by decide +kernel
theorem dX11_reject_69 : decode cX11_reject 69 = .ok (.iconst 1, 1) := by decide +kernel
theorem dX11_reject_70 : decode cX11_reject 70 = .ok (.iadd, 1) := by decide +kernel
theorem dX11_reject_71 : decode cX11_reject 71 = .ok (.putfield 329, 3) := by decide +kernel
theorem dX11_reject_74 : decode cX11_reject 74 = .ok (.aload_n 2, 1) := by decide +kernel
theorem dX11_reject_75 : decode cX11_reject 75 = .ok (.getfield 329, 3) := by decide +kernel
theorem dX11_reject_78 : decode cX11_reject 78 = .ok (.ireturn, 1) := by decide +kernel
theorem dX11_rebill_0 : decode cX11_rebill 0 = .ok (.aload_n 0, 1) := by decide +kernel
theorem dX11_rebill_1 : decode cX11_rebill 1 = .ok (.getfield 40, 3) := by decide +kernel
theorem dX11_rebill_4 : decode cX11_rebill 4 = .ok (.iload_n 1, 1) := by decide +kernel
theorem dX11_rebill_5 : decode cX11_rebill 5 = .ok (.invokevirtual 312, 3) := by decide +kernel
theorem dX11_rebill_8 : decode cX11_rebill 8 = .ok (.astore_n 2, 1) := by decide +kernel
theorem dX11_rebill_9 : decode cX11_rebill 9 = .ok (.aload_n 2, 1) := by decide +kernel
theorem dX11_rebill_10 : decode cX11_rebill 10 = .ok (.ifnonnull 14, 3) := by decide +kernel
theorem dX11_rebill_13 : decode cX11_rebill 13 = .ok (.new 61, 3) := by decide +kernel
theorem dX11_rebill_16 : decode cX11_rebill 16 = .ok (.dup, 1) := by decide +kernel
theorem dX11_rebill_17 : decode cX11_rebill 17 = .ok (.ldc_w 316, 3) := by decide +kernel
theorem dX11_rebill_20 : decode cX11_rebill 20 = .ok (.invokespecial 65, 3) := by decide +kernel
theorem dX11_rebill_23 : decode cX11_rebill 23 = .ok (.athrow, 1) := by decide +kernel
theorem dX11_rebill_24 : decode cX11_rebill 24 = .ok (.aload_n 2, 1) := by decide +kernel
theorem dX11_rebill_25 : decode cX11_rebill 25 = .ok (.getfield 318, 3) := by decide +kernel
theorem dX11_rebill_28 : decode cX11_rebill 28 = .ok (.iconst 3, 1) := by decide +kernel
theorem dX11_rebill_29 : decode cX11_rebill 29 = .ok (.if_icmp .eq 14, 3) := by decide +kernel
theorem dX11_rebill_32 : decode cX11_rebill 32 = .ok (.new 94, 3) := by decide +kernel
theorem dX11_rebill_35 : decode cX11_rebill 35 = .ok (.dup, 1) := by decide +kernel
theorem dX11_rebill_36 : decode cX11_rebill 36 = .ok (.ldc_w 332, 3) := by decide +kernel
theorem dX11_rebill_39 : decode cX11_rebill 39 = .ok (.invokespecial 98, 3) := by decide +kernel
theorem dX11_rebill_42 : decode cX11_rebill 42 = .ok (.athrow, 1) := by decide +kernel
theorem dX11_rebill_43 : decode cX11_rebill 43 = .ok (.aload_n 2, 1) := by decide +kernel
theorem dX11_rebill_44 : decode cX11_rebill 44 = .ok (.iconst 0, 1) := by decide +kernel
theorem dX11_rebill_45 : decode cX11_rebill 45 = .ok (.putfield 318, 3) := by decide +kernel
theorem dX11_rebill_48 : decode cX11_rebill 48 = .ok (.return_, 1) := by decide +kernel
theorem dX11_fails_0 : decode cX11_fails 0 = .ok (.iload_n 1, 1) := by decide +kernel
theorem dX11_fails_1 : decode cX11_fails 1 = .ok (.invokestatic 136, 3) := by decide +kernel
theorem dX11_fails_4 : decode cX11_fails 4 = .ok (.ifCond .ne 13, 3) := by decide +kernel
theorem dX11_fails_7 : decode cX11_fails 7 = .ok (.new 61, 3) := by decide +kernel
theorem dX11_fails_10 : decode cX11_fails 10 = .ok (.dup, 1) := by decide +kernel
theorem dX11_fails_11 : decode cX11_fails 11 = .ok (.ldc 201, 2) := by decide +kernel
theorem dX11_fails_13 : decode cX11_fails 13 = .ok (.invokespecial 65, 3) := by decide +kernel
theorem dX11_fails_16 : decode cX11_fails 16 = .ok (.athrow, 1) := by decide +kernel
theorem dX11_fails_17 : decode cX11_fails 17 = .ok (.aload_n 0, 1) := by decide +kernel
theorem dX11_fails_18 : decode cX11_fails 18 = .ok (.getfield 40, 3) := by decide +kernel
theorem dX11_fails_21 : decode cX11_fails 21 = .ok (.iload_n 1, 1) := by decide +kernel
theorem dX11_fails_22 : decode cX11_fails 22 = .ok (.invokevirtual 334, 3) := by decide +kernel
theorem dX11_fails_25 : decode cX11_fails 25 = .ok (.istore_n 3, 1) := by decide +kernel
theorem dX11_fails_26 : decode cX11_fails 26 = .ok (.aload_n 0, 1) := by decide +kernel
theorem dX11_fails_27 : decode cX11_fails 27 = .ok (.getfield 40, 3) := by decide +kernel
theorem dX11_fails_30 : decode cX11_fails 30 = .ok (.iload_n 1, 1) := by decide +kernel
theorem dX11_fails_31 : decode cX11_fails 31 = .ok (.iload_n 2, 1) := by decide +kernel
theorem dX11_fails_32 : decode cX11_fails 32 = .ok (.invokevirtual 337, 3) := by decide +kernel
theorem dX11_fails_35 : decode cX11_fails 35 = .ok (.iload_n 3, 1) := by decide +kernel
theorem dX11_fails_36 : decode cX11_fails 36 = .ok (.ifCond .ne 7, 3) := by decide +kernel
theorem dX11_fails_39 : decode cX11_fails 39 = .ok (.iload_n 2, 1) := by decide +kernel
theorem dX11_fails_40 : decode cX11_fails 40 = .ok (.ifCond .ne 5, 3) := by decide +kernel
theorem dX11_fails_43 : decode cX11_fails 43 = .ok (.iconst 0, 1) := by decide +kernel
theorem dX11_fails_44 : decode cX11_fails 44 = .ok (.ireturn, 1) := by decide +kernel
theorem dX11_fails_45 : decode cX11_fails 45 = .ok (.aload_n 0, 1) := by decide +kernel
theorem dX11_fails_46 : decode cX11_fails 46 = .ok (.getfield 40, 3) := by decide +kernel
theorem dX11_fails_49 : decode cX11_fails 49 = .ok (.iload_n 1, 1) := by decide +kernel
theorem dX11_fails_50 : decode cX11_fails 50 = .ok (.invokevirtual 341, 3) := by decide +kernel
theorem dX11_fails_53 : decode cX11_fails 53 = .ok (.istore 4, 2) := by decide +kernel
theorem dX11_fails_55 : decode cX11_fails 55 = .ok (.aload_n 0, 1) := by decide +kernel
theorem dX11_fails_56 : decode cX11_fails 56 = .ok (.invokevirtual 305, 3) := by decide +kernel
theorem dX11_fails_59 : decode cX11_fails 59 = .ok (.iload 4, 2) := by decide +kernel
theorem dX11_fails_61 : decode cX11_fails 61 = .ok (.ireturn, 1) := by decide +kernel
theorem dX11_ofTicket_0 : decode cX11_ofTicket 0 = .ok (.aload_n 0, 1) := by decide +kernel
theorem dX11_ofTicket_1 : decode cX11_ofTicket 1 = .ok (.iload_n 1, 1) := by decide +kernel
theorem dX11_ofTicket_2 : decode cX11_ofTicket 2 = .ok (.invokevirtual 226, 3) := by decide +kernel
theorem dX11_ofTicket_5 : decode cX11_ofTicket 5 = .ok (.astore_n 3, 1) := by decide +kernel
theorem dX11_ofTicket_6 : decode cX11_ofTicket 6 = .ok (.aload_n 3, 1) := by decide +kernel
theorem dX11_ofTicket_7 : decode cX11_ofTicket 7 = .ok (.ifnonnull 14, 3) := by decide +kernel
theorem dX11_ofTicket_10 : decode cX11_ofTicket 10 = .ok (.new 61, 3) := by decide +kernel
theorem dX11_ofTicket_13 : decode cX11_ofTicket 13 = .ok (.dup, 1) := by decide +kernel
theorem dX11_ofTicket_14 : decode cX11_ofTicket 14 = .ok (.ldc_w 278, 3) := by decide +kernel
theorem dX11_ofTicket_17 : decode cX11_ofTicket 17 = .ok (.invokespecial 65, 3) := by decide +kernel
theorem dX11_ofTicket_20 : decode cX11_ofTicket 20 = .ok (.athrow, 1) := by decide +kernel
theorem dX11_ofTicket_21 : decode cX11_ofTicket 21 = .ok (.iload_n 2, 1) := by decide +kernel
theorem dX11_ofTicket_22 : decode cX11_ofTicket 22 = .ok (.tableswitch 68 0 5 #[38, 43, 48, 53, 58, 63], 38) := by decide +kernel
theorem dX11_ofTicket_60 : decode cX11_ofTicket 60 = .ok (.aload_n 3, 1) := by decide +kernel
theorem dX11_ofTicket_61 : decode cX11_ofTicket 61 = .ok (.getfield 213, 3) := by decide +kernel
theorem dX11_ofTicket_64 : decode cX11_ofTicket 64 = .ok (.ireturn, 1) := by decide +kernel
theorem dX11_ofTicket_65 : decode cX11_ofTicket 65 = .ok (.aload_n 3, 1) := by decide +kernel
theorem dX11_ofTicket_66 : decode cX11_ofTicket 66 = .ok (.getfield 216, 3) := by decide +kernel
theorem dX11_ofTicket_69 : decode cX11_ofTicket 69 = .ok (.ireturn, 1) := by decide +kernel
theorem dX11_ofTicket_70 : decode cX11_ofTicket 70 = .ok (.aload_n 3, 1) := by decide +kernel
theorem dX11_ofTicket_71 : decode cX11_ofTicket 71 = .ok (.getfield 249, 3) := by decide +kernel
theorem dX11_ofTicket_74 : decode cX11_ofTicket 74 = .ok (.ireturn, 1) := by decide +kernel
theorem dX11_ofTicket_75 : decode cX11_ofTicket 75 = .ok (.aload_n 3, 1) := by decide +kernel
theorem dX11_ofTicket_76 : decode cX11_ofTicket 76 = .ok (.getfield 293, 3) := by decide +kernel
theorem dX11_ofTicket_79 : decode cX11_ofTicket 79 = .ok (.ireturn, 1) := by decide +kernel
theorem dX11_ofTicket_80 : decode cX11_ofTicket 80 = .ok (.aload_n 3, 1) := by decide +kernel
theorem dX11_ofTicket_81 : decode cX11_ofTicket 81 = .ok (.getfield 345, 3) := by decide +kernel
theorem dX11_ofTicket_84 : decode cX11_ofTicket 84 = .ok (.ireturn, 1) := by decide +kernel
theorem dX11_ofTicket_85 : decode cX11_ofTicket 85 = .ok (.aload_n 3, 1) := by decide +kernel
theorem dX11_ofTicket_86 : decode cX11_ofTicket 86 = .ok (.getfield 348, 3) := by decide +kernel
theorem dX11_ofTicket_89 : decode cX11_ofTicket 89 = .ok (.ireturn, 1) := by decide +kernel
theorem dX11_ofTicket_90 : decode cX11_ofTicket 90 = .ok (.new 72, 3) := by decide +kernel
theorem dX11_ofTicket_93 : decode cX11_ofTicket 93 = .ok (.dup, 1) := by decide +kernel
theorem dX11_ofTicket_94 : decode cX11_ofTicket 94 = .ok (.ldc_w 351, 3) := by decide +kernel
theorem dX11_ofTicket_97 : decode cX11_ofTicket 97 = .ok (.invokespecial 76, 3) := by decide +kernel
theorem dX11_ofTicket_100 : decode cX11_ofTicket 100 = .ok (.athrow, 1) := by decide +kernel
theorem dX11_ofCoupon_0 : decode cX11_ofCoupon 0 = .ok (.aload_n 0, 1) := by decide +kernel
theorem dX11_ofCoupon_1 : decode cX11_ofCoupon 1 = .ok (.iload_n 1, 1) := by decide +kernel
theorem dX11_ofCoupon_2 : decode cX11_ofCoupon 2 = .ok (.invokevirtual 226, 3) := by decide +kernel
theorem dX11_ofCoupon_5 : decode cX11_ofCoupon 5 = .ok (.astore 4, 2) := by decide +kernel
theorem dX11_ofCoupon_7 : decode cX11_ofCoupon 7 = .ok (.aload 4, 2) := by decide +kernel
theorem dX11_ofCoupon_9 : decode cX11_ofCoupon 9 = .ok (.ifnonnull 7, 3) := by decide +kernel
theorem dX11_ofCoupon_12 : decode cX11_ofCoupon 12 = .ok (.aconst_null, 1) := by decide +kernel
theorem dX11_ofCoupon_13 : decode cX11_ofCoupon 13 = .ok (.goto 9, 3) := by decide +kernel
theorem dX11_ofCoupon_16 : decode cX11_ofCoupon 16 = .ok (.aload 4, 2) := by decide +kernel
theorem dX11_ofCoupon_18 : decode cX11_ofCoupon 18 = .ok (.iload_n 2, 1) := by decide +kernel
theorem dX11_ofCoupon_19 : decode cX11_ofCoupon 19 = .ok (.invokevirtual 229, 3) := by decide +kernel
theorem dX11_ofCoupon_22 : decode cX11_ofCoupon 22 = .ok (.astore 5, 2) := by decide +kernel
theorem dX11_ofCoupon_24 : decode cX11_ofCoupon 24 = .ok (.aload 5, 2) := by decide +kernel
theorem dX11_ofCoupon_26 : decode cX11_ofCoupon 26 = .ok (.ifnonnull 13, 3) := by decide +kernel
theorem dX11_ofCoupon_29 : decode cX11_ofCoupon 29 = .ok (.new 61, 3) := by decide +kernel
theorem dX11_ofCoupon_32 : decode cX11_ofCoupon 32 = .ok (.dup, 1) := by decide +kernel
theorem dX11_ofCoupon_33 : decode cX11_ofCoupon 33 = .ok (.ldc 233, 2) := by decide +kernel
theorem dX11_ofCoupon_35 : decode cX11_ofCoupon 35 = .ok (.invokespecial 65, 3) := by decide +kernel
theorem dX11_ofCoupon_38 : decode cX11_ofCoupon 38 = .ok (.athrow, 1) := by decide +kernel
theorem dX11_ofCoupon_39 : decode cX11_ofCoupon 39 = .ok (.iload_n 3, 1) := by decide +kernel
theorem dX11_ofCoupon_40 : decode cX11_ofCoupon 40 = .ok (.tableswitch 76 0 5 #[40, 46, 52, 58, 64, 70], 40) := by decide +kernel
theorem dX11_ofCoupon_80 : decode cX11_ofCoupon 80 = .ok (.aload 5, 2) := by decide +kernel
theorem dX11_ofCoupon_82 : decode cX11_ofCoupon 82 = .ok (.getfield 235, 3) := by decide +kernel
theorem dX11_ofCoupon_85 : decode cX11_ofCoupon 85 = .ok (.ireturn, 1) := by decide +kernel
theorem dX11_ofCoupon_86 : decode cX11_ofCoupon 86 = .ok (.aload 5, 2) := by decide +kernel
theorem dX11_ofCoupon_88 : decode cX11_ofCoupon 88 = .ok (.getfield 265, 3) := by decide +kernel
theorem dX11_ofCoupon_91 : decode cX11_ofCoupon 91 = .ok (.ireturn, 1) := by decide +kernel
theorem dX11_ofCoupon_92 : decode cX11_ofCoupon 92 = .ok (.aload 5, 2) := by decide +kernel
theorem dX11_ofCoupon_94 : decode cX11_ofCoupon 94 = .ok (.getfield 252, 3) := by decide +kernel
theorem dX11_ofCoupon_97 : decode cX11_ofCoupon 97 = .ok (.ireturn, 1) := by decide +kernel
theorem dX11_ofCoupon_98 : decode cX11_ofCoupon 98 = .ok (.aload 5, 2) := by decide +kernel
theorem dX11_ofCoupon_100 : decode cX11_ofCoupon 100 = .ok (.getfield 262, 3) := by decide +kernel
theorem dX11_ofCoupon_103 : decode cX11_ofCoupon 103 = .ok (.ireturn, 1) := by decide +kernel
theorem dX11_ofCoupon_104 : decode cX11_ofCoupon 104 = .ok (.aload 5, 2) := by decide +kernel
theorem dX11_ofCoupon_106 : decode cX11_ofCoupon 106 = .ok (.getfield 240, 3) := by decide +kernel
theorem dX11_ofCoupon_109 : decode cX11_ofCoupon 109 = .ok (.ireturn, 1) := by decide +kernel
theorem dX11_ofCoupon_110 : decode cX11_ofCoupon 110 = .ok (.aload 5, 2) := by decide +kernel
theorem dX11_ofCoupon_112 : decode cX11_ofCoupon 112 = .ok (.getfield 271, 3) := by decide +kernel
theorem dX11_ofCoupon_115 : decode cX11_ofCoupon 115 = .ok (.ireturn, 1) := by decide +kernel
theorem dX11_ofCoupon_116 : decode cX11_ofCoupon 116 = .ok (.new 72, 3) := by decide +kernel
theorem dX11_ofCoupon_119 : decode cX11_ofCoupon 119 = .ok (.dup, 1) := by decide +kernel
theorem dX11_ofCoupon_120 : decode cX11_ofCoupon 120 = .ok (.ldc_w 351, 3) := by decide +kernel
theorem dX11_ofCoupon_123 : decode cX11_ofCoupon 123 = .ok (.invokespecial 76, 3) := by decide +kernel
theorem dX11_ofCoupon_126 : decode cX11_ofCoupon 126 = .ok (.athrow, 1) := by decide +kernel
theorem dX11_ofBill_0 : decode cX11_ofBill 0 = .ok (.aload_n 0, 1) := by decide +kernel
theorem dX11_ofBill_1 : decode cX11_ofBill 1 = .ok (.getfield 40, 3) := by decide +kernel
theorem dX11_ofBill_4 : decode cX11_ofBill 4 = .ok (.iload_n 1, 1) := by decide +kernel
theorem dX11_ofBill_5 : decode cX11_ofBill 5 = .ok (.invokevirtual 312, 3) := by decide +kernel
theorem dX11_ofBill_8 : decode cX11_ofBill 8 = .ok (.astore_n 3, 1) := by decide +kernel
theorem dX11_ofBill_9 : decode cX11_ofBill 9 = .ok (.aload_n 3, 1) := by decide +kernel
theorem dX11_ofBill_10 : decode cX11_ofBill 10 = .ok (.ifnonnull 14, 3) := by decide +kernel
theorem dX11_ofBill_13 : decode cX11_ofBill 13 = .ok (.new 61, 3) := by decide +kernel
theorem dX11_ofBill_16 : decode cX11_ofBill 16 = .ok (.dup, 1) := by decide +kernel
theorem dX11_ofBill_17 : decode cX11_ofBill 17 = .ok (.ldc_w 316, 3) := by decide +kernel
theorem dX11_ofBill_20 : decode cX11_ofBill 20 = .ok (.invokespecial 65, 3) := by decide +kernel
theorem dX11_ofBill_23 : decode cX11_ofBill 23 = .ok (.athrow, 1) := by decide +kernel
theorem dX11_ofBill_24 : decode cX11_ofBill 24 = .ok (.iload_n 2, 1) := by decide +kernel
theorem dX11_ofBill_25 : decode cX11_ofBill 25 = .ok (.tableswitch 69 0 5 #[39, 44, 49, 54, 59, 64], 39) := by decide +kernel
theorem dX11_ofBill_64 : decode cX11_ofBill 64 = .ok (.aload_n 3, 1) := by decide +kernel
theorem dX11_ofBill_65 : decode cX11_ofBill 65 = .ok (.getfield 318, 3) := by decide +kernel
theorem dX11_ofBill_68 : decode cX11_ofBill 68 = .ok (.ireturn, 1) := by decide +kernel
theorem dX11_ofBill_69 : decode cX11_ofBill 69 = .ok (.aload_n 3, 1) := by decide +kernel
theorem dX11_ofBill_70 : decode cX11_ofBill 70 = .ok (.getfield 353, 3) := by decide +kernel
theorem dX11_ofBill_73 : decode cX11_ofBill 73 = .ok (.ireturn, 1) := by decide +kernel
theorem dX11_ofBill_74 : decode cX11_ofBill 74 = .ok (.aload_n 3, 1) := by decide +kernel
theorem dX11_ofBill_75 : decode cX11_ofBill 75 = .ok (.getfield 356, 3) := by decide +kernel
theorem dX11_ofBill_78 : decode cX11_ofBill 78 = .ok (.ireturn, 1) := by decide +kernel
theorem dX11_ofBill_79 : decode cX11_ofBill 79 = .ok (.aload_n 3, 1) := by decide +kernel
theorem dX11_ofBill_80 : decode cX11_ofBill 80 = .ok (.getfield 359, 3) := by decide +kernel
theorem dX11_ofBill_83 : decode cX11_ofBill 83 = .ok (.ireturn, 1) := by decide +kernel
theorem dX11_ofBill_84 : decode cX11_ofBill 84 = .ok (.aload_n 3, 1) := by decide +kernel
theorem dX11_ofBill_85 : decode cX11_ofBill 85 = .ok (.getfield 329, 3) := by decide +kernel
theorem dX11_ofBill_88 : decode cX11_ofBill 88 = .ok (.ireturn, 1) := by decide +kernel
theorem dX11_ofBill_89 : decode cX11_ofBill 89 = .ok (.aload_n 3, 1) := by decide +kernel
theorem dX11_ofBill_90 : decode cX11_ofBill 90 = .ok (.getfield 321, 3) := by decide +kernel
theorem dX11_ofBill_93 : decode cX11_ofBill 93 = .ok (.ireturn, 1) := by decide +kernel
theorem dX11_ofBill_94 : decode cX11_ofBill 94 = .ok (.new 72, 3) := by decide +kernel
theorem dX11_ofBill_97 : decode cX11_ofBill 97 = .ok (.dup, 1) := by decide +kernel
theorem dX11_ofBill_98 : decode cX11_ofBill 98 = .ok (.ldc_w 351, 3) := by decide +kernel
theorem dX11_ofBill_101 : decode cX11_ofBill 101 = .ok (.invokespecial 76, 3) := by decide +kernel
theorem dX11_ofBill_104 : decode cX11_ofBill 104 = .ok (.athrow, 1) := by decide +kernel
theorem dX11_cash_0 : decode cX11_cash 0 = .ok (.iload_n 1, 1) := by decide +kernel
theorem dX11_cash_1 : decode cX11_cash 1 = .ok (.invokestatic 136, 3) := by decide +kernel
theorem dX11_cash_4 : decode cX11_cash 4 = .ok (.ifCond .ne 13, 3) := by decide +kernel
theorem dX11_cash_7 : decode cX11_cash 7 = .ok (.new 61, 3) := by decide +kernel
theorem dX11_cash_10 : decode cX11_cash 10 = .ok (.dup, 1) := by decide +kernel
theorem dX11_cash_11 : decode cX11_cash 11 = .ok (.ldc 201, 2) := by decide +kernel
theorem dX11_cash_13 : decode cX11_cash 13 = .ok (.invokespecial 65, 3) := by decide +kernel
theorem dX11_cash_16 : decode cX11_cash 16 = .ok (.athrow, 1) := by decide +kernel
theorem dX11_cash_17 : decode cX11_cash 17 = .ok (.aload_n 0, 1) := by decide +kernel
theorem dX11_cash_18 : decode cX11_cash 18 = .ok (.getfield 50, 3) := by decide +kernel
theorem dX11_cash_21 : decode cX11_cash 21 = .ok (.iload_n 1, 1) := by decide +kernel
theorem dX11_cash_22 : decode cX11_cash 22 = .ok (.laload, 1) := by decide +kernel
theorem dX11_cash_23 : decode cX11_cash 23 = .ok (.lreturn, 1) := by decide +kernel
theorem dX11_cashAnew_0 : decode cX11_cashAnew 0 = .ok (.iload_n 1, 1) := by decide +kernel
theorem dX11_cashAnew_1 : decode cX11_cashAnew 1 = .ok (.invokestatic 136, 3) := by decide +kernel
theorem dX11_cashAnew_4 : decode cX11_cashAnew 4 = .ok (.ifCond .ne 13, 3) := by decide +kernel
theorem dX11_cashAnew_7 : decode cX11_cashAnew 7 = .ok (.new 61, 3) := by decide +kernel
theorem dX11_cashAnew_10 : decode cX11_cashAnew 10 = .ok (.dup, 1) := by decide +kernel
theorem dX11_cashAnew_11 : decode cX11_cashAnew 11 = .ok (.ldc 201, 2) := by decide +kernel
theorem dX11_cashAnew_13 : decode cX11_cashAnew 13 = .ok (.invokespecial 65, 3) := by decide +kernel
theorem dX11_cashAnew_16 : decode cX11_cashAnew 16 = .ok (.athrow, 1) := by decide +kernel
theorem dX11_cashAnew_17 : decode cX11_cashAnew 17 = .ok (.aload_n 0, 1) := by decide +kernel
theorem dX11_cashAnew_18 : decode cX11_cashAnew 18 = .ok (.getfield 40, 3) := by decide +kernel
theorem dX11_cashAnew_21 : decode cX11_cashAnew 21 = .ok (.iload_n 1, 1) := by decide +kernel
theorem dX11_cashAnew_22 : decode cX11_cashAnew 22 = .ok (.invokevirtual 362, 3) := by decide +kernel
theorem dX11_cashAnew_25 : decode cX11_cashAnew 25 = .ok (.lstore_n 2, 1) := by decide +kernel
theorem dX11_cashAnew_26 : decode cX11_cashAnew 26 = .ok (.iconst 0, 1) := by decide +kernel
theorem dX11_cashAnew_27 : decode cX11_cashAnew 27 = .ok (.istore 4, 2) := by decide +kernel
theorem dX11_cashAnew_29 : decode cX11_cashAnew 29 = .ok (.iload 4, 2) := by decide +kernel
theorem dX11_cashAnew_31 : decode cX11_cashAnew 31 = .ok (.aload_n 0, 1) := by decide +kernel
theorem dX11_cashAnew_32 : decode cX11_cashAnew 32 = .ok (.getfield 223, 3) := by decide +kernel
theorem dX11_cashAnew_35 : decode cX11_cashAnew 35 = .ok (.if_icmp .ge 46, 3) := by decide +kernel
theorem dX11_cashAnew_38 : decode cX11_cashAnew 38 = .ok (.aload_n 0, 1) := by decide +kernel
theorem dX11_cashAnew_39 : decode cX11_cashAnew 39 = .ok (.iload 4, 2) := by decide +kernel
theorem dX11_cashAnew_41 : decode cX11_cashAnew 41 = .ok (.invokevirtual 226, 3) := by decide +kernel
theorem dX11_cashAnew_44 : decode cX11_cashAnew 44 = .ok (.astore 5, 2) := by decide +kernel
theorem dX11_cashAnew_46 : decode cX11_cashAnew 46 = .ok (.aload 5, 2) := by decide +kernel
theorem dX11_cashAnew_48 : decode cX11_cashAnew 48 = .ok (.ifnull 27, 3) := by decide +kernel
theorem dX11_cashAnew_51 : decode cX11_cashAnew 51 = .ok (.aload 5, 2) := by decide +kernel
theorem dX11_cashAnew_53 : decode cX11_cashAnew 53 = .ok (.getfield 249, 3) := by decide +kernel
theorem dX11_cashAnew_56 : decode cX11_cashAnew 56 = .ok (.iload_n 1, 1) := by decide +kernel
theorem dX11_cashAnew_57 : decode cX11_cashAnew 57 = .ok (.if_icmp .ne 18, 3) := by decide +kernel
theorem dX11_cashAnew_60 : decode cX11_cashAnew 60 = .ok (.lload_n 2, 1) := by decide +kernel
theorem dX11_cashAnew_61 : decode cX11_cashAnew 61 = .ok (.aload 5, 2) := by decide +kernel
theorem dX11_cashAnew_63 : decode cX11_cashAnew 63 = .ok (.getfield 366, 3) := by decide +kernel
theorem dX11_cashAnew_66 : decode cX11_cashAnew 66 = .ok (.aload 5, 2) := by decide +kernel
theorem dX11_cashAnew_68 : decode cX11_cashAnew 68 = .ok (.invokevirtual 370, 3) := by decide +kernel
theorem dX11_cashAnew_71 : decode cX11_cashAnew 71 = .ok (.i2l, 1) := by decide +kernel
theorem dX11_cashAnew_72 : decode cX11_cashAnew 72 = .ok (.lsub, 1) := by decide +kernel
theorem dX11_cashAnew_73 : decode cX11_cashAnew 73 = .ok (.ladd, 1) := by decide +kernel
theorem dX11_cashAnew_74 : decode cX11_cashAnew 74 = .ok (.lstore_n 2, 1) := by decide +kernel
theorem dX11_cashAnew_75 : decode cX11_cashAnew 75 = .ok (.iinc 4 1, 3) := by decide +kernel
theorem dX11_cashAnew_78 : decode cX11_cashAnew 78 = .ok (.goto (-49), 3) := by decide +kernel
theorem dX11_cashAnew_81 : decode cX11_cashAnew 81 = .ok (.lload_n 2, 1) := by decide +kernel
theorem dX11_cashAnew_82 : decode cX11_cashAnew 82 = .ok (.lreturn, 1) := by decide +kernel
theorem dX11_state_0 : decode cX11_state 0 = .ok (.iload_n 1, 1) := by decide +kernel
theorem dX11_state_1 : decode cX11_state 1 = .ok (.invokestatic 57, 3) := by decide +kernel
theorem dX11_state_4 : decode cX11_state 4 = .ok (.ifCond .ne 13, 3) := by decide +kernel
theorem dX11_state_7 : decode cX11_state 7 = .ok (.new 61, 3) := by decide +kernel
theorem dX11_state_10 : decode cX11_state 10 = .ok (.dup, 1) := by decide +kernel
theorem dX11_state_11 : decode cX11_state 11 = .ok (.ldc 63, 2) := by decide +kernel
theorem dX11_state_13 : decode cX11_state 13 = .ok (.invokespecial 65, 3) := by decide +kernel
theorem dX11_state_16 : decode cX11_state 16 = .ok (.athrow, 1) := by decide +kernel
theorem dX11_state_17 : decode cX11_state 17 = .ok (.aload_n 0, 1) := by decide +kernel
theorem dX11_state_18 : decode cX11_state 18 = .ok (.getfield 54, 3) := by decide +kernel
theorem dX11_state_21 : decode cX11_state 21 = .ok (.iload_n 1, 1) := by decide +kernel
theorem dX11_state_22 : decode cX11_state 22 = .ok (.laload, 1) := by decide +kernel
theorem dX11_state_23 : decode cX11_state 23 = .ok (.lreturn, 1) := by decide +kernel
theorem dX11_paid_0 : decode cX11_paid 0 = .ok (.aload_n 0, 1) := by decide +kernel
theorem dX11_paid_1 : decode cX11_paid 1 = .ok (.getfield 373, 3) := by decide +kernel
theorem dX11_paid_4 : decode cX11_paid 4 = .ok (.lreturn, 1) := by decide +kernel
theorem dX11_of_0 : decode cX11_of 0 = .ok (.iload_n 1, 1) := by decide +kernel
theorem dX11_of_1 : decode cX11_of 1 = .ok (.tableswitch 84 0 5 #[39, 47, 55, 60, 68, 76], 39) := by decide +kernel
theorem dX11_of_40 : decode cX11_of 40 = .ok (.aload_n 0, 1) := by decide +kernel
theorem dX11_of_41 : decode cX11_of 41 = .ok (.getfield 12, 3) := by decide +kernel
theorem dX11_of_44 : decode cX11_of 44 = .ok (.getfield 154, 3) := by decide +kernel
theorem dX11_of_47 : decode cX11_of 47 = .ok (.ireturn, 1) := by decide +kernel
theorem dX11_of_48 : decode cX11_of 48 = .ok (.aload_n 0, 1) := by decide +kernel
theorem dX11_of_49 : decode cX11_of 49 = .ok (.getfield 26, 3) := by decide +kernel
theorem dX11_of_52 : decode cX11_of 52 = .ok (.getfield 376, 3) := by decide +kernel
theorem dX11_of_55 : decode cX11_of 55 = .ok (.ireturn, 1) := by decide +kernel
theorem dX11_of_56 : decode cX11_of 56 = .ok (.aload_n 0, 1) := by decide +kernel
theorem dX11_of_57 : decode cX11_of 57 = .ok (.getfield 223, 3) := by decide +kernel
theorem dX11_of_60 : decode cX11_of 60 = .ok (.ireturn, 1) := by decide +kernel
theorem dX11_of_61 : decode cX11_of 61 = .ok (.aload_n 0, 1) := by decide +kernel
theorem dX11_of_62 : decode cX11_of 62 = .ok (.getfield 40, 3) := by decide +kernel
theorem dX11_of_65 : decode cX11_of 65 = .ok (.getfield 377, 3) := by decide +kernel
theorem dX11_of_68 : decode cX11_of 68 = .ok (.ireturn, 1) := by decide +kernel
theorem dX11_of_69 : decode cX11_of 69 = .ok (.aload_n 0, 1) := by decide +kernel
theorem dX11_of_70 : decode cX11_of 70 = .ok (.getfield 40, 3) := by decide +kernel
theorem dX11_of_73 : decode cX11_of 73 = .ok (.getfield 324, 3) := by decide +kernel
theorem dX11_of_76 : decode cX11_of 76 = .ok (.ireturn, 1) := by decide +kernel
theorem dX11_of_77 : decode cX11_of 77 = .ok (.aload_n 0, 1) := by decide +kernel
theorem dX11_of_78 : decode cX11_of 78 = .ok (.getfield 40, 3) := by decide +kernel
theorem dX11_of_81 : decode cX11_of 81 = .ok (.getfield 378, 3) := by decide +kernel
theorem dX11_of_84 : decode cX11_of 84 = .ok (.ireturn, 1) := by decide +kernel
theorem dX11_of_85 : decode cX11_of 85 = .ok (.new 72, 3) := by decide +kernel
theorem dX11_of_88 : decode cX11_of 88 = .ok (.dup, 1) := by decide +kernel
theorem dX11_of_89 : decode cX11_of 89 = .ok (.ldc_w 351, 3) := by decide +kernel
theorem dX11_of_92 : decode cX11_of 92 = .ok (.invokespecial 76, 3) := by decide +kernel
theorem dX11_of_95 : decode cX11_of 95 = .ok (.athrow, 1) := by decide +kernel
theorem dX11_isWithin_0 : decode cX11_isWithin 0 = .ok (.iload_n 0, 1) := by decide +kernel
theorem dX11_isWithin_1 : decode cX11_isWithin 1 = .ok (.iload_n 1, 1) := by decide +kernel
theorem dX11_isWithin_2 : decode cX11_isWithin 2 = .ok (.if_icmp .lt 12, 3) := by decide +kernel
theorem dX11_isWithin_5 : decode cX11_isWithin 5 = .ok (.iload_n 0, 1) := by decide +kernel
theorem dX11_isWithin_6 : decode cX11_isWithin 6 = .ok (.iload_n 2, 1) := by decide +kernel
theorem dX11_isWithin_7 : decode cX11_isWithin 7 = .ok (.if_icmp .gt 7, 3) := by decide +kernel
theorem dX11_isWithin_10 : decode cX11_isWithin 10 = .ok (.iconst 1, 1) := by decide +kernel
theorem dX11_isWithin_11 : decode cX11_isWithin 11 = .ok (.goto 4, 3) := by decide +kernel
theorem dX11_isWithin_14 : decode cX11_isWithin 14 = .ok (.iconst 0, 1) := by decide +kernel
theorem dX11_isWithin_15 : decode cX11_isWithin 15 = .ok (.ireturn, 1) := by decide +kernel
theorem dX11_isPlace_0 : decode cX11_isPlace 0 = .ok (.iload_n 0, 1) := by decide +kernel
theorem dX11_isPlace_1 : decode cX11_isPlace 1 = .ok (.ifCond .lt 13, 3) := by decide +kernel
theorem dX11_isPlace_4 : decode cX11_isPlace 4 = .ok (.iload_n 0, 1) := by decide +kernel
theorem dX11_isPlace_5 : decode cX11_isPlace 5 = .ok (.bipush 10, 2) := by decide +kernel
theorem dX11_isPlace_7 : decode cX11_isPlace 7 = .ok (.if_icmp .ge 7, 3) := by decide +kernel
theorem dX11_isPlace_10 : decode cX11_isPlace 10 = .ok (.iconst 1, 1) := by decide +kernel
theorem dX11_isPlace_11 : decode cX11_isPlace 11 = .ok (.goto 4, 3) := by decide +kernel
theorem dX11_isPlace_14 : decode cX11_isPlace 14 = .ok (.iconst 0, 1) := by decide +kernel
theorem dX11_isPlace_15 : decode cX11_isPlace 15 = .ok (.ireturn, 1) := by decide +kernel
theorem dX11_isCarrier_0 : decode cX11_isCarrier 0 = .ok (.iload_n 0, 1) := by decide +kernel
theorem dX11_isCarrier_1 : decode cX11_isCarrier 1 = .ok (.ifCond .lt 12, 3) := by decide +kernel
theorem dX11_isCarrier_4 : decode cX11_isCarrier 4 = .ok (.iload_n 0, 1) := by decide +kernel
theorem dX11_isCarrier_5 : decode cX11_isCarrier 5 = .ok (.iconst 5, 1) := by decide +kernel
theorem dX11_isCarrier_6 : decode cX11_isCarrier 6 = .ok (.if_icmp .ge 7, 3) := by decide +kernel
theorem dX11_isCarrier_9 : decode cX11_isCarrier 9 = .ok (.iconst 1, 1) := by decide +kernel
theorem dX11_isCarrier_10 : decode cX11_isCarrier 10 = .ok (.goto 4, 3) := by decide +kernel
theorem dX11_isCarrier_13 : decode cX11_isCarrier 13 = .ok (.iconst 0, 1) := by decide +kernel
theorem dX11_isCarrier_14 : decode cX11_isCarrier 14 = .ok (.ireturn, 1) := by decide +kernel
theorem dX11_ticketAt_0 : decode cX11_ticketAt 0 = .ok (.iload_n 1, 1) := by decide +kernel
theorem dX11_ticketAt_1 : decode cX11_ticketAt 1 = .ok (.ifCond .lt 21, 3) := by decide +kernel
theorem dX11_ticketAt_4 : decode cX11_ticketAt 4 = .ok (.iload_n 1, 1) := by decide +kernel
theorem dX11_ticketAt_5 : decode cX11_ticketAt 5 = .ok (.aload_n 0, 1) := by decide +kernel
theorem dX11_ticketAt_6 : decode cX11_ticketAt 6 = .ok (.getfield 223, 3) := by decide +kernel
theorem dX11_ticketAt_9 : decode cX11_ticketAt 9 = .ok (.if_icmp .ge 13, 3) := by decide +kernel
theorem dX11_ticketAt_12 : decode cX11_ticketAt 12 = .ok (.iload_n 1, 1) := by decide +kernel
theorem dX11_ticketAt_13 : decode cX11_ticketAt 13 = .ok (.bipush 30, 2) := by decide +kernel
theorem dX11_ticketAt_15 : decode cX11_ticketAt 15 = .ok (.if_icmp .ge 7, 3) := by decide +kernel
theorem dX11_ticketAt_18 : decode cX11_ticketAt 18 = .ok (.iconst 1, 1) := by decide +kernel
theorem dX11_ticketAt_19 : decode cX11_ticketAt 19 = .ok (.goto 4, 3) := by decide +kernel
theorem dX11_ticketAt_22 : decode cX11_ticketAt 22 = .ok (.iconst 0, 1) := by decide +kernel
theorem dX11_ticketAt_23 : decode cX11_ticketAt 23 = .ok (.istore_n 2, 1) := by decide +kernel
theorem dX11_ticketAt_24 : decode cX11_ticketAt 24 = .ok (.iload_n 2, 1) := by decide +kernel
theorem dX11_ticketAt_25 : decode cX11_ticketAt 25 = .ok (.ifCond .eq 12, 3) := by decide +kernel
theorem dX11_ticketAt_28 : decode cX11_ticketAt 28 = .ok (.aload_n 0, 1) := by decide +kernel
theorem dX11_ticketAt_29 : decode cX11_ticketAt 29 = .ok (.getfield 46, 3) := by decide +kernel
theorem dX11_ticketAt_32 : decode cX11_ticketAt 32 = .ok (.iload_n 1, 1) := by decide +kernel
theorem dX11_ticketAt_33 : decode cX11_ticketAt 33 = .ok (.aaload, 1) := by decide +kernel
theorem dX11_ticketAt_34 : decode cX11_ticketAt 34 = .ok (.goto 4, 3) := by decide +kernel
theorem dX11_ticketAt_37 : decode cX11_ticketAt 37 = .ok (.aconst_null, 1) := by decide +kernel
theorem dX11_ticketAt_38 : decode cX11_ticketAt 38 = .ok (.areturn, 1) := by decide +kernel
theorem dX11_canBeIssued_0 : decode cX11_canBeIssued 0 = .ok (.aload_n 0, 1) := by decide +kernel
theorem dX11_canBeIssued_1 : decode cX11_canBeIssued 1 = .ok (.getfield 33, 3) := by decide +kernel
theorem dX11_canBeIssued_4 : decode cX11_canBeIssued 4 = .ok (.getfield 191, 3) := by decide +kernel
theorem dX11_canBeIssued_7 : decode cX11_canBeIssued 7 = .ok (.iconst (-1), 1) := by decide +kernel
theorem dX11_canBeIssued_8 : decode cX11_canBeIssued 8 = .ok (.if_icmp .eq 33, 3) := by decide +kernel
theorem dX11_canBeIssued_11 : decode cX11_canBeIssued 11 = .ok (.aload_n 0, 1) := by decide +kernel
theorem dX11_canBeIssued_12 : decode cX11_canBeIssued 12 = .ok (.getfield 26, 3) := by decide +kernel
theorem dX11_canBeIssued_15 : decode cX11_canBeIssued 15 = .ok (.aload_n 0, 1) := by decide +kernel
theorem dX11_canBeIssued_16 : decode cX11_canBeIssued 16 = .ok (.getfield 12, 3) := by decide +kernel
theorem dX11_canBeIssued_19 : decode cX11_canBeIssued 19 = .ok (.getfield 154, 3) := by decide +kernel
theorem dX11_canBeIssued_22 : decode cX11_canBeIssued 22 = .ok (.invokevirtual 381, 3) := by decide +kernel
theorem dX11_canBeIssued_25 : decode cX11_canBeIssued 25 = .ok (.ifCond .ne 16, 3) := by decide +kernel
theorem dX11_canBeIssued_28 : decode cX11_canBeIssued 28 = .ok (.aload_n 0, 1) := by decide +kernel
theorem dX11_canBeIssued_29 : decode cX11_canBeIssued 29 = .ok (.getfield 223, 3) := by decide +kernel
theorem dX11_canBeIssued_32 : decode cX11_canBeIssued 32 = .ok (.bipush 30, 2) := by decide +kernel
theorem dX11_canBeIssued_34 : decode cX11_canBeIssued 34 = .ok (.if_icmp .ge 7, 3) := by decide +kernel
theorem dX11_canBeIssued_37 : decode cX11_canBeIssued 37 = .ok (.iconst 1, 1) := by decide +kernel
theorem dX11_canBeIssued_38 : decode cX11_canBeIssued 38 = .ok (.goto 4, 3) := by decide +kernel
theorem dX11_canBeIssued_41 : decode cX11_canBeIssued 41 = .ok (.iconst 0, 1) := by decide +kernel
theorem dX11_canBeIssued_42 : decode cX11_canBeIssued 42 = .ok (.ireturn, 1) := by decide +kernel
theorem dX11_issued_0 : decode cX11_issued 0 = .ok (.new 44, 3) := by decide +kernel
theorem dX11_issued_3 : decode cX11_issued 3 = .ok (.dup, 1) := by decide +kernel
theorem dX11_issued_4 : decode cX11_issued 4 = .ok (.iload_n 1, 1) := by decide +kernel
theorem dX11_issued_5 : decode cX11_issued 5 = .ok (.aload_n 0, 1) := by decide +kernel
theorem dX11_issued_6 : decode cX11_issued 6 = .ok (.getfield 33, 3) := by decide +kernel
theorem dX11_issued_9 : decode cX11_issued 9 = .ok (.getfield 191, 3) := by decide +kernel
theorem dX11_issued_12 : decode cX11_issued 12 = .ok (.aload_n 0, 1) := by decide +kernel
theorem dX11_issued_13 : decode cX11_issued 13 = .ok (.getfield 33, 3) := by decide +kernel
theorem dX11_issued_16 : decode cX11_issued 16 = .ok (.getfield 198, 3) := by decide +kernel
theorem dX11_issued_19 : decode cX11_issued 19 = .ok (.invokespecial 384, 3) := by decide +kernel
theorem dX11_issued_22 : decode cX11_issued 22 = .ok (.astore_n 2, 1) := by decide +kernel
theorem dX11_issued_23 : decode cX11_issued 23 = .ok (.iconst 0, 1) := by decide +kernel
theorem dX11_issued_24 : decode cX11_issued 24 = .ok (.istore_n 3, 1) := by decide +kernel
theorem dX11_issued_25 : decode cX11_issued 25 = .ok (.iload_n 3, 1) := by decide +kernel
theorem dX11_issued_26 : decode cX11_issued 26 = .ok (.aload_n 0, 1) := by decide +kernel
theorem dX11_issued_27 : decode cX11_issued 27 = .ok (.getfield 26, 3) := by decide +kernel
theorem dX11_issued_30 : decode cX11_issued 30 = .ok (.getfield 376, 3) := by decide +kernel
theorem dX11_issued_33 : decode cX11_issued 33 = .ok (.if_icmp .ge 69, 3) := by decide +kernel
theorem dX11_issued_36 : decode cX11_issued 36 = .ok (.aload_n 0, 1) := by decide +kernel
theorem dX11_issued_37 : decode cX11_issued 37 = .ok (.getfield 26, 3) := by decide +kernel
theorem dX11_issued_40 : decode cX11_issued 40 = .ok (.iload_n 3, 1) := by decide +kernel
theorem dX11_issued_41 : decode cX11_issued 41 = .ok (.invokevirtual 386, 3) := by decide +kernel
theorem dX11_issued_44 : decode cX11_issued 44 = .ok (.astore 4, 2) := by decide +kernel
theorem dX11_issued_46 : decode cX11_issued 46 = .ok (.aload 4, 2) := by decide +kernel
theorem dX11_issued_48 : decode cX11_issued 48 = .ok (.ifnull 48, 3) := by decide +kernel
theorem dX11_issued_51 : decode cX11_issued 51 = .ok (.aload_n 2, 1) := by decide +kernel
theorem dX11_issued_52 : decode cX11_issued 52 = .ok (.new 236, 3) := by decide +kernel
theorem dX11_issued_55 : decode cX11_issued 55 = .ok (.dup, 1) := by decide +kernel
theorem dX11_issued_56 : decode cX11_issued 56 = .ok (.aload 4, 2) := by decide +kernel
theorem dX11_issued_58 : decode cX11_issued 58 = .ok (.aload_n 0, 1) := by decide +kernel
theorem dX11_issued_59 : decode cX11_issued 59 = .ok (.getfield 12, 3) := by decide +kernel
theorem dX11_issued_62 : decode cX11_issued 62 = .ok (.aload 4, 2) := by decide +kernel
theorem dX11_issued_64 : decode cX11_issued 64 = .ok (.getfield 390, 3) := by decide +kernel
theorem dX11_issued_67 : decode cX11_issued 67 = .ok (.iload_n 3, 1) := by decide +kernel
theorem dX11_issued_68 : decode cX11_issued 68 = .ok (.ifCond .eq 14, 3) := by decide +kernel
theorem dX11_issued_71 : decode cX11_issued 71 = .ok (.aload_n 0, 1) := by decide +kernel
theorem dX11_issued_72 : decode cX11_issued 72 = .ok (.getfield 26, 3) := by decide +kernel
theorem dX11_issued_75 : decode cX11_issued 75 = .ok (.iload_n 3, 1) := by decide +kernel
theorem dX11_issued_76 : decode cX11_issued 76 = .ok (.invokevirtual 393, 3) := by decide +kernel
theorem dX11_issued_79 : decode cX11_issued 79 = .ok (.ifCond .eq 7, 3) := by decide +kernel
theorem dX11_issued_82 : decode cX11_issued 82 = .ok (.iconst 1, 1) := by decide +kernel
theorem dX11_issued_83 : decode cX11_issued 83 = .ok (.goto 4, 3) := by decide +kernel
theorem dX11_issued_86 : decode cX11_issued 86 = .ok (.iconst 0, 1) := by decide +kernel
theorem dX11_issued_87 : decode cX11_issued 87 = .ok (.invokevirtual 396, 3) := by decide +kernel
theorem dX11_issued_90 : decode cX11_issued 90 = .ok (.invokespecial 400, 3) := by decide +kernel
theorem dX11_issued_93 : decode cX11_issued 93 = .ok (.invokevirtual 403, 3) := by decide +kernel
theorem dX11_issued_96 : decode cX11_issued 96 = .ok (.iinc 3 1, 3) := by decide +kernel
theorem dX11_issued_99 : decode cX11_issued 99 = .ok (.goto (-74), 3) := by decide +kernel
theorem dX11_issued_102 : decode cX11_issued 102 = .ok (.aload_n 0, 1) := by decide +kernel
theorem dX11_issued_103 : decode cX11_issued 103 = .ok (.aload_n 2, 1) := by decide +kernel
theorem dX11_issued_104 : decode cX11_issued 104 = .ok (.invokevirtual 406, 3) := by decide +kernel
theorem dX11_issued_107 : decode cX11_issued 107 = .ok (.aload_n 0, 1) := by decide +kernel
theorem dX11_issued_108 : decode cX11_issued 108 = .ok (.getfield 223, 3) := by decide +kernel
theorem dX11_issued_111 : decode cX11_issued 111 = .ok (.bipush 30, 2) := by decide +kernel
theorem dX11_issued_113 : decode cX11_issued 113 = .ok (.if_icmp .ge 23, 3) := by decide +kernel
theorem dX11_issued_116 : decode cX11_issued 116 = .ok (.aload_n 0, 1) := by decide +kernel
theorem dX11_issued_117 : decode cX11_issued 117 = .ok (.getfield 46, 3) := by decide +kernel
theorem dX11_issued_120 : decode cX11_issued 120 = .ok (.aload_n 0, 1) := by decide +kernel
theorem dX11_issued_121 : decode cX11_issued 121 = .ok (.getfield 223, 3) := by decide +kernel
theorem dX11_issued_124 : decode cX11_issued 124 = .ok (.aload_n 2, 1) := by decide +kernel
theorem dX11_issued_125 : decode cX11_issued 125 = .ok (.aastore, 1) := by decide +kernel
theorem dX11_issued_126 : decode cX11_issued 126 = .ok (.aload_n 0, 1) := by decide +kernel
theorem dX11_issued_127 : decode cX11_issued 127 = .ok (.dup, 1) := by decide +kernel
theorem dX11_issued_128 : decode cX11_issued 128 = .ok (.getfield 223, 3) := by decide +kernel
theorem dX11_issued_131 : decode cX11_issued 131 = .ok (.iconst 1, 1) := by decide +kernel
theorem dX11_issued_132 : decode cX11_issued 132 = .ok (.iadd, 1) := by decide +kernel
theorem dX11_issued_133 : decode cX11_issued 133 = .ok (.putfield 223, 3) := by decide +kernel
theorem dX11_issued_136 : decode cX11_issued 136 = .ok (.aload_n 0, 1) := by decide +kernel
theorem dX11_issued_137 : decode cX11_issued 137 = .ok (.getfield 26, 3) := by decide +kernel
theorem dX11_issued_140 : decode cX11_issued 140 = .ok (.invokevirtual 172, 3) := by decide +kernel
theorem dX11_issued_143 : decode cX11_issued 143 = .ok (.pop, 1) := by decide +kernel
theorem dX11_issued_144 : decode cX11_issued 144 = .ok (.aload_n 2, 1) := by decide +kernel
theorem dX11_issued_145 : decode cX11_issued 145 = .ok (.areturn, 1) := by decide +kernel
theorem dX11_shareOut_0 : decode cX11_shareOut 0 = .ok (.iconst 0, 1) := by decide +kernel
theorem dX11_shareOut_1 : decode cX11_shareOut 1 = .ok (.istore_n 2, 1) := by decide +kernel
theorem dX11_shareOut_2 : decode cX11_shareOut 2 = .ok (.iconst 1, 1) := by decide +kernel
theorem dX11_shareOut_3 : decode cX11_shareOut 3 = .ok (.istore_n 3, 1) := by decide +kernel
theorem dX11_shareOut_4 : decode cX11_shareOut 4 = .ok (.iload_n 3, 1) := by decide +kernel
theorem dX11_shareOut_5 : decode cX11_shareOut 5 = .ok (.aload_n 1, 1) := by decide +kernel
theorem dX11_shareOut_6 : decode cX11_shareOut 6 = .ok (.getfield 293, 3) := by decide +kernel
theorem dX11_shareOut_9 : decode cX11_shareOut 9 = .ok (.if_icmp .gt 74, 3) := by decide +kernel
theorem dX11_shareOut_12 : decode cX11_shareOut 12 = .ok (.iload_n 3, 1) := by decide +kernel
theorem dX11_shareOut_13 : decode cX11_shareOut 13 = .ok (.aload_n 1, 1) := by decide +kernel
theorem dX11_shareOut_14 : decode cX11_shareOut 14 = .ok (.getfield 293, 3) := by decide +kernel
theorem dX11_shareOut_17 : decode cX11_shareOut 17 = .ok (.if_icmp .eq 15, 3) := by decide +kernel
theorem dX11_shareOut_20 : decode cX11_shareOut 20 = .ok (.aload_n 1, 1) := by decide +kernel
theorem dX11_shareOut_21 : decode cX11_shareOut 21 = .ok (.getfield 345, 3) := by decide +kernel
theorem dX11_shareOut_24 : decode cX11_shareOut 24 = .ok (.iload_n 3, 1) := by decide +kernel
theorem dX11_shareOut_25 : decode cX11_shareOut 25 = .ok (.ishr, 1) := by decide +kernel
theorem dX11_shareOut_26 : decode cX11_shareOut 26 = .ok (.iconst 1, 1) := by decide +kernel
theorem dX11_shareOut_27 : decode cX11_shareOut 27 = .ok (.iand, 1) := by decide +kernel
theorem dX11_shareOut_28 : decode cX11_shareOut 28 = .ok (.iconst 1, 1) := by decide +kernel
theorem dX11_shareOut_29 : decode cX11_shareOut 29 = .ok (.if_icmp .ne 48, 3) := by decide +kernel
theorem dX11_shareOut_32 : decode cX11_shareOut 32 = .ok (.aload_n 0, 1) := by decide +kernel
theorem dX11_shareOut_33 : decode cX11_shareOut 33 = .ok (.getfield 26, 3) := by decide +kernel
theorem dX11_shareOut_36 : decode cX11_shareOut 36 = .ok (.aload_n 0, 1) := by decide +kernel
theorem dX11_shareOut_37 : decode cX11_shareOut 37 = .ok (.getfield 12, 3) := by decide +kernel
theorem dX11_shareOut_40 : decode cX11_shareOut 40 = .ok (.iload_n 2, 1) := by decide +kernel
theorem dX11_shareOut_41 : decode cX11_shareOut 41 = .ok (.iload_n 3, 1) := by decide +kernel
theorem dX11_shareOut_42 : decode cX11_shareOut 42 = .ok (.invokevirtual 183, 3) := by decide +kernel
theorem dX11_shareOut_45 : decode cX11_shareOut 45 = .ok (.istore 4, 2) := by decide +kernel
theorem dX11_shareOut_47 : decode cX11_shareOut 47 = .ok (.aload_n 1, 1) := by decide +kernel
theorem dX11_shareOut_48 : decode cX11_shareOut 48 = .ok (.dup, 1) := by decide +kernel
theorem dX11_shareOut_49 : decode cX11_shareOut 49 = .ok (.getfield 348, 3) := by decide +kernel
theorem dX11_shareOut_52 : decode cX11_shareOut 52 = .ok (.aload_n 0, 1) := by decide +kernel
theorem dX11_shareOut_53 : decode cX11_shareOut 53 = .ok (.getfield 19, 3) := by decide +kernel
theorem dX11_shareOut_56 : decode cX11_shareOut 56 = .ok (.aload_n 1, 1) := by decide +kernel
theorem dX11_shareOut_57 : decode cX11_shareOut 57 = .ok (.iload_n 2, 1) := by decide +kernel
theorem dX11_shareOut_58 : decode cX11_shareOut 58 = .ok (.iload_n 3, 1) := by decide +kernel
theorem dX11_shareOut_59 : decode cX11_shareOut 59 = .ok (.iload 4, 2) := by decide +kernel
theorem dX11_shareOut_61 : decode cX11_shareOut 61 = .ok (.aload_n 0, 1) := by decide +kernel
theorem dX11_shareOut_62 : decode cX11_shareOut 62 = .ok (.getfield 12, 3) := by decide +kernel
theorem dX11_shareOut_65 : decode cX11_shareOut 65 = .ok (.getfield 77, 3) := by decide +kernel
theorem dX11_shareOut_68 : decode cX11_shareOut 68 = .ok (.invokevirtual 410, 3) := by decide +kernel
theorem dX11_shareOut_71 : decode cX11_shareOut 71 = .ok (.iadd, 1) := by decide +kernel
theorem dX11_shareOut_72 : decode cX11_shareOut 72 = .ok (.putfield 348, 3) := by decide +kernel
theorem dX11_shareOut_75 : decode cX11_shareOut 75 = .ok (.iload_n 3, 1) := by decide +kernel
theorem dX11_shareOut_76 : decode cX11_shareOut 76 = .ok (.istore_n 2, 1) := by decide +kernel
theorem dX11_shareOut_77 : decode cX11_shareOut 77 = .ok (.iinc 3 1, 3) := by decide +kernel
theorem dX11_shareOut_80 : decode cX11_shareOut 80 = .ok (.goto (-76), 3) := by decide +kernel
theorem dX11_shareOut_83 : decode cX11_shareOut 83 = .ok (.return_, 1) := by decide +kernel
theorem dX11_receive_0 : decode cX11_receive 0 = .ok (.aload_n 1, 1) := by decide +kernel
theorem dX11_receive_1 : decode cX11_receive 1 = .ok (.dup, 1) := by decide +kernel
theorem dX11_receive_2 : decode cX11_receive 2 = .ok (.getfield 366, 3) := by decide +kernel
theorem dX11_receive_5 : decode cX11_receive 5 = .ok (.iload_n 2, 1) := by decide +kernel
theorem dX11_receive_6 : decode cX11_receive 6 = .ok (.i2l, 1) := by decide +kernel
theorem dX11_receive_7 : decode cX11_receive 7 = .ok (.ladd, 1) := by decide +kernel
theorem dX11_receive_8 : decode cX11_receive 8 = .ok (.putfield 366, 3) := by decide +kernel
theorem dX11_receive_11 : decode cX11_receive 11 = .ok (.aload_n 0, 1) := by decide +kernel
theorem dX11_receive_12 : decode cX11_receive 12 = .ok (.dup, 1) := by decide +kernel
theorem dX11_receive_13 : decode cX11_receive 13 = .ok (.getfield 373, 3) := by decide +kernel
theorem dX11_receive_16 : decode cX11_receive 16 = .ok (.iload_n 2, 1) := by decide +kernel
theorem dX11_receive_17 : decode cX11_receive 17 = .ok (.i2l, 1) := by decide +kernel
theorem dX11_receive_18 : decode cX11_receive 18 = .ok (.ladd, 1) := by decide +kernel
theorem dX11_receive_19 : decode cX11_receive 19 = .ok (.putfield 373, 3) := by decide +kernel
theorem dX11_receive_22 : decode cX11_receive 22 = .ok (.aload_n 0, 1) := by decide +kernel
theorem dX11_receive_23 : decode cX11_receive 23 = .ok (.aload_n 1, 1) := by decide +kernel
theorem dX11_receive_24 : decode cX11_receive 24 = .ok (.getfield 249, 3) := by decide +kernel
theorem dX11_receive_27 : decode cX11_receive 27 = .ok (.iload_n 2, 1) := by decide +kernel
theorem dX11_receive_28 : decode cX11_receive 28 = .ok (.i2l, 1) := by decide +kernel
theorem dX11_receive_29 : decode cX11_receive 29 = .ok (.invokevirtual 255, 3) := by decide +kernel
theorem dX11_receive_32 : decode cX11_receive 32 = .ok (.return_, 1) := by decide +kernel
theorem dX11_addCash_0 : decode cX11_addCash 0 = .ok (.iload_n 1, 1) := by decide +kernel
theorem dX11_addCash_1 : decode cX11_addCash 1 = .ok (.invokestatic 136, 3) := by decide +kernel
theorem dX11_addCash_4 : decode cX11_addCash 4 = .ok (.ifCond .eq 13, 3) := by decide +kernel
theorem dX11_addCash_7 : decode cX11_addCash 7 = .ok (.aload_n 0, 1) := by decide +kernel
theorem dX11_addCash_8 : decode cX11_addCash 8 = .ok (.getfield 50, 3) := by decide +kernel
theorem dX11_addCash_11 : decode cX11_addCash 11 = .ok (.iload_n 1, 1) := by decide +kernel
theorem dX11_addCash_12 : decode cX11_addCash 12 = .ok (.dup2, 1) := by decide +kernel
theorem dX11_addCash_13 : decode cX11_addCash 13 = .ok (.laload, 1) := by decide +kernel
theorem dX11_addCash_14 : decode cX11_addCash 14 = .ok (.lload_n 2, 1) := by decide +kernel
theorem dX11_addCash_15 : decode cX11_addCash 15 = .ok (.ladd, 1) := by decide +kernel
theorem dX11_addCash_16 : decode cX11_addCash 16 = .ok (.lastore, 1) := by decide +kernel
theorem dX11_addCash_17 : decode cX11_addCash 17 = .ok (.return_, 1) := by decide +kernel
theorem dX11_moveNets_0 : decode cX11_moveNets 0 = .ok (.iconst 0, 1) := by decide +kernel
theorem dX11_moveNets_1 : decode cX11_moveNets 1 = .ok (.istore_n 1, 1) := by decide +kernel
theorem dX11_moveNets_2 : decode cX11_moveNets 2 = .ok (.iload_n 1, 1) := by decide +kernel
theorem dX11_moveNets_3 : decode cX11_moveNets 3 = .ok (.iconst 5, 1) := by decide +kernel
theorem dX11_moveNets_4 : decode cX11_moveNets 4 = .ok (.if_icmp .ge 22, 3) := by decide +kernel
theorem dX11_moveNets_7 : decode cX11_moveNets 7 = .ok (.aload_n 0, 1) := by decide +kernel
theorem dX11_moveNets_8 : decode cX11_moveNets 8 = .ok (.iload_n 1, 1) := by decide +kernel
theorem dX11_moveNets_9 : decode cX11_moveNets 9 = .ok (.aload_n 0, 1) := by decide +kernel
theorem dX11_moveNets_10 : decode cX11_moveNets 10 = .ok (.getfield 40, 3) := by decide +kernel
theorem dX11_moveNets_13 : decode cX11_moveNets 13 = .ok (.iload_n 1, 1) := by decide +kernel
theorem dX11_moveNets_14 : decode cX11_moveNets 14 = .ok (.invokevirtual 413, 3) := by decide +kernel
theorem dX11_moveNets_17 : decode cX11_moveNets 17 = .ok (.invokevirtual 255, 3) := by decide +kernel
theorem dX11_moveNets_20 : decode cX11_moveNets 20 = .ok (.iinc 1 1, 3) := by decide +kernel
theorem dX11_moveNets_23 : decode cX11_moveNets 23 = .ok (.goto (-21), 3) := by decide +kernel
theorem dX11_moveNets_26 : decode cX11_moveNets 26 = .ok (.return_, 1) := by decide +kernel
theorem dJ9_max_7cf53_0 : decode cJ9_max_7cf53 0 = .ok (.iload_n 0, 1) := by decide +kernel
theorem dJ9_max_7cf53_1 : decode cJ9_max_7cf53 1 = .ok (.iload_n 1, 1) := by decide +kernel
theorem dJ9_max_7cf53_2 : decode cJ9_max_7cf53 2 = .ok (.if_icmp .lt 7, 3) := by decide +kernel
theorem dJ9_max_7cf53_5 : decode cJ9_max_7cf53 5 = .ok (.iload_n 0, 1) := by decide +kernel
theorem dJ9_max_7cf53_6 : decode cJ9_max_7cf53 6 = .ok (.goto 4, 3) := by decide +kernel
theorem dJ9_max_7cf53_9 : decode cJ9_max_7cf53 9 = .ok (.iload_n 1, 1) := by decide +kernel
theorem dJ9_max_7cf53_10 : decode cJ9_max_7cf53 10 = .ok (.ireturn, 1) := by decide +kernel
theorem dJ9_max_f86c9_0 : decode cJ9_max_f86c9 0 = .ok (.lload_n 0, 1) := by decide +kernel
theorem dJ9_max_f86c9_1 : decode cJ9_max_f86c9 1 = .ok (.lload_n 2, 1) := by decide +kernel
theorem dJ9_max_f86c9_2 : decode cJ9_max_f86c9 2 = .ok (.lcmp, 1) := by decide +kernel
theorem dJ9_max_f86c9_3 : decode cJ9_max_f86c9 3 = .ok (.ifCond .lt 7, 3) := by decide +kernel
theorem dJ9_max_f86c9_6 : decode cJ9_max_f86c9 6 = .ok (.lload_n 0, 1) := by decide +kernel
theorem dJ9_max_f86c9_7 : decode cJ9_max_f86c9 7 = .ok (.goto 4, 3) := by decide +kernel
theorem dJ9_max_f86c9_10 : decode cJ9_max_f86c9 10 = .ok (.lload_n 2, 1) := by decide +kernel
theorem dJ9_max_f86c9_11 : decode cJ9_max_f86c9 11 = .ok (.lreturn, 1) := by decide +kernel
theorem dJ9_min_7cf53_0 : decode cJ9_min_7cf53 0 = .ok (.iload_n 0, 1) := by decide +kernel
theorem dJ9_min_7cf53_1 : decode cJ9_min_7cf53 1 = .ok (.iload_n 1, 1) := by decide +kernel
theorem dJ9_min_7cf53_2 : decode cJ9_min_7cf53 2 = .ok (.if_icmp .gt 7, 3) := by decide +kernel
theorem dJ9_min_7cf53_5 : decode cJ9_min_7cf53 5 = .ok (.iload_n 0, 1) := by decide +kernel
theorem dJ9_min_7cf53_6 : decode cJ9_min_7cf53 6 = .ok (.goto 4, 3) := by decide +kernel
theorem dJ9_min_7cf53_9 : decode cJ9_min_7cf53 9 = .ok (.iload_n 1, 1) := by decide +kernel
theorem dJ9_min_7cf53_10 : decode cJ9_min_7cf53 10 = .ok (.ireturn, 1) := by decide +kernel
theorem dL_at_0 : decode cL_at 0 = .ok (.iload_n 1, 1) := by decide +kernel
theorem dL_at_1 : decode cL_at 1 = .ok (.aload_n 0, 1) := by decide +kernel
theorem dL_at_2 : decode cL_at 2 = .ok (.arraylength, 1) := by decide +kernel
theorem dL_at_3 : decode cL_at 3 = .ok (.if_icmp .ge 9, 3) := by decide +kernel
theorem dL_at_6 : decode cL_at 6 = .ok (.aload_n 0, 1) := by decide +kernel
theorem dL_at_7 : decode cL_at 7 = .ok (.iload_n 1, 1) := by decide +kernel
theorem dL_at_8 : decode cL_at 8 = .ok (.iaload, 1) := by decide +kernel
theorem dL_at_9 : decode cL_at 9 = .ok (.goto 12, 3) := by decide +kernel
theorem dL_at_12 : decode cL_at 12 = .ok (.ldc 7, 2) := by decide +kernel
theorem dL_at_14 : decode cL_at 14 = .ok (.iload_n 1, 1) := by decide +kernel
theorem dL_at_15 : decode cL_at 15 = .ok (.iconst 1, 1) := by decide +kernel
theorem dL_at_16 : decode cL_at 16 = .ok (.iadd, 1) := by decide +kernel
theorem dL_at_17 : decode cL_at 17 = .ok (.imul, 1) := by decide +kernel
theorem dL_at_18 : decode cL_at 18 = .ok (.ldc 8, 2) := by decide +kernel
theorem dL_at_20 : decode cL_at 20 = .ok (.iadd, 1) := by decide +kernel
theorem dL_at_21 : decode cL_at 21 = .ok (.ireturn, 1) := by decide +kernel
theorem dL_low_0 : decode cL_low 0 = .ok (.iload_n 0, 1) := by decide +kernel
theorem dL_low_1 : decode cL_low 1 = .ok (.ldc 9, 2) := by decide +kernel
theorem dL_low_3 : decode cL_low 3 = .ok (.iand, 1) := by decide +kernel
theorem dL_low_4 : decode cL_low 4 = .ok (.iload_n 1, 1) := by decide +kernel
theorem dL_low_5 : decode cL_low 5 = .ok (.irem, 1) := by decide +kernel
theorem dL_low_6 : decode cL_low 6 = .ok (.ireturn, 1) := by decide +kernel
theorem dL_miles_0 : decode cL_miles 0 = .ok (.aload_n 0, 1) := by decide +kernel
theorem dL_miles_1 : decode cL_miles 1 = .ok (.iload_n 1, 1) := by decide +kernel
theorem dL_miles_2 : decode cL_miles 2 = .ok (.iload_n 2, 1) := by decide +kernel
theorem dL_miles_3 : decode cL_miles 3 = .ok (.iload_n 3, 1) := by decide +kernel
theorem dL_miles_4 : decode cL_miles 4 = .ok (.invokevirtual 10, 3) := by decide +kernel
theorem dL_miles_7 : decode cL_miles 7 = .ok (.ireturn, 1) := by decide +kernel
theorem dL_miles_8 : decode cL_miles 8 = .ok (.astore 4, 2) := by decide +kernel
theorem dL_miles_10 : decode cL_miles 10 = .ok (.ldc 18, 2) := by decide +kernel
theorem dL_miles_12 : decode cL_miles 12 = .ok (.ireturn, 1) := by decide +kernel
theorem dL_miles_13 : decode cL_miles 13 = .ok (.astore 4, 2) := by decide +kernel
theorem dL_miles_15 : decode cL_miles 15 = .ok (.ldc 21, 2) := by decide +kernel
theorem dL_miles_17 : decode cL_miles 17 = .ok (.ireturn, 1) := by decide +kernel
theorem dL_fare_0 : decode cL_fare 0 = .ok (.aload_n 0, 1) := by decide +kernel
theorem dL_fare_1 : decode cL_fare 1 = .ok (.iload_n 1, 1) := by decide +kernel
theorem dL_fare_2 : decode cL_fare 2 = .ok (.iload_n 2, 1) := by decide +kernel
theorem dL_fare_3 : decode cL_fare 3 = .ok (.iload_n 3, 1) := by decide +kernel
theorem dL_fare_4 : decode cL_fare 4 = .ok (.iload 4, 2) := by decide +kernel
theorem dL_fare_6 : decode cL_fare 6 = .ok (.iload 5, 2) := by decide +kernel
theorem dL_fare_8 : decode cL_fare 8 = .ok (.iload 6, 2) := by decide +kernel
theorem dL_fare_10 : decode cL_fare 10 = .ok (.invokevirtual 22, 3) := by decide +kernel
theorem dL_fare_13 : decode cL_fare 13 = .ok (.ireturn, 1) := by decide +kernel
theorem dL_fare_14 : decode cL_fare 14 = .ok (.astore 7, 2) := by decide +kernel
theorem dL_fare_16 : decode cL_fare 16 = .ok (.ldc 18, 2) := by decide +kernel
theorem dL_fare_18 : decode cL_fare 18 = .ok (.ireturn, 1) := by decide +kernel
theorem dL_fare_19 : decode cL_fare 19 = .ok (.astore 7, 2) := by decide +kernel
theorem dL_fare_21 : decode cL_fare 21 = .ok (.ldc 21, 2) := by decide +kernel
theorem dL_fare_23 : decode cL_fare 23 = .ok (.ireturn, 1) := by decide +kernel
theorem dL_fare_24 : decode cL_fare 24 = .ok (.astore 7, 2) := by decide +kernel
theorem dL_fare_26 : decode cL_fare 26 = .ok (.ldc 28, 2) := by decide +kernel
theorem dL_fare_28 : decode cL_fare 28 = .ok (.ireturn, 1) := by decide +kernel
theorem dL_unit_0 : decode cL_unit 0 = .ok (.aload_n 0, 1) := by decide +kernel
theorem dL_unit_1 : decode cL_unit 1 = .ok (.iload_n 1, 1) := by decide +kernel
theorem dL_unit_2 : decode cL_unit 2 = .ok (.invokevirtual 33, 3) := by decide +kernel
theorem dL_unit_5 : decode cL_unit 5 = .ok (.ireturn, 1) := by decide +kernel
theorem dL_unit_6 : decode cL_unit 6 = .ok (.astore_n 2, 1) := by decide +kernel
theorem dL_unit_7 : decode cL_unit 7 = .ok (.ldc 21, 2) := by decide +kernel
theorem dL_unit_9 : decode cL_unit 9 = .ok (.ireturn, 1) := by decide +kernel
theorem dL_tax_0 : decode cL_tax 0 = .ok (.aload_n 0, 1) := by decide +kernel
theorem dL_tax_1 : decode cL_tax 1 = .ok (.iload_n 1, 1) := by decide +kernel
theorem dL_tax_2 : decode cL_tax 2 = .ok (.iload_n 2, 1) := by decide +kernel
theorem dL_tax_3 : decode cL_tax 3 = .ok (.iload_n 3, 1) := by decide +kernel
theorem dL_tax_4 : decode cL_tax 4 = .ok (.invokevirtual 37, 3) := by decide +kernel
theorem dL_tax_7 : decode cL_tax 7 = .ok (.iconst 0, 1) := by decide +kernel
theorem dL_tax_8 : decode cL_tax 8 = .ok (.ireturn, 1) := by decide +kernel
theorem dL_tax_9 : decode cL_tax 9 = .ok (.astore 4, 2) := by decide +kernel
theorem dL_tax_11 : decode cL_tax 11 = .ok (.ldc 18, 2) := by decide +kernel
theorem dL_tax_13 : decode cL_tax 13 = .ok (.ireturn, 1) := by decide +kernel
theorem dL_tax_14 : decode cL_tax 14 = .ok (.astore 4, 2) := by decide +kernel
theorem dL_tax_16 : decode cL_tax 16 = .ok (.ldc 21, 2) := by decide +kernel
theorem dL_tax_18 : decode cL_tax 18 = .ok (.ireturn, 1) := by decide +kernel
theorem dL_weight_0 : decode cL_weight 0 = .ok (.aload_n 0, 1) := by decide +kernel
theorem dL_weight_1 : decode cL_weight 1 = .ok (.iload_n 1, 1) := by decide +kernel
theorem dL_weight_2 : decode cL_weight 2 = .ok (.iload_n 2, 1) := by decide +kernel
theorem dL_weight_3 : decode cL_weight 3 = .ok (.iload_n 3, 1) := by decide +kernel
theorem dL_weight_4 : decode cL_weight 4 = .ok (.invokevirtual 41, 3) := by decide +kernel
theorem dL_weight_7 : decode cL_weight 7 = .ok (.ireturn, 1) := by decide +kernel
theorem dL_weight_8 : decode cL_weight 8 = .ok (.astore 4, 2) := by decide +kernel
theorem dL_weight_10 : decode cL_weight 10 = .ok (.ldc 18, 2) := by decide +kernel
theorem dL_weight_12 : decode cL_weight 12 = .ok (.ireturn, 1) := by decide +kernel
theorem dL_weight_13 : decode cL_weight 13 = .ok (.astore 4, 2) := by decide +kernel
theorem dL_weight_15 : decode cL_weight 15 = .ok (.ldc 21, 2) := by decide +kernel
theorem dL_weight_17 : decode cL_weight 17 = .ok (.ireturn, 1) := by decide +kernel
theorem dL_proviso_0 : decode cL_proviso 0 = .ok (.aload_n 0, 1) := by decide +kernel
theorem dL_proviso_1 : decode cL_proviso 1 = .ok (.iload_n 1, 1) := by decide +kernel
theorem dL_proviso_2 : decode cL_proviso 2 = .ok (.iload_n 2, 1) := by decide +kernel
theorem dL_proviso_3 : decode cL_proviso 3 = .ok (.iload_n 3, 1) := by decide +kernel
theorem dL_proviso_4 : decode cL_proviso 4 = .ok (.iload 4, 2) := by decide +kernel
theorem dL_proviso_6 : decode cL_proviso 6 = .ok (.invokevirtual 44, 3) := by decide +kernel
theorem dL_proviso_9 : decode cL_proviso 9 = .ok (.ireturn, 1) := by decide +kernel
theorem dL_proviso_10 : decode cL_proviso 10 = .ok (.astore 5, 2) := by decide +kernel
theorem dL_proviso_12 : decode cL_proviso 12 = .ok (.ldc 18, 2) := by decide +kernel
theorem dL_proviso_14 : decode cL_proviso 14 = .ok (.ireturn, 1) := by decide +kernel
theorem dL_proviso_15 : decode cL_proviso 15 = .ok (.astore 5, 2) := by decide +kernel
theorem dL_proviso_17 : decode cL_proviso 17 = .ok (.ldc 21, 2) := by decide +kernel
theorem dL_proviso_19 : decode cL_proviso 19 = .ok (.ireturn, 1) := by decide +kernel
theorem dL_penalty_0 : decode cL_penalty 0 = .ok (.aload_n 0, 1) := by decide +kernel
theorem dL_penalty_1 : decode cL_penalty 1 = .ok (.iload_n 1, 1) := by decide +kernel
theorem dL_penalty_2 : decode cL_penalty 2 = .ok (.invokevirtual 48, 3) := by decide +kernel
theorem dL_penalty_5 : decode cL_penalty 5 = .ok (.ireturn, 1) := by decide +kernel
theorem dL_penalty_6 : decode cL_penalty 6 = .ok (.astore_n 2, 1) := by decide +kernel
theorem dL_penalty_7 : decode cL_penalty 7 = .ok (.ldc 21, 2) := by decide +kernel
theorem dL_penalty_9 : decode cL_penalty 9 = .ok (.ireturn, 1) := by decide +kernel
theorem dL_leg_0 : decode cL_leg 0 = .ok (.aload_n 0, 1) := by decide +kernel
theorem dL_leg_1 : decode cL_leg 1 = .ok (.iload_n 1, 1) := by decide +kernel
theorem dL_leg_2 : decode cL_leg 2 = .ok (.iload_n 2, 1) := by decide +kernel
theorem dL_leg_3 : decode cL_leg 3 = .ok (.iload_n 3, 1) := by decide +kernel
theorem dL_leg_4 : decode cL_leg 4 = .ok (.iload 4, 2) := by decide +kernel
theorem dL_leg_6 : decode cL_leg 6 = .ok (.invokevirtual 51, 3) := by decide +kernel
theorem dL_leg_9 : decode cL_leg 9 = .ok (.ireturn, 1) := by decide +kernel
theorem dL_leg_10 : decode cL_leg 10 = .ok (.astore 5, 2) := by decide +kernel
theorem dL_leg_12 : decode cL_leg 12 = .ok (.ldc 18, 2) := by decide +kernel
theorem dL_leg_14 : decode cL_leg 14 = .ok (.ireturn, 1) := by decide +kernel
theorem dL_leg_15 : decode cL_leg 15 = .ok (.astore 5, 2) := by decide +kernel
theorem dL_leg_17 : decode cL_leg 17 = .ok (.ldc 21, 2) := by decide +kernel
theorem dL_leg_19 : decode cL_leg 19 = .ok (.ireturn, 1) := by decide +kernel
theorem dL_leg_20 : decode cL_leg 20 = .ok (.astore 5, 2) := by decide +kernel
theorem dL_leg_22 : decode cL_leg 22 = .ok (.ldc 28, 2) := by decide +kernel
theorem dL_leg_24 : decode cL_leg 24 = .ok (.ireturn, 1) := by decide +kernel
theorem dL_part_0 : decode cL_part 0 = .ok (.aload_n 0, 1) := by decide +kernel
theorem dL_part_1 : decode cL_part 1 = .ok (.iload_n 1, 1) := by decide +kernel
theorem dL_part_2 : decode cL_part 2 = .ok (.iload_n 2, 1) := by decide +kernel
theorem dL_part_3 : decode cL_part 3 = .ok (.invokevirtual 54, 3) := by decide +kernel
theorem dL_part_6 : decode cL_part 6 = .ok (.ireturn, 1) := by decide +kernel
theorem dL_part_7 : decode cL_part 7 = .ok (.astore_n 3, 1) := by decide +kernel
theorem dL_part_8 : decode cL_part 8 = .ok (.ldc 18, 2) := by decide +kernel
theorem dL_part_10 : decode cL_part 10 = .ok (.ireturn, 1) := by decide +kernel
theorem dL_part_11 : decode cL_part 11 = .ok (.astore_n 3, 1) := by decide +kernel
theorem dL_part_12 : decode cL_part 12 = .ok (.ldc 21, 2) := by decide +kernel
theorem dL_part_14 : decode cL_part 14 = .ok (.ireturn, 1) := by decide +kernel
theorem dL_issue_0 : decode cL_issue 0 = .ok (.aload_n 0, 1) := by decide +kernel
theorem dL_issue_1 : decode cL_issue 1 = .ok (.iload_n 1, 1) := by decide +kernel
theorem dL_issue_2 : decode cL_issue 2 = .ok (.invokevirtual 58, 3) := by decide +kernel
theorem dL_issue_5 : decode cL_issue 5 = .ok (.ireturn, 1) := by decide +kernel
theorem dL_issue_6 : decode cL_issue 6 = .ok (.astore_n 2, 1) := by decide +kernel
theorem dL_issue_7 : decode cL_issue 7 = .ok (.ldc 18, 2) := by decide +kernel
theorem dL_issue_9 : decode cL_issue 9 = .ok (.ireturn, 1) := by decide +kernel
theorem dL_issue_10 : decode cL_issue 10 = .ok (.astore_n 2, 1) := by decide +kernel
theorem dL_issue_11 : decode cL_issue 11 = .ok (.ldc 28, 2) := by decide +kernel
theorem dL_issue_13 : decode cL_issue 13 = .ok (.ireturn, 1) := by decide +kernel
theorem dL_fly_0 : decode cL_fly 0 = .ok (.aload_n 0, 1) := by decide +kernel
theorem dL_fly_1 : decode cL_fly 1 = .ok (.iload_n 1, 1) := by decide +kernel
theorem dL_fly_2 : decode cL_fly 2 = .ok (.iload_n 2, 1) := by decide +kernel
theorem dL_fly_3 : decode cL_fly 3 = .ok (.invokevirtual 61, 3) := by decide +kernel
theorem dL_fly_6 : decode cL_fly 6 = .ok (.ireturn, 1) := by decide +kernel
theorem dL_fly_7 : decode cL_fly 7 = .ok (.astore_n 3, 1) := by decide +kernel
theorem dL_fly_8 : decode cL_fly 8 = .ok (.ldc 18, 2) := by decide +kernel
theorem dL_fly_10 : decode cL_fly 10 = .ok (.ireturn, 1) := by decide +kernel
theorem dL_fly_11 : decode cL_fly 11 = .ok (.astore_n 3, 1) := by decide +kernel
theorem dL_fly_12 : decode cL_fly 12 = .ok (.ldc 28, 2) := by decide +kernel
theorem dL_fly_14 : decode cL_fly 14 = .ok (.ireturn, 1) := by decide +kernel
theorem dL_endorse_0 : decode cL_endorse 0 = .ok (.aload_n 0, 1) := by decide +kernel
theorem dL_endorse_1 : decode cL_endorse 1 = .ok (.iload_n 1, 1) := by decide +kernel
theorem dL_endorse_2 : decode cL_endorse 2 = .ok (.iload_n 2, 1) := by decide +kernel
theorem dL_endorse_3 : decode cL_endorse 3 = .ok (.iload_n 3, 1) := by decide +kernel
theorem dL_endorse_4 : decode cL_endorse 4 = .ok (.invokevirtual 64, 3) := by decide +kernel
theorem dL_endorse_7 : decode cL_endorse 7 = .ok (.ireturn, 1) := by decide +kernel
theorem dL_endorse_8 : decode cL_endorse 8 = .ok (.astore 4, 2) := by decide +kernel
theorem dL_endorse_10 : decode cL_endorse 10 = .ok (.ldc 18, 2) := by decide +kernel
theorem dL_endorse_12 : decode cL_endorse 12 = .ok (.ireturn, 1) := by decide +kernel
theorem dL_endorse_13 : decode cL_endorse 13 = .ok (.astore 4, 2) := by decide +kernel
theorem dL_endorse_15 : decode cL_endorse 15 = .ok (.ldc 28, 2) := by decide +kernel
theorem dL_endorse_17 : decode cL_endorse 17 = .ok (.ireturn, 1) := by decide +kernel
theorem dL_refund_0 : decode cL_refund 0 = .ok (.aload_n 0, 1) := by decide +kernel
theorem dL_refund_1 : decode cL_refund 1 = .ok (.iload_n 1, 1) := by decide +kernel
theorem dL_refund_2 : decode cL_refund 2 = .ok (.invokevirtual 67, 3) := by decide +kernel
theorem dL_refund_5 : decode cL_refund 5 = .ok (.ireturn, 1) := by decide +kernel
theorem dL_refund_6 : decode cL_refund 6 = .ok (.astore_n 2, 1) := by decide +kernel
theorem dL_refund_7 : decode cL_refund 7 = .ok (.ldc 18, 2) := by decide +kernel
theorem dL_refund_9 : decode cL_refund 9 = .ok (.ireturn, 1) := by decide +kernel
theorem dL_refund_10 : decode cL_refund 10 = .ok (.astore_n 2, 1) := by decide +kernel
theorem dL_refund_11 : decode cL_refund 11 = .ok (.ldc 28, 2) := by decide +kernel
theorem dL_refund_13 : decode cL_refund 13 = .ok (.ireturn, 1) := by decide +kernel
theorem dL_reissue_0 : decode cL_reissue 0 = .ok (.aload_n 0, 1) := by decide +kernel
theorem dL_reissue_1 : decode cL_reissue 1 = .ok (.iload_n 1, 1) := by decide +kernel
theorem dL_reissue_2 : decode cL_reissue 2 = .ok (.invokevirtual 70, 3) := by decide +kernel
theorem dL_reissue_5 : decode cL_reissue 5 = .ok (.ireturn, 1) := by decide +kernel
theorem dL_reissue_6 : decode cL_reissue 6 = .ok (.astore_n 2, 1) := by decide +kernel
theorem dL_reissue_7 : decode cL_reissue 7 = .ok (.ldc 18, 2) := by decide +kernel
theorem dL_reissue_9 : decode cL_reissue 9 = .ok (.ireturn, 1) := by decide +kernel
theorem dL_reissue_10 : decode cL_reissue 10 = .ok (.astore_n 2, 1) := by decide +kernel
theorem dL_reissue_11 : decode cL_reissue 11 = .ok (.ldc 28, 2) := by decide +kernel
theorem dL_reissue_13 : decode cL_reissue 13 = .ok (.ireturn, 1) := by decide +kernel
theorem dL_pass_0 : decode cL_pass 0 = .ok (.aload_n 0, 1) := by decide +kernel
theorem dL_pass_1 : decode cL_pass 1 = .ok (.iload_n 1, 1) := by decide +kernel
theorem dL_pass_2 : decode cL_pass 2 = .ok (.invokevirtual 73, 3) := by decide +kernel
theorem dL_pass_5 : decode cL_pass 5 = .ok (.ireturn, 1) := by decide +kernel
theorem dL_pass_6 : decode cL_pass 6 = .ok (.astore_n 2, 1) := by decide +kernel
theorem dL_pass_7 : decode cL_pass 7 = .ok (.ldc 21, 2) := by decide +kernel
theorem dL_pass_9 : decode cL_pass 9 = .ok (.ireturn, 1) := by decide +kernel
theorem dL_pass_10 : decode cL_pass 10 = .ok (.astore_n 2, 1) := by decide +kernel
theorem dL_pass_11 : decode cL_pass 11 = .ok (.ldc 28, 2) := by decide +kernel
theorem dL_pass_13 : decode cL_pass 13 = .ok (.ireturn, 1) := by decide +kernel
theorem dL_reject_0 : decode cL_reject 0 = .ok (.aload_n 0, 1) := by decide +kernel
theorem dL_reject_1 : decode cL_reject 1 = .ok (.iload_n 1, 1) := by decide +kernel
theorem dL_reject_2 : decode cL_reject 2 = .ok (.invokevirtual 76, 3) := by decide +kernel
theorem dL_reject_5 : decode cL_reject 5 = .ok (.ireturn, 1) := by decide +kernel
theorem dL_reject_6 : decode cL_reject 6 = .ok (.astore_n 2, 1) := by decide +kernel
theorem dL_reject_7 : decode cL_reject 7 = .ok (.ldc 18, 2) := by decide +kernel
theorem dL_reject_9 : decode cL_reject 9 = .ok (.ireturn, 1) := by decide +kernel
theorem dL_reject_10 : decode cL_reject 10 = .ok (.astore_n 2, 1) := by decide +kernel
theorem dL_reject_11 : decode cL_reject 11 = .ok (.ldc 28, 2) := by decide +kernel
theorem dL_reject_13 : decode cL_reject 13 = .ok (.ireturn, 1) := by decide +kernel
theorem dL_rebill_0 : decode cL_rebill 0 = .ok (.aload_n 0, 1) := by decide +kernel
theorem dL_rebill_1 : decode cL_rebill 1 = .ok (.iload_n 1, 1) := by decide +kernel
theorem dL_rebill_2 : decode cL_rebill 2 = .ok (.invokevirtual 79, 3) := by decide +kernel
theorem dL_rebill_5 : decode cL_rebill 5 = .ok (.iconst 0, 1) := by decide +kernel
theorem dL_rebill_6 : decode cL_rebill 6 = .ok (.ireturn, 1) := by decide +kernel
theorem dL_rebill_7 : decode cL_rebill 7 = .ok (.astore_n 2, 1) := by decide +kernel
theorem dL_rebill_8 : decode cL_rebill 8 = .ok (.ldc 18, 2) := by decide +kernel
theorem dL_rebill_10 : decode cL_rebill 10 = .ok (.ireturn, 1) := by decide +kernel
theorem dL_rebill_11 : decode cL_rebill 11 = .ok (.astore_n 2, 1) := by decide +kernel
theorem dL_rebill_12 : decode cL_rebill 12 = .ok (.ldc 28, 2) := by decide +kernel
theorem dL_rebill_14 : decode cL_rebill 14 = .ok (.ireturn, 1) := by decide +kernel
theorem dL_fails_0 : decode cL_fails 0 = .ok (.aload_n 0, 1) := by decide +kernel
theorem dL_fails_1 : decode cL_fails 1 = .ok (.iload_n 1, 1) := by decide +kernel
theorem dL_fails_2 : decode cL_fails 2 = .ok (.iload_n 2, 1) := by decide +kernel
theorem dL_fails_3 : decode cL_fails 3 = .ok (.invokevirtual 82, 3) := by decide +kernel
theorem dL_fails_6 : decode cL_fails 6 = .ok (.ireturn, 1) := by decide +kernel
theorem dL_fails_7 : decode cL_fails 7 = .ok (.astore_n 3, 1) := by decide +kernel
theorem dL_fails_8 : decode cL_fails 8 = .ok (.ldc 18, 2) := by decide +kernel
theorem dL_fails_10 : decode cL_fails 10 = .ok (.ireturn, 1) := by decide +kernel
theorem dL_ofTicket_0 : decode cL_ofTicket 0 = .ok (.aload_n 0, 1) := by decide +kernel
theorem dL_ofTicket_1 : decode cL_ofTicket 1 = .ok (.iload_n 1, 1) := by decide +kernel
theorem dL_ofTicket_2 : decode cL_ofTicket 2 = .ok (.iload_n 2, 1) := by decide +kernel
theorem dL_ofTicket_3 : decode cL_ofTicket 3 = .ok (.invokevirtual 86, 3) := by decide +kernel
theorem dL_ofTicket_6 : decode cL_ofTicket 6 = .ok (.ireturn, 1) := by decide +kernel
theorem dL_ofTicket_7 : decode cL_ofTicket 7 = .ok (.astore_n 3, 1) := by decide +kernel
theorem dL_ofTicket_8 : decode cL_ofTicket 8 = .ok (.ldc 18, 2) := by decide +kernel
theorem dL_ofTicket_10 : decode cL_ofTicket 10 = .ok (.ireturn, 1) := by decide +kernel
theorem dL_ofTicket_11 : decode cL_ofTicket 11 = .ok (.astore_n 3, 1) := by decide +kernel
theorem dL_ofTicket_12 : decode cL_ofTicket 12 = .ok (.ldc 21, 2) := by decide +kernel
theorem dL_ofTicket_14 : decode cL_ofTicket 14 = .ok (.ireturn, 1) := by decide +kernel
theorem dL_ofCoupon_0 : decode cL_ofCoupon 0 = .ok (.aload_n 0, 1) := by decide +kernel
theorem dL_ofCoupon_1 : decode cL_ofCoupon 1 = .ok (.iload_n 1, 1) := by decide +kernel
theorem dL_ofCoupon_2 : decode cL_ofCoupon 2 = .ok (.iload_n 2, 1) := by decide +kernel
theorem dL_ofCoupon_3 : decode cL_ofCoupon 3 = .ok (.iload_n 3, 1) := by decide +kernel
theorem dL_ofCoupon_4 : decode cL_ofCoupon 4 = .ok (.invokevirtual 89, 3) := by decide +kernel
theorem dL_ofCoupon_7 : decode cL_ofCoupon 7 = .ok (.ireturn, 1) := by decide +kernel
theorem dL_ofCoupon_8 : decode cL_ofCoupon 8 = .ok (.astore 4, 2) := by decide +kernel
theorem dL_ofCoupon_10 : decode cL_ofCoupon 10 = .ok (.ldc 18, 2) := by decide +kernel
theorem dL_ofCoupon_12 : decode cL_ofCoupon 12 = .ok (.ireturn, 1) := by decide +kernel
theorem dL_ofCoupon_13 : decode cL_ofCoupon 13 = .ok (.astore 4, 2) := by decide +kernel
theorem dL_ofCoupon_15 : decode cL_ofCoupon 15 = .ok (.ldc 21, 2) := by decide +kernel
theorem dL_ofCoupon_17 : decode cL_ofCoupon 17 = .ok (.ireturn, 1) := by decide +kernel
theorem dL_ofBill_0 : decode cL_ofBill 0 = .ok (.aload_n 0, 1) := by decide +kernel
theorem dL_ofBill_1 : decode cL_ofBill 1 = .ok (.iload_n 1, 1) := by decide +kernel
theorem dL_ofBill_2 : decode cL_ofBill 2 = .ok (.iload_n 2, 1) := by decide +kernel
theorem dL_ofBill_3 : decode cL_ofBill 3 = .ok (.invokevirtual 92, 3) := by decide +kernel
theorem dL_ofBill_6 : decode cL_ofBill 6 = .ok (.ireturn, 1) := by decide +kernel
theorem dL_ofBill_7 : decode cL_ofBill 7 = .ok (.astore_n 3, 1) := by decide +kernel
theorem dL_ofBill_8 : decode cL_ofBill 8 = .ok (.ldc 18, 2) := by decide +kernel
theorem dL_ofBill_10 : decode cL_ofBill 10 = .ok (.ireturn, 1) := by decide +kernel
theorem dL_ofBill_11 : decode cL_ofBill 11 = .ok (.astore_n 3, 1) := by decide +kernel
theorem dL_ofBill_12 : decode cL_ofBill 12 = .ok (.ldc 21, 2) := by decide +kernel
theorem dL_ofBill_14 : decode cL_ofBill 14 = .ok (.ireturn, 1) := by decide +kernel
theorem dL_cash_0 : decode cL_cash 0 = .ok (.aload_n 0, 1) := by decide +kernel
theorem dL_cash_1 : decode cL_cash 1 = .ok (.iload_n 1, 1) := by decide +kernel
theorem dL_cash_2 : decode cL_cash 2 = .ok (.invokevirtual 95, 3) := by decide +kernel
theorem dL_cash_5 : decode cL_cash 5 = .ok (.lreturn, 1) := by decide +kernel
theorem dL_cash_6 : decode cL_cash 6 = .ok (.astore_n 2, 1) := by decide +kernel
theorem dL_cash_7 : decode cL_cash 7 = .ok (.ldc2_w 99, 3) := by decide +kernel
theorem dL_cash_10 : decode cL_cash 10 = .ok (.lreturn, 1) := by decide +kernel
theorem dL_cashAnew_0 : decode cL_cashAnew 0 = .ok (.aload_n 0, 1) := by decide +kernel
theorem dL_cashAnew_1 : decode cL_cashAnew 1 = .ok (.iload_n 1, 1) := by decide +kernel
theorem dL_cashAnew_2 : decode cL_cashAnew 2 = .ok (.invokevirtual 101, 3) := by decide +kernel
theorem dL_cashAnew_5 : decode cL_cashAnew 5 = .ok (.lreturn, 1) := by decide +kernel
theorem dL_cashAnew_6 : decode cL_cashAnew 6 = .ok (.astore_n 2, 1) := by decide +kernel
theorem dL_cashAnew_7 : decode cL_cashAnew 7 = .ok (.ldc2_w 99, 3) := by decide +kernel
theorem dL_cashAnew_10 : decode cL_cashAnew 10 = .ok (.lreturn, 1) := by decide +kernel
theorem dL_state_0 : decode cL_state 0 = .ok (.aload_n 0, 1) := by decide +kernel
theorem dL_state_1 : decode cL_state 1 = .ok (.iload_n 1, 1) := by decide +kernel
theorem dL_state_2 : decode cL_state 2 = .ok (.invokevirtual 104, 3) := by decide +kernel
theorem dL_state_5 : decode cL_state 5 = .ok (.lreturn, 1) := by decide +kernel
theorem dL_state_6 : decode cL_state 6 = .ok (.astore_n 2, 1) := by decide +kernel
theorem dL_state_7 : decode cL_state 7 = .ok (.ldc2_w 99, 3) := by decide +kernel
theorem dL_state_10 : decode cL_state 10 = .ok (.lreturn, 1) := by decide +kernel
theorem dL_of_0 : decode cL_of 0 = .ok (.aload_n 0, 1) := by decide +kernel
theorem dL_of_1 : decode cL_of 1 = .ok (.iload_n 1, 1) := by decide +kernel
theorem dL_of_2 : decode cL_of 2 = .ok (.invokevirtual 107, 3) := by decide +kernel
theorem dL_of_5 : decode cL_of 5 = .ok (.ireturn, 1) := by decide +kernel
theorem dL_of_6 : decode cL_of 6 = .ok (.astore_n 2, 1) := by decide +kernel
theorem dL_of_7 : decode cL_of 7 = .ok (.ldc 21, 2) := by decide +kernel
theorem dL_of_9 : decode cL_of 9 = .ok (.ireturn, 1) := by decide +kernel
theorem dL_balances_0 : decode cL_balances 0 = .ok (.lconst 0, 1) := by decide +kernel
theorem dL_balances_1 : decode cL_balances 1 = .ok (.lstore_n 2, 1) := by decide +kernel
theorem dL_balances_2 : decode cL_balances 2 = .ok (.aload_n 0, 1) := by decide +kernel
theorem dL_balances_3 : decode cL_balances 3 = .ok (.iconst 5, 1) := by decide +kernel
theorem dL_balances_4 : decode cL_balances 4 = .ok (.invokestatic 110, 3) := by decide +kernel
theorem dL_balances_7 : decode cL_balances 7 = .ok (.ldc2_w 99, 3) := by decide +kernel
theorem dL_balances_10 : decode cL_balances 10 = .ok (.lcmp, 1) := by decide +kernel
theorem dL_balances_11 : decode cL_balances 11 = .ok (.ifCond .ne 31, 3) := by decide +kernel
theorem dL_balances_14 : decode cL_balances 14 = .ok (.aload_n 0, 1) := by decide +kernel
theorem dL_balances_15 : decode cL_balances 15 = .ok (.bipush 10, 2) := by decide +kernel
theorem dL_balances_17 : decode cL_balances 17 = .ok (.invokestatic 115, 3) := by decide +kernel
theorem dL_balances_20 : decode cL_balances 20 = .ok (.ldc2_w 99, 3) := by decide +kernel
theorem dL_balances_23 : decode cL_balances 23 = .ok (.lcmp, 1) := by decide +kernel
theorem dL_balances_24 : decode cL_balances 24 = .ok (.ifCond .ne 18, 3) := by decide +kernel
theorem dL_balances_27 : decode cL_balances 27 = .ok (.aload_n 0, 1) := by decide +kernel
theorem dL_balances_28 : decode cL_balances 28 = .ok (.bipush 6, 2) := by decide +kernel
theorem dL_balances_30 : decode cL_balances 30 = .ok (.invokestatic 117, 3) := by decide +kernel
theorem dL_balances_33 : decode cL_balances 33 = .ok (.ldc 21, 2) := by decide +kernel
theorem dL_balances_35 : decode cL_balances 35 = .ok (.if_icmp .ne 7, 3) := by decide +kernel
theorem dL_balances_38 : decode cL_balances 38 = .ok (.iconst 1, 1) := by decide +kernel
theorem dL_balances_39 : decode cL_balances 39 = .ok (.goto 4, 3) := by decide +kernel
theorem dL_balances_42 : decode cL_balances 42 = .ok (.iconst 0, 1) := by decide +kernel
theorem dL_balances_43 : decode cL_balances 43 = .ok (.istore 4, 2) := by decide +kernel
theorem dL_balances_45 : decode cL_balances 45 = .ok (.iconst 0, 1) := by decide +kernel
theorem dL_balances_46 : decode cL_balances 46 = .ok (.istore 5, 2) := by decide +kernel
theorem dL_balances_48 : decode cL_balances 48 = .ok (.iload 5, 2) := by decide +kernel
theorem dL_balances_50 : decode cL_balances 50 = .ok (.iconst 5, 1) := by decide +kernel
theorem dL_balances_51 : decode cL_balances 51 = .ok (.if_icmp .ge 46, 3) := by decide +kernel
theorem dL_balances_54 : decode cL_balances 54 = .ok (.iload 4, 2) := by decide +kernel
theorem dL_balances_56 : decode cL_balances 56 = .ok (.ifCond .eq 41, 3) := by decide +kernel
theorem dL_balances_59 : decode cL_balances 59 = .ok (.lload_n 2, 1) := by decide +kernel
theorem dL_balances_60 : decode cL_balances 60 = .ok (.aload_n 0, 1) := by decide +kernel
theorem dL_balances_61 : decode cL_balances 61 = .ok (.iload 5, 2) := by decide +kernel
theorem dL_balances_63 : decode cL_balances 63 = .ok (.invokestatic 110, 3) := by decide +kernel
theorem dL_balances_66 : decode cL_balances 66 = .ok (.ladd, 1) := by decide +kernel
theorem dL_balances_67 : decode cL_balances 67 = .ok (.lstore_n 2, 1) := by decide +kernel
theorem dL_balances_68 : decode cL_balances 68 = .ok (.aload_n 0, 1) := by decide +kernel
theorem dL_balances_69 : decode cL_balances 69 = .ok (.iload 5, 2) := by decide +kernel
theorem dL_balances_71 : decode cL_balances 71 = .ok (.invokestatic 110, 3) := by decide +kernel
theorem dL_balances_74 : decode cL_balances 74 = .ok (.aload_n 0, 1) := by decide +kernel
theorem dL_balances_75 : decode cL_balances 75 = .ok (.iload 5, 2) := by decide +kernel
theorem dL_balances_77 : decode cL_balances 77 = .ok (.invokestatic 120, 3) := by decide +kernel
theorem dL_balances_80 : decode cL_balances 80 = .ok (.lcmp, 1) := by decide +kernel
theorem dL_balances_81 : decode cL_balances 81 = .ok (.ifCond .ne 7, 3) := by decide +kernel
theorem dL_balances_84 : decode cL_balances 84 = .ok (.iconst 1, 1) := by decide +kernel
theorem dL_balances_85 : decode cL_balances 85 = .ok (.goto 4, 3) := by decide +kernel
theorem dL_balances_88 : decode cL_balances 88 = .ok (.iconst 0, 1) := by decide +kernel
theorem dL_balances_89 : decode cL_balances 89 = .ok (.istore 4, 2) := by decide +kernel
theorem dL_balances_91 : decode cL_balances 91 = .ok (.iinc 5 1, 3) := by decide +kernel
theorem dL_balances_94 : decode cL_balances 94 = .ok (.goto (-46), 3) := by decide +kernel
theorem dL_balances_97 : decode cL_balances 97 = .ok (.iconst 0, 1) := by decide +kernel
theorem dL_balances_98 : decode cL_balances 98 = .ok (.istore 5, 2) := by decide +kernel
theorem dL_balances_100 : decode cL_balances 100 = .ok (.iload 5, 2) := by decide +kernel
theorem dL_balances_102 : decode cL_balances 102 = .ok (.bipush 10, 2) := by decide +kernel
theorem dL_balances_104 : decode cL_balances 104 = .ok (.if_icmp .ge 41, 3) := by decide +kernel
theorem dL_balances_107 : decode cL_balances 107 = .ok (.iload 4, 2) := by decide +kernel
theorem dL_balances_109 : decode cL_balances 109 = .ok (.ifCond .eq 36, 3) := by decide +kernel
theorem dL_balances_112 : decode cL_balances 112 = .ok (.lload_n 2, 1) := by decide +kernel
theorem dL_balances_113 : decode cL_balances 113 = .ok (.aload_n 0, 1) := by decide +kernel
theorem dL_balances_114 : decode cL_balances 114 = .ok (.iload 5, 2) := by decide +kernel
theorem dL_balances_116 : decode cL_balances 116 = .ok (.invokestatic 115, 3) := by decide +kernel
theorem dL_balances_119 : decode cL_balances 119 = .ok (.ladd, 1) := by decide +kernel
theorem dL_balances_120 : decode cL_balances 120 = .ok (.lstore_n 2, 1) := by decide +kernel
theorem dL_balances_121 : decode cL_balances 121 = .ok (.aload_n 0, 1) := by decide +kernel
theorem dL_balances_122 : decode cL_balances 122 = .ok (.iload 5, 2) := by decide +kernel
theorem dL_balances_124 : decode cL_balances 124 = .ok (.invokestatic 115, 3) := by decide +kernel
theorem dL_balances_127 : decode cL_balances 127 = .ok (.lconst 0, 1) := by decide +kernel
theorem dL_balances_128 : decode cL_balances 128 = .ok (.lcmp, 1) := by decide +kernel
theorem dL_balances_129 : decode cL_balances 129 = .ok (.ifCond .lt 7, 3) := by decide +kernel
theorem dL_balances_132 : decode cL_balances 132 = .ok (.iconst 1, 1) := by decide +kernel
theorem dL_balances_133 : decode cL_balances 133 = .ok (.goto 4, 3) := by decide +kernel
theorem dL_balances_136 : decode cL_balances 136 = .ok (.iconst 0, 1) := by decide +kernel
theorem dL_balances_137 : decode cL_balances 137 = .ok (.istore 4, 2) := by decide +kernel
theorem dL_balances_139 : decode cL_balances 139 = .ok (.iinc 5 1, 3) := by decide +kernel
theorem dL_balances_142 : decode cL_balances 142 = .ok (.goto (-42), 3) := by decide +kernel
theorem dL_balances_145 : decode cL_balances 145 = .ok (.iload 4, 2) := by decide +kernel
theorem dL_balances_147 : decode cL_balances 147 = .ok (.ifCond .eq 89, 3) := by decide +kernel
theorem dL_balances_150 : decode cL_balances 150 = .ok (.lload_n 2, 1) := by decide +kernel
theorem dL_balances_151 : decode cL_balances 151 = .ok (.aload_n 0, 1) := by decide +kernel
theorem dL_balances_152 : decode cL_balances 152 = .ok (.invokevirtual 122, 3) := by decide +kernel
theorem dL_balances_155 : decode cL_balances 155 = .ok (.lcmp, 1) := by decide +kernel
theorem dL_balances_156 : decode cL_balances 156 = .ok (.ifCond .ne 80, 3) := by decide +kernel
theorem dL_balances_159 : decode cL_balances 159 = .ok (.aload_n 0, 1) := by decide +kernel
theorem dL_balances_160 : decode cL_balances 160 = .ok (.iconst 0, 1) := by decide +kernel
theorem dL_balances_161 : decode cL_balances 161 = .ok (.invokestatic 117, 3) := by decide +kernel
theorem dL_balances_164 : decode cL_balances 164 = .ok (.aload_n 1, 1) := by decide +kernel
theorem dL_balances_165 : decode cL_balances 165 = .ok (.iconst 0, 1) := by decide +kernel
theorem dL_balances_166 : decode cL_balances 166 = .ok (.iaload, 1) := by decide +kernel
theorem dL_balances_167 : decode cL_balances 167 = .ok (.if_icmp .ne 69, 3) := by decide +kernel
theorem dL_balances_170 : decode cL_balances 170 = .ok (.aload_n 0, 1) := by decide +kernel
theorem dL_balances_171 : decode cL_balances 171 = .ok (.iconst 1, 1) := by decide +kernel
theorem dL_balances_172 : decode cL_balances 172 = .ok (.invokestatic 117, 3) := by decide +kernel
theorem dL_balances_175 : decode cL_balances 175 = .ok (.aload_n 1, 1) := by decide +kernel
theorem dL_balances_176 : decode cL_balances 176 = .ok (.iconst 1, 1) := by decide +kernel
theorem dL_balances_177 : decode cL_balances 177 = .ok (.iaload, 1) := by decide +kernel
theorem dL_balances_178 : decode cL_balances 178 = .ok (.if_icmp .ne 58, 3) := by decide +kernel
theorem dL_balances_181 : decode cL_balances 181 = .ok (.aload_n 0, 1) := by decide +kernel
theorem dL_balances_182 : decode cL_balances 182 = .ok (.iconst 2, 1) := by decide +kernel
theorem dL_balances_183 : decode cL_balances 183 = .ok (.invokestatic 117, 3) := by decide +kernel
theorem dL_balances_186 : decode cL_balances 186 = .ok (.aload_n 1, 1) := by decide +kernel
theorem dL_balances_187 : decode cL_balances 187 = .ok (.iconst 2, 1) := by decide +kernel
theorem dL_balances_188 : decode cL_balances 188 = .ok (.iaload, 1) := by decide +kernel
theorem dL_balances_189 : decode cL_balances 189 = .ok (.if_icmp .ne 47, 3) := by decide +kernel
theorem dL_balances_192 : decode cL_balances 192 = .ok (.aload_n 0, 1) := by decide +kernel
theorem dL_balances_193 : decode cL_balances 193 = .ok (.iconst 3, 1) := by decide +kernel
theorem dL_balances_194 : decode cL_balances 194 = .ok (.invokestatic 117, 3) := by decide +kernel
theorem dL_balances_197 : decode cL_balances 197 = .ok (.aload_n 1, 1) := by decide +kernel
theorem dL_balances_198 : decode cL_balances 198 = .ok (.iconst 3, 1) := by decide +kernel
theorem dL_balances_199 : decode cL_balances 199 = .ok (.iaload, 1) := by decide +kernel
theorem dL_balances_200 : decode cL_balances 200 = .ok (.if_icmp .ne 36, 3) := by decide +kernel
theorem dL_balances_203 : decode cL_balances 203 = .ok (.aload_n 0, 1) := by decide +kernel
theorem dL_balances_204 : decode cL_balances 204 = .ok (.iconst 4, 1) := by decide +kernel
theorem dL_balances_205 : decode cL_balances 205 = .ok (.invokestatic 117, 3) := by decide +kernel
theorem dL_balances_208 : decode cL_balances 208 = .ok (.aload_n 1, 1) := by decide +kernel
theorem dL_balances_209 : decode cL_balances 209 = .ok (.iconst 4, 1) := by decide +kernel
theorem dL_balances_210 : decode cL_balances 210 = .ok (.iaload, 1) := by decide +kernel
theorem dL_balances_211 : decode cL_balances 211 = .ok (.if_icmp .ne 25, 3) := by decide +kernel
theorem dL_balances_214 : decode cL_balances 214 = .ok (.aload_n 0, 1) := by decide +kernel
theorem dL_balances_215 : decode cL_balances 215 = .ok (.iconst 5, 1) := by decide +kernel
theorem dL_balances_216 : decode cL_balances 216 = .ok (.invokestatic 117, 3) := by decide +kernel
theorem dL_balances_219 : decode cL_balances 219 = .ok (.ifCond .lt 17, 3) := by decide +kernel
theorem dL_balances_222 : decode cL_balances 222 = .ok (.aload_n 0, 1) := by decide +kernel
theorem dL_balances_223 : decode cL_balances 223 = .ok (.iconst 5, 1) := by decide +kernel
theorem dL_balances_224 : decode cL_balances 224 = .ok (.invokestatic 117, 3) := by decide +kernel
theorem dL_balances_227 : decode cL_balances 227 = .ok (.bipush 32, 2) := by decide +kernel
theorem dL_balances_229 : decode cL_balances 229 = .ok (.if_icmp .ge 7, 3) := by decide +kernel
theorem dL_balances_232 : decode cL_balances 232 = .ok (.iconst 1, 1) := by decide +kernel
theorem dL_balances_233 : decode cL_balances 233 = .ok (.goto 4, 3) := by decide +kernel
theorem dL_balances_236 : decode cL_balances 236 = .ok (.iconst 0, 1) := by decide +kernel
theorem dL_balances_237 : decode cL_balances 237 = .ok (.ireturn, 1) := by decide +kernel
theorem dL_isWay_0 : decode cL_isWay 0 = .ok (.aload_n 1, 1) := by decide +kernel
theorem dL_isWay_1 : decode cL_isWay 1 = .ok (.bipush 6, 2) := by decide +kernel
theorem dL_isWay_3 : decode cL_isWay 3 = .ok (.dup2, 1) := by decide +kernel
theorem dL_isWay_4 : decode cL_isWay 4 = .ok (.iaload, 1) := by decide +kernel
theorem dL_isWay_5 : decode cL_isWay 5 = .ok (.iconst 1, 1) := by decide +kernel
theorem dL_isWay_6 : decode cL_isWay 6 = .ok (.iadd, 1) := by decide +kernel
theorem dL_isWay_7 : decode cL_isWay 7 = .ok (.iastore, 1) := by decide +kernel
theorem dL_isWay_8 : decode cL_isWay 8 = .ok (.aload_n 1, 1) := by decide +kernel
theorem dL_isWay_9 : decode cL_isWay 9 = .ok (.bipush 6, 2) := by decide +kernel
theorem dL_isWay_11 : decode cL_isWay 11 = .ok (.iaload, 1) := by decide +kernel
theorem dL_isWay_12 : decode cL_isWay 12 = .ok (.bipush 24, 2) := by decide +kernel
theorem dL_isWay_14 : decode cL_isWay 14 = .ok (.if_icmp .le 5, 3) := by decide +kernel
theorem dL_isWay_17 : decode cL_isWay 17 = .ok (.iconst 1, 1) := by decide +kernel
theorem dL_isWay_18 : decode cL_isWay 18 = .ok (.ireturn, 1) := by decide +kernel
theorem dL_isWay_19 : decode cL_isWay 19 = .ok (.aload_n 0, 1) := by decide +kernel
theorem dL_isWay_20 : decode cL_isWay 20 = .ok (.invokevirtual 126, 3) := by decide +kernel
theorem dL_isWay_23 : decode cL_isWay 23 = .ok (.istore_n 2, 1) := by decide +kernel
theorem dL_isWay_24 : decode cL_isWay 24 = .ok (.aload_n 0, 1) := by decide +kernel
theorem dL_isWay_25 : decode cL_isWay 25 = .ok (.invokevirtual 130, 3) := by decide +kernel
theorem dL_isWay_28 : decode cL_isWay 28 = .ok (.istore_n 3, 1) := by decide +kernel
theorem dL_isWay_29 : decode cL_isWay 29 = .ok (.aload_n 1, 1) := by decide +kernel
theorem dL_isWay_30 : decode cL_isWay 30 = .ok (.iconst 1, 1) := by decide +kernel
theorem dL_isWay_31 : decode cL_isWay 31 = .ok (.iaload, 1) := by decide +kernel
theorem dL_isWay_32 : decode cL_isWay 32 = .ok (.ifCond .eq 7, 3) := by decide +kernel
theorem dL_isWay_35 : decode cL_isWay 35 = .ok (.iload_n 2, 1) := by decide +kernel
theorem dL_isWay_36 : decode cL_isWay 36 = .ok (.ifCond .ge 54, 3) := by decide +kernel
theorem dL_isWay_39 : decode cL_isWay 39 = .ok (.iload_n 2, 1) := by decide +kernel
theorem dL_isWay_40 : decode cL_isWay 40 = .ok (.iconst (-1), 1) := by decide +kernel
theorem dL_isWay_41 : decode cL_isWay 41 = .ok (.if_icmp .ne 47, 3) := by decide +kernel
theorem dL_isWay_44 : decode cL_isWay 44 = .ok (.iload_n 3, 1) := by decide +kernel
theorem dL_isWay_45 : decode cL_isWay 45 = .ok (.iconst (-1), 1) := by decide +kernel
theorem dL_isWay_46 : decode cL_isWay 46 = .ok (.if_icmp .ne 42, 3) := by decide +kernel
theorem dL_isWay_49 : decode cL_isWay 49 = .ok (.aload_n 0, 1) := by decide +kernel
theorem dL_isWay_50 : decode cL_isWay 50 = .ok (.invokevirtual 133, 3) := by decide +kernel
theorem dL_isWay_53 : decode cL_isWay 53 = .ok (.iconst (-1), 1) := by decide +kernel
theorem dL_isWay_54 : decode cL_isWay 54 = .ok (.if_icmp .ne 34, 3) := by decide +kernel
theorem dL_isWay_57 : decode cL_isWay 57 = .ok (.aload_n 1, 1) := by decide +kernel
theorem dL_isWay_58 : decode cL_isWay 58 = .ok (.iconst 1, 1) := by decide +kernel
theorem dL_isWay_59 : decode cL_isWay 59 = .ok (.iaload, 1) := by decide +kernel
theorem dL_isWay_60 : decode cL_isWay 60 = .ok (.ifCond .eq 14, 3) := by decide +kernel
theorem dL_isWay_63 : decode cL_isWay 63 = .ok (.aload_n 0, 1) := by decide +kernel
theorem dL_isWay_64 : decode cL_isWay 64 = .ok (.iconst 0, 1) := by decide +kernel
theorem dL_isWay_65 : decode cL_isWay 65 = .ok (.aload_n 1, 1) := by decide +kernel
theorem dL_isWay_66 : decode cL_isWay 66 = .ok (.iconst 1, 1) := by decide +kernel
theorem dL_isWay_67 : decode cL_isWay 67 = .ok (.iaload, 1) := by decide +kernel
theorem dL_isWay_68 : decode cL_isWay 68 = .ok (.invokestatic 136, 3) := by decide +kernel
theorem dL_isWay_71 : decode cL_isWay 71 = .ok (.ifCond .ge 17, 3) := by decide +kernel
theorem dL_isWay_74 : decode cL_isWay 74 = .ok (.aload_n 0, 1) := by decide +kernel
theorem dL_isWay_75 : decode cL_isWay 75 = .ok (.iconst 0, 1) := by decide +kernel
theorem dL_isWay_76 : decode cL_isWay 76 = .ok (.invokestatic 139, 3) := by decide +kernel
theorem dL_isWay_79 : decode cL_isWay 79 = .ok (.ldc 28, 2) := by decide +kernel
theorem dL_isWay_81 : decode cL_isWay 81 = .ok (.if_icmp .ne 7, 3) := by decide +kernel
theorem dL_isWay_84 : decode cL_isWay 84 = .ok (.iconst 1, 1) := by decide +kernel
theorem dL_isWay_85 : decode cL_isWay 85 = .ok (.goto 4, 3) := by decide +kernel
theorem dL_isWay_88 : decode cL_isWay 88 = .ok (.iconst 0, 1) := by decide +kernel
theorem dL_isWay_89 : decode cL_isWay 89 = .ok (.ireturn, 1) := by decide +kernel
theorem dL_isWay_90 : decode cL_isWay 90 = .ok (.iconst 0, 1) := by decide +kernel
theorem dL_isWay_91 : decode cL_isWay 91 = .ok (.istore 4, 2) := by decide +kernel
theorem dL_isWay_93 : decode cL_isWay 93 = .ok (.iconst 0, 1) := by decide +kernel
theorem dL_isWay_94 : decode cL_isWay 94 = .ok (.istore 5, 2) := by decide +kernel
theorem dL_isWay_96 : decode cL_isWay 96 = .ok (.iload_n 3, 1) := by decide +kernel
theorem dL_isWay_97 : decode cL_isWay 97 = .ok (.ifCond .lt 22, 3) := by decide +kernel
theorem dL_isWay_100 : decode cL_isWay 100 = .ok (.iload_n 3, 1) := by decide +kernel
theorem dL_isWay_101 : decode cL_isWay 101 = .ok (.iconst 2, 1) := by decide +kernel
theorem dL_isWay_102 : decode cL_isWay 102 = .ok (.irem, 1) := by decide +kernel
theorem dL_isWay_103 : decode cL_isWay 103 = .ok (.ifCond .ne 16, 3) := by decide +kernel
theorem dL_isWay_106 : decode cL_isWay 106 = .ok (.iload_n 3, 1) := by decide +kernel
theorem dL_isWay_107 : decode cL_isWay 107 = .ok (.iconst 1, 1) := by decide +kernel
theorem dL_isWay_108 : decode cL_isWay 108 = .ok (.aload_n 1, 1) := by decide +kernel
theorem dL_isWay_109 : decode cL_isWay 109 = .ok (.iconst 1, 1) := by decide +kernel
theorem dL_isWay_110 : decode cL_isWay 110 = .ok (.iaload, 1) := by decide +kernel
theorem dL_isWay_111 : decode cL_isWay 111 = .ok (.ishl, 1) := by decide +kernel
theorem dL_isWay_112 : decode cL_isWay 112 = .ok (.if_icmp .ge 7, 3) := by decide +kernel
theorem dL_isWay_115 : decode cL_isWay 115 = .ok (.iconst 1, 1) := by decide +kernel
theorem dL_isWay_116 : decode cL_isWay 116 = .ok (.goto 4, 3) := by decide +kernel
theorem dL_isWay_119 : decode cL_isWay 119 = .ok (.iconst 0, 1) := by decide +kernel
theorem dL_isWay_120 : decode cL_isWay 120 = .ok (.istore 6, 2) := by decide +kernel
theorem dL_isWay_122 : decode cL_isWay 122 = .ok (.iconst 1, 1) := by decide +kernel
theorem dL_isWay_123 : decode cL_isWay 123 = .ok (.istore 7, 2) := by decide +kernel
theorem dL_isWay_125 : decode cL_isWay 125 = .ok (.iload 7, 2) := by decide +kernel
theorem dL_isWay_127 : decode cL_isWay 127 = .ok (.aload_n 1, 1) := by decide +kernel
theorem dL_isWay_128 : decode cL_isWay 128 = .ok (.iconst 1, 1) := by decide +kernel
theorem dL_isWay_129 : decode cL_isWay 129 = .ok (.iaload, 1) := by decide +kernel
theorem dL_isWay_130 : decode cL_isWay 130 = .ok (.if_icmp .gt 65, 3) := by decide +kernel
theorem dL_isWay_133 : decode cL_isWay 133 = .ok (.iload 6, 2) := by decide +kernel
theorem dL_isWay_135 : decode cL_isWay 135 = .ok (.ifCond .eq 60, 3) := by decide +kernel
theorem dL_isWay_138 : decode cL_isWay 138 = .ok (.iload 7, 2) := by decide +kernel
theorem dL_isWay_140 : decode cL_isWay 140 = .ok (.aload_n 1, 1) := by decide +kernel
theorem dL_isWay_141 : decode cL_isWay 141 = .ok (.iconst 1, 1) := by decide +kernel
theorem dL_isWay_142 : decode cL_isWay 142 = .ok (.iaload, 1) := by decide +kernel
theorem dL_isWay_143 : decode cL_isWay 143 = .ok (.if_icmp .eq 13, 3) := by decide +kernel
theorem dL_isWay_146 : decode cL_isWay 146 = .ok (.iload_n 3, 1) := by decide +kernel
theorem dL_isWay_147 : decode cL_isWay 147 = .ok (.iload 7, 2) := by decide +kernel
theorem dL_isWay_149 : decode cL_isWay 149 = .ok (.ishr, 1) := by decide +kernel
theorem dL_isWay_150 : decode cL_isWay 150 = .ok (.iconst 1, 1) := by decide +kernel
theorem dL_isWay_151 : decode cL_isWay 151 = .ok (.iand, 1) := by decide +kernel
theorem dL_isWay_152 : decode cL_isWay 152 = .ok (.iconst 1, 1) := by decide +kernel
theorem dL_isWay_153 : decode cL_isWay 153 = .ok (.if_icmp .ne 36, 3) := by decide +kernel
theorem dL_isWay_156 : decode cL_isWay 156 = .ok (.aload_n 0, 1) := by decide +kernel
theorem dL_isWay_157 : decode cL_isWay 157 = .ok (.iload 5, 2) := by decide +kernel
theorem dL_isWay_159 : decode cL_isWay 159 = .ok (.iload 7, 2) := by decide +kernel
theorem dL_isWay_161 : decode cL_isWay 161 = .ok (.invokestatic 136, 3) := by decide +kernel
theorem dL_isWay_164 : decode cL_isWay 164 = .ok (.istore 8, 2) := by decide +kernel
theorem dL_isWay_166 : decode cL_isWay 166 = .ok (.iload 4, 2) := by decide +kernel
theorem dL_isWay_168 : decode cL_isWay 168 = .ok (.iload 8, 2) := by decide +kernel
theorem dL_isWay_170 : decode cL_isWay 170 = .ok (.iadd, 1) := by decide +kernel
theorem dL_isWay_171 : decode cL_isWay 171 = .ok (.istore 4, 2) := by decide +kernel
theorem dL_isWay_173 : decode cL_isWay 173 = .ok (.iload 7, 2) := by decide +kernel
theorem dL_isWay_175 : decode cL_isWay 175 = .ok (.istore 5, 2) := by decide +kernel
theorem dL_isWay_177 : decode cL_isWay 177 = .ok (.iload 8, 2) := by decide +kernel
theorem dL_isWay_179 : decode cL_isWay 179 = .ok (.ifCond .le 7, 3) := by decide +kernel
theorem dL_isWay_182 : decode cL_isWay 182 = .ok (.iconst 1, 1) := by decide +kernel
theorem dL_isWay_183 : decode cL_isWay 183 = .ok (.goto 4, 3) := by decide +kernel
theorem dL_isWay_186 : decode cL_isWay 186 = .ok (.iconst 0, 1) := by decide +kernel
theorem dL_isWay_187 : decode cL_isWay 187 = .ok (.istore 6, 2) := by decide +kernel
theorem dL_isWay_189 : decode cL_isWay 189 = .ok (.iinc 7 1, 3) := by decide +kernel
theorem dL_isWay_192 : decode cL_isWay 192 = .ok (.goto (-67), 3) := by decide +kernel
theorem dL_isWay_195 : decode cL_isWay 195 = .ok (.aload_n 0, 1) := by decide +kernel
theorem dL_isWay_196 : decode cL_isWay 196 = .ok (.iconst 0, 1) := by decide +kernel
theorem dL_isWay_197 : decode cL_isWay 197 = .ok (.aload_n 1, 1) := by decide +kernel
theorem dL_isWay_198 : decode cL_isWay 198 = .ok (.iconst 1, 1) := by decide +kernel
theorem dL_isWay_199 : decode cL_isWay 199 = .ok (.iaload, 1) := by decide +kernel
theorem dL_isWay_200 : decode cL_isWay 200 = .ok (.invokestatic 136, 3) := by decide +kernel
theorem dL_isWay_203 : decode cL_isWay 203 = .ok (.istore 7, 2) := by decide +kernel
theorem dL_isWay_205 : decode cL_isWay 205 = .ok (.iload 6, 2) := by decide +kernel
theorem dL_isWay_207 : decode cL_isWay 207 = .ok (.ifCond .eq 57, 3) := by decide +kernel
theorem dL_isWay_210 : decode cL_isWay 210 = .ok (.iload 4, 2) := by decide +kernel
theorem dL_isWay_212 : decode cL_isWay 212 = .ok (.iload_n 2, 1) := by decide +kernel
theorem dL_isWay_213 : decode cL_isWay 213 = .ok (.if_icmp .ne 51, 3) := by decide +kernel
theorem dL_isWay_216 : decode cL_isWay 216 = .ok (.aload_n 0, 1) := by decide +kernel
theorem dL_isWay_217 : decode cL_isWay 217 = .ok (.invokevirtual 133, 3) := by decide +kernel
theorem dL_isWay_220 : decode cL_isWay 220 = .ok (.iload_n 2, 1) := by decide +kernel
theorem dL_isWay_221 : decode cL_isWay 221 = .ok (.if_icmp .ne 43, 3) := by decide +kernel
theorem dL_isWay_224 : decode cL_isWay 224 = .ok (.iload 7, 2) := by decide +kernel
theorem dL_isWay_226 : decode cL_isWay 226 = .ok (.ifCond .ge 13, 3) := by decide +kernel
theorem dL_isWay_229 : decode cL_isWay 229 = .ok (.iload 7, 2) := by decide +kernel
theorem dL_isWay_231 : decode cL_isWay 231 = .ok (.bipush (-3), 2) := by decide +kernel
theorem dL_isWay_233 : decode cL_isWay 233 = .ok (.if_icmp .lt 31, 3) := by decide +kernel
theorem dL_isWay_236 : decode cL_isWay 236 = .ok (.goto 9, 3) := by decide +kernel
theorem dL_isWay_239 : decode cL_isWay 239 = .ok (.iload_n 2, 1) := by decide +kernel
theorem dL_isWay_240 : decode cL_isWay 240 = .ok (.iload 7, 2) := by decide +kernel
theorem dL_isWay_242 : decode cL_isWay 242 = .ok (.if_icmp .gt 22, 3) := by decide +kernel
theorem dL_isWay_245 : decode cL_isWay 245 = .ok (.aload_n 0, 1) := by decide +kernel
theorem dL_isWay_246 : decode cL_isWay 246 = .ok (.iconst 0, 1) := by decide +kernel
theorem dL_isWay_247 : decode cL_isWay 247 = .ok (.aload_n 1, 1) := by decide +kernel
theorem dL_isWay_248 : decode cL_isWay 248 = .ok (.iconst 1, 1) := by decide +kernel
theorem dL_isWay_249 : decode cL_isWay 249 = .ok (.iaload, 1) := by decide +kernel
theorem dL_isWay_250 : decode cL_isWay 250 = .ok (.iconst 1, 1) := by decide +kernel
theorem dL_isWay_251 : decode cL_isWay 251 = .ok (.iadd, 1) := by decide +kernel
theorem dL_isWay_252 : decode cL_isWay 252 = .ok (.invokestatic 136, 3) := by decide +kernel
theorem dL_isWay_255 : decode cL_isWay 255 = .ok (.ldc 18, 2) := by decide +kernel
theorem dL_isWay_257 : decode cL_isWay 257 = .ok (.if_icmp .ne 7, 3) := by decide +kernel
theorem dL_isWay_260 : decode cL_isWay 260 = .ok (.iconst 1, 1) := by decide +kernel
theorem dL_isWay_261 : decode cL_isWay 261 = .ok (.goto 4, 3) := by decide +kernel
theorem dL_isWay_264 : decode cL_isWay 264 = .ok (.iconst 0, 1) := by decide +kernel
theorem dL_isWay_265 : decode cL_isWay 265 = .ok (.ireturn, 1) := by decide +kernel
theorem dL_isTicket_0 : decode cL_isTicket 0 = .ok (.aload_n 0, 1) := by decide +kernel
theorem dL_isTicket_1 : decode cL_isTicket 1 = .ok (.iload_n 2, 1) := by decide +kernel
theorem dL_isTicket_2 : decode cL_isTicket 2 = .ok (.iconst 5, 1) := by decide +kernel
theorem dL_isTicket_3 : decode cL_isTicket 3 = .ok (.invokestatic 141, 3) := by decide +kernel
theorem dL_isTicket_6 : decode cL_isTicket 6 = .ok (.istore_n 3, 1) := by decide +kernel
theorem dL_isTicket_7 : decode cL_isTicket 7 = .ok (.iconst 0, 1) := by decide +kernel
theorem dL_isTicket_8 : decode cL_isTicket 8 = .ok (.istore 4, 2) := by decide +kernel
theorem dL_isTicket_10 : decode cL_isTicket 10 = .ok (.aload_n 0, 1) := by decide +kernel
theorem dL_isTicket_11 : decode cL_isTicket 11 = .ok (.iload_n 2, 1) := by decide +kernel
theorem dL_isTicket_12 : decode cL_isTicket 12 = .ok (.iconst 3, 1) := by decide +kernel
theorem dL_isTicket_13 : decode cL_isTicket 13 = .ok (.invokestatic 141, 3) := by decide +kernel
theorem dL_isTicket_16 : decode cL_isTicket 16 = .ok (.istore 5, 2) := by decide +kernel
theorem dL_isTicket_18 : decode cL_isTicket 18 = .ok (.iconst 0, 1) := by decide +kernel
theorem dL_isTicket_19 : decode cL_isTicket 19 = .ok (.istore 6, 2) := by decide +kernel
theorem dL_isTicket_21 : decode cL_isTicket 21 = .ok (.iload_n 3, 1) := by decide +kernel
theorem dL_isTicket_22 : decode cL_isTicket 22 = .ok (.ifCond .lt 44, 3) := by decide +kernel
theorem dL_isTicket_25 : decode cL_isTicket 25 = .ok (.iload 5, 2) := by decide +kernel
theorem dL_isTicket_27 : decode cL_isTicket 27 = .ok (.ifCond .le 39, 3) := by decide +kernel
theorem dL_isTicket_30 : decode cL_isTicket 30 = .ok (.iload 5, 2) := by decide +kernel
theorem dL_isTicket_32 : decode cL_isTicket 32 = .ok (.bipush 9, 2) := by decide +kernel
theorem dL_isTicket_34 : decode cL_isTicket 34 = .ok (.if_icmp .ge 32, 3) := by decide +kernel
theorem dL_isTicket_37 : decode cL_isTicket 37 = .ok (.aload_n 0, 1) := by decide +kernel
theorem dL_isTicket_38 : decode cL_isTicket 38 = .ok (.iload_n 2, 1) := by decide +kernel
theorem dL_isTicket_39 : decode cL_isTicket 39 = .ok (.bipush 6, 2) := by decide +kernel
theorem dL_isTicket_41 : decode cL_isTicket 41 = .ok (.invokestatic 141, 3) := by decide +kernel
theorem dL_isTicket_44 : decode cL_isTicket 44 = .ok (.ldc 21, 2) := by decide +kernel
theorem dL_isTicket_46 : decode cL_isTicket 46 = .ok (.if_icmp .ne 20, 3) := by decide +kernel
theorem dL_isTicket_49 : decode cL_isTicket 49 = .ok (.aload_n 0, 1) := by decide +kernel
theorem dL_isTicket_50 : decode cL_isTicket 50 = .ok (.iload_n 2, 1) := by decide +kernel
theorem dL_isTicket_51 : decode cL_isTicket 51 = .ok (.iload 5, 2) := by decide +kernel
theorem dL_isTicket_53 : decode cL_isTicket 53 = .ok (.iconst 0, 1) := by decide +kernel
theorem dL_isTicket_54 : decode cL_isTicket 54 = .ok (.invokestatic 143, 3) := by decide +kernel
theorem dL_isTicket_57 : decode cL_isTicket 57 = .ok (.ldc 18, 2) := by decide +kernel
theorem dL_isTicket_59 : decode cL_isTicket 59 = .ok (.if_icmp .ne 7, 3) := by decide +kernel
theorem dL_isTicket_62 : decode cL_isTicket 62 = .ok (.iconst 1, 1) := by decide +kernel
theorem dL_isTicket_63 : decode cL_isTicket 63 = .ok (.goto 4, 3) := by decide +kernel
theorem dL_isTicket_66 : decode cL_isTicket 66 = .ok (.iconst 0, 1) := by decide +kernel
theorem dL_isTicket_67 : decode cL_isTicket 67 = .ok (.istore 7, 2) := by decide +kernel
theorem dL_isTicket_69 : decode cL_isTicket 69 = .ok (.iload 5, 2) := by decide +kernel
theorem dL_isTicket_71 : decode cL_isTicket 71 = .ok (.iconst 1, 1) := by decide +kernel
theorem dL_isTicket_72 : decode cL_isTicket 72 = .ok (.isub, 1) := by decide +kernel
theorem dL_isTicket_73 : decode cL_isTicket 73 = .ok (.istore 8, 2) := by decide +kernel
theorem dL_isTicket_75 : decode cL_isTicket 75 = .ok (.iload 8, 2) := by decide +kernel
theorem dL_isTicket_77 : decode cL_isTicket 77 = .ok (.ifCond .lt 178, 3) := by decide +kernel
theorem dL_isTicket_80 : decode cL_isTicket 80 = .ok (.iload 7, 2) := by decide +kernel
theorem dL_isTicket_82 : decode cL_isTicket 82 = .ok (.ifCond .eq 173, 3) := by decide +kernel
theorem dL_isTicket_85 : decode cL_isTicket 85 = .ok (.aload_n 0, 1) := by decide +kernel
theorem dL_isTicket_86 : decode cL_isTicket 86 = .ok (.iload_n 2, 1) := by decide +kernel
theorem dL_isTicket_87 : decode cL_isTicket 87 = .ok (.iload 8, 2) := by decide +kernel
theorem dL_isTicket_89 : decode cL_isTicket 89 = .ok (.iconst 0, 1) := by decide +kernel
theorem dL_isTicket_90 : decode cL_isTicket 90 = .ok (.invokestatic 143, 3) := by decide +kernel
theorem dL_isTicket_93 : decode cL_isTicket 93 = .ok (.istore 9, 2) := by decide +kernel
theorem dL_isTicket_95 : decode cL_isTicket 95 = .ok (.aload_n 0, 1) := by decide +kernel
theorem dL_isTicket_96 : decode cL_isTicket 96 = .ok (.iload_n 2, 1) := by decide +kernel
theorem dL_isTicket_97 : decode cL_isTicket 97 = .ok (.iload 8, 2) := by decide +kernel
theorem dL_isTicket_99 : decode cL_isTicket 99 = .ok (.iconst 1, 1) := by decide +kernel
theorem dL_isTicket_100 : decode cL_isTicket 100 = .ok (.invokestatic 143, 3) := by decide +kernel
theorem dL_isTicket_103 : decode cL_isTicket 103 = .ok (.istore 10, 2) := by decide +kernel
theorem dL_isTicket_105 : decode cL_isTicket 105 = .ok (.aload_n 0, 1) := by decide +kernel
theorem dL_isTicket_106 : decode cL_isTicket 106 = .ok (.iload_n 2, 1) := by decide +kernel
theorem dL_isTicket_107 : decode cL_isTicket 107 = .ok (.iload 8, 2) := by decide +kernel
theorem dL_isTicket_109 : decode cL_isTicket 109 = .ok (.iconst 5, 1) := by decide +kernel
theorem dL_isTicket_110 : decode cL_isTicket 110 = .ok (.invokestatic 143, 3) := by decide +kernel
theorem dL_isTicket_113 : decode cL_isTicket 113 = .ok (.istore 11, 2) := by decide +kernel
theorem dL_isTicket_115 : decode cL_isTicket 115 = .ok (.iload_n 3, 1) := by decide +kernel
theorem dL_isTicket_116 : decode cL_isTicket 116 = .ok (.iload 10, 2) := by decide +kernel
theorem dL_isTicket_118 : decode cL_isTicket 118 = .ok (.iadd, 1) := by decide +kernel
theorem dL_isTicket_119 : decode cL_isTicket 119 = .ok (.istore_n 3, 1) := by decide +kernel
theorem dL_isTicket_120 : decode cL_isTicket 120 = .ok (.iload 4, 2) := by decide +kernel
theorem dL_isTicket_122 : decode cL_isTicket 122 = .ok (.aload_n 0, 1) := by decide +kernel
theorem dL_isTicket_123 : decode cL_isTicket 123 = .ok (.iload_n 2, 1) := by decide +kernel
theorem dL_isTicket_124 : decode cL_isTicket 124 = .ok (.iload 8, 2) := by decide +kernel
theorem dL_isTicket_126 : decode cL_isTicket 126 = .ok (.iconst 2, 1) := by decide +kernel
theorem dL_isTicket_127 : decode cL_isTicket 127 = .ok (.invokestatic 143, 3) := by decide +kernel
theorem dL_isTicket_130 : decode cL_isTicket 130 = .ok (.iadd, 1) := by decide +kernel
theorem dL_isTicket_131 : decode cL_isTicket 131 = .ok (.istore 4, 2) := by decide +kernel
theorem dL_isTicket_133 : decode cL_isTicket 133 = .ok (.iload 9, 2) := by decide +kernel
theorem dL_isTicket_135 : decode cL_isTicket 135 = .ok (.ifCond .lt 93, 3) := by decide +kernel
theorem dL_isTicket_138 : decode cL_isTicket 138 = .ok (.iload 9, 2) := by decide +kernel
theorem dL_isTicket_140 : decode cL_isTicket 140 = .ok (.iconst 5, 1) := by decide +kernel
theorem dL_isTicket_141 : decode cL_isTicket 141 = .ok (.if_icmp .ge 87, 3) := by decide +kernel
theorem dL_isTicket_144 : decode cL_isTicket 144 = .ok (.iload 10, 2) := by decide +kernel
theorem dL_isTicket_146 : decode cL_isTicket 146 = .ok (.ifCond .lt 82, 3) := by decide +kernel
theorem dL_isTicket_149 : decode cL_isTicket 149 = .ok (.iload 9, 2) := by decide +kernel
theorem dL_isTicket_151 : decode cL_isTicket 151 = .ok (.ifCond .ne 8, 3) := by decide +kernel
theorem dL_isTicket_154 : decode cL_isTicket 154 = .ok (.iload 6, 2) := by decide +kernel
theorem dL_isTicket_156 : decode cL_isTicket 156 = .ok (.ifCond .ne 72, 3) := by decide +kernel
theorem dL_isTicket_159 : decode cL_isTicket 159 = .ok (.iload 11, 2) := by decide +kernel
theorem dL_isTicket_161 : decode cL_isTicket 161 = .ok (.ifCond .lt 63, 3) := by decide +kernel
theorem dL_isTicket_164 : decode cL_isTicket 164 = .ok (.iload 9, 2) := by decide +kernel
theorem dL_isTicket_166 : decode cL_isTicket 166 = .ok (.iconst 1, 1) := by decide +kernel
theorem dL_isTicket_167 : decode cL_isTicket 167 = .ok (.if_icmp .ne 61, 3) := by decide +kernel
theorem dL_isTicket_170 : decode cL_isTicket 170 = .ok (.iload 11, 2) := by decide +kernel
theorem dL_isTicket_172 : decode cL_isTicket 172 = .ok (.aload_n 1, 1) := by decide +kernel
theorem dL_isTicket_173 : decode cL_isTicket 173 = .ok (.iconst 3, 1) := by decide +kernel
theorem dL_isTicket_174 : decode cL_isTicket 174 = .ok (.iaload, 1) := by decide +kernel
theorem dL_isTicket_175 : decode cL_isTicket 175 = .ok (.if_icmp .ge 53, 3) := by decide +kernel
theorem dL_isTicket_178 : decode cL_isTicket 178 = .ok (.aload_n 0, 1) := by decide +kernel
theorem dL_isTicket_179 : decode cL_isTicket 179 = .ok (.iload 11, 2) := by decide +kernel
theorem dL_isTicket_181 : decode cL_isTicket 181 = .ok (.iconst 1, 1) := by decide +kernel
theorem dL_isTicket_182 : decode cL_isTicket 182 = .ok (.invokestatic 146, 3) := by decide +kernel
theorem dL_isTicket_185 : decode cL_isTicket 185 = .ok (.iload 10, 2) := by decide +kernel
theorem dL_isTicket_187 : decode cL_isTicket 187 = .ok (.if_icmp .ne 41, 3) := by decide +kernel
theorem dL_isTicket_190 : decode cL_isTicket 190 = .ok (.aload_n 0, 1) := by decide +kernel
theorem dL_isTicket_191 : decode cL_isTicket 191 = .ok (.iload 11, 2) := by decide +kernel
theorem dL_isTicket_193 : decode cL_isTicket 193 = .ok (.iconst 2, 1) := by decide +kernel
theorem dL_isTicket_194 : decode cL_isTicket 194 = .ok (.invokestatic 146, 3) := by decide +kernel
theorem dL_isTicket_197 : decode cL_isTicket 197 = .ok (.aload_n 0, 1) := by decide +kernel
theorem dL_isTicket_198 : decode cL_isTicket 198 = .ok (.iload_n 2, 1) := by decide +kernel
theorem dL_isTicket_199 : decode cL_isTicket 199 = .ok (.iconst 2, 1) := by decide +kernel
theorem dL_isTicket_200 : decode cL_isTicket 200 = .ok (.invokestatic 141, 3) := by decide +kernel
theorem dL_isTicket_203 : decode cL_isTicket 203 = .ok (.if_icmp .ne 25, 3) := by decide +kernel
theorem dL_isTicket_206 : decode cL_isTicket 206 = .ok (.aload_n 0, 1) := by decide +kernel
theorem dL_isTicket_207 : decode cL_isTicket 207 = .ok (.iload 11, 2) := by decide +kernel
theorem dL_isTicket_209 : decode cL_isTicket 209 = .ok (.iconst 3, 1) := by decide +kernel
theorem dL_isTicket_210 : decode cL_isTicket 210 = .ok (.invokestatic 146, 3) := by decide +kernel
theorem dL_isTicket_213 : decode cL_isTicket 213 = .ok (.aload_n 0, 1) := by decide +kernel
theorem dL_isTicket_214 : decode cL_isTicket 214 = .ok (.iload_n 2, 1) := by decide +kernel
theorem dL_isTicket_215 : decode cL_isTicket 215 = .ok (.iload 8, 2) := by decide +kernel
theorem dL_isTicket_217 : decode cL_isTicket 217 = .ok (.iconst 3, 1) := by decide +kernel
theorem dL_isTicket_218 : decode cL_isTicket 218 = .ok (.invokestatic 143, 3) := by decide +kernel
theorem dL_isTicket_221 : decode cL_isTicket 221 = .ok (.if_icmp .ne 7, 3) := by decide +kernel
theorem dL_isTicket_224 : decode cL_isTicket 224 = .ok (.iconst 1, 1) := by decide +kernel
theorem dL_isTicket_225 : decode cL_isTicket 225 = .ok (.goto 4, 3) := by decide +kernel
theorem dL_isTicket_228 : decode cL_isTicket 228 = .ok (.iconst 0, 1) := by decide +kernel
theorem dL_isTicket_229 : decode cL_isTicket 229 = .ok (.istore 7, 2) := by decide +kernel
theorem dL_isTicket_231 : decode cL_isTicket 231 = .ok (.iload 6, 2) := by decide +kernel
theorem dL_isTicket_233 : decode cL_isTicket 233 = .ok (.ifCond .ne 9, 3) := by decide +kernel
theorem dL_isTicket_236 : decode cL_isTicket 236 = .ok (.iload 9, 2) := by decide +kernel
theorem dL_isTicket_238 : decode cL_isTicket 238 = .ok (.iconst 1, 1) := by decide +kernel
theorem dL_isTicket_239 : decode cL_isTicket 239 = .ok (.if_icmp .ne 7, 3) := by decide +kernel
theorem dL_isTicket_242 : decode cL_isTicket 242 = .ok (.iconst 1, 1) := by decide +kernel
theorem dL_isTicket_243 : decode cL_isTicket 243 = .ok (.goto 4, 3) := by decide +kernel
theorem dL_isTicket_246 : decode cL_isTicket 246 = .ok (.iconst 0, 1) := by decide +kernel
theorem dL_isTicket_247 : decode cL_isTicket 247 = .ok (.istore 6, 2) := by decide +kernel
theorem dL_isTicket_249 : decode cL_isTicket 249 = .ok (.iinc 8 (-1), 3) := by decide +kernel
theorem dL_isTicket_252 : decode cL_isTicket 252 = .ok (.goto (-177), 3) := by decide +kernel
theorem dL_isTicket_255 : decode cL_isTicket 255 = .ok (.iload 7, 2) := by decide +kernel
theorem dL_isTicket_257 : decode cL_isTicket 257 = .ok (.ifCond .eq 28, 3) := by decide +kernel
theorem dL_isTicket_260 : decode cL_isTicket 260 = .ok (.iload_n 3, 1) := by decide +kernel
theorem dL_isTicket_261 : decode cL_isTicket 261 = .ok (.aload_n 0, 1) := by decide +kernel
theorem dL_isTicket_262 : decode cL_isTicket 262 = .ok (.iload_n 2, 1) := by decide +kernel
theorem dL_isTicket_263 : decode cL_isTicket 263 = .ok (.iconst 0, 1) := by decide +kernel
theorem dL_isTicket_264 : decode cL_isTicket 264 = .ok (.invokestatic 141, 3) := by decide +kernel
theorem dL_isTicket_267 : decode cL_isTicket 267 = .ok (.if_icmp .ne 18, 3) := by decide +kernel
theorem dL_isTicket_270 : decode cL_isTicket 270 = .ok (.iload 4, 2) := by decide +kernel
theorem dL_isTicket_272 : decode cL_isTicket 272 = .ok (.aload_n 0, 1) := by decide +kernel
theorem dL_isTicket_273 : decode cL_isTicket 273 = .ok (.iload_n 2, 1) := by decide +kernel
theorem dL_isTicket_274 : decode cL_isTicket 274 = .ok (.iconst 1, 1) := by decide +kernel
theorem dL_isTicket_275 : decode cL_isTicket 275 = .ok (.invokestatic 141, 3) := by decide +kernel
theorem dL_isTicket_278 : decode cL_isTicket 278 = .ok (.if_icmp .ne 7, 3) := by decide +kernel
theorem dL_isTicket_281 : decode cL_isTicket 281 = .ok (.iconst 1, 1) := by decide +kernel
theorem dL_isTicket_282 : decode cL_isTicket 282 = .ok (.goto 4, 3) := by decide +kernel
theorem dL_isTicket_285 : decode cL_isTicket 285 = .ok (.iconst 0, 1) := by decide +kernel
theorem dL_isTicket_286 : decode cL_isTicket 286 = .ok (.ireturn, 1) := by decide +kernel
theorem dL_isBill_0 : decode cL_isBill 0 = .ok (.aload_n 0, 1) := by decide +kernel
theorem dL_isBill_1 : decode cL_isBill 1 = .ok (.iload_n 2, 1) := by decide +kernel
theorem dL_isBill_2 : decode cL_isBill 2 = .ok (.iconst 0, 1) := by decide +kernel
theorem dL_isBill_3 : decode cL_isBill 3 = .ok (.invokestatic 146, 3) := by decide +kernel
theorem dL_isBill_6 : decode cL_isBill 6 = .ok (.istore_n 3, 1) := by decide +kernel
theorem dL_isBill_7 : decode cL_isBill 7 = .ok (.aload_n 0, 1) := by decide +kernel
theorem dL_isBill_8 : decode cL_isBill 8 = .ok (.iload_n 2, 1) := by decide +kernel
theorem dL_isBill_9 : decode cL_isBill 9 = .ok (.iconst 4, 1) := by decide +kernel
theorem dL_isBill_10 : decode cL_isBill 10 = .ok (.invokestatic 146, 3) := by decide +kernel
theorem dL_isBill_13 : decode cL_isBill 13 = .ok (.istore 4, 2) := by decide +kernel
theorem dL_isBill_15 : decode cL_isBill 15 = .ok (.aload_n 0, 1) := by decide +kernel
theorem dL_isBill_16 : decode cL_isBill 16 = .ok (.iload_n 2, 1) := by decide +kernel
theorem dL_isBill_17 : decode cL_isBill 17 = .ok (.iconst 5, 1) := by decide +kernel
theorem dL_isBill_18 : decode cL_isBill 18 = .ok (.invokestatic 146, 3) := by decide +kernel
theorem dL_isBill_21 : decode cL_isBill 21 = .ok (.istore 5, 2) := by decide +kernel
theorem dL_isBill_23 : decode cL_isBill 23 = .ok (.iload_n 3, 1) := by decide +kernel
theorem dL_isBill_24 : decode cL_isBill 24 = .ok (.ifCond .lt 112, 3) := by decide +kernel
theorem dL_isBill_27 : decode cL_isBill 27 = .ok (.iload_n 3, 1) := by decide +kernel
theorem dL_isBill_28 : decode cL_isBill 28 = .ok (.iconst 5, 1) := by decide +kernel
theorem dL_isBill_29 : decode cL_isBill 29 = .ok (.if_icmp .ge 107, 3) := by decide +kernel
theorem dL_isBill_32 : decode cL_isBill 32 = .ok (.iload 4, 2) := by decide +kernel
theorem dL_isBill_34 : decode cL_isBill 34 = .ok (.ifCond .lt 102, 3) := by decide +kernel
theorem dL_isBill_37 : decode cL_isBill 37 = .ok (.iload 4, 2) := by decide +kernel
theorem dL_isBill_39 : decode cL_isBill 39 = .ok (.iconst 4, 1) := by decide +kernel
theorem dL_isBill_40 : decode cL_isBill 40 = .ok (.if_icmp .ge 96, 3) := by decide +kernel
theorem dL_isBill_43 : decode cL_isBill 43 = .ok (.iload 5, 2) := by decide +kernel
theorem dL_isBill_45 : decode cL_isBill 45 = .ok (.ifCond .lt 91, 3) := by decide +kernel
theorem dL_isBill_48 : decode cL_isBill 48 = .ok (.iload 5, 2) := by decide +kernel
theorem dL_isBill_50 : decode cL_isBill 50 = .ok (.aload_n 1, 1) := by decide +kernel
theorem dL_isBill_51 : decode cL_isBill 51 = .ok (.iconst 4, 1) := by decide +kernel
theorem dL_isBill_52 : decode cL_isBill 52 = .ok (.iaload, 1) := by decide +kernel
theorem dL_isBill_53 : decode cL_isBill 53 = .ok (.if_icmp .gt 83, 3) := by decide +kernel
theorem dL_isBill_56 : decode cL_isBill 56 = .ok (.iload_n 3, 1) := by decide +kernel
theorem dL_isBill_57 : decode cL_isBill 57 = .ok (.iconst 4, 1) := by decide +kernel
theorem dL_isBill_58 : decode cL_isBill 58 = .ok (.if_icmp .ne 9, 3) := by decide +kernel
theorem dL_isBill_61 : decode cL_isBill 61 = .ok (.iload 4, 2) := by decide +kernel
theorem dL_isBill_63 : decode cL_isBill 63 = .ok (.iconst 3, 1) := by decide +kernel
theorem dL_isBill_64 : decode cL_isBill 64 = .ok (.if_icmp .ne 72, 3) := by decide +kernel
theorem dL_isBill_67 : decode cL_isBill 67 = .ok (.iload_n 3, 1) := by decide +kernel
theorem dL_isBill_68 : decode cL_isBill 68 = .ok (.iconst 2, 1) := by decide +kernel
theorem dL_isBill_69 : decode cL_isBill 69 = .ok (.if_icmp .ne 8, 3) := by decide +kernel
theorem dL_isBill_72 : decode cL_isBill 72 = .ok (.iload 4, 2) := by decide +kernel
theorem dL_isBill_74 : decode cL_isBill 74 = .ok (.ifCond .le 62, 3) := by decide +kernel
theorem dL_isBill_77 : decode cL_isBill 77 = .ok (.iload_n 3, 1) := by decide +kernel
theorem dL_isBill_78 : decode cL_isBill 78 = .ok (.iconst 3, 1) := by decide +kernel
theorem dL_isBill_79 : decode cL_isBill 79 = .ok (.if_icmp .ne 14, 3) := by decide +kernel
theorem dL_isBill_82 : decode cL_isBill 82 = .ok (.iload 4, 2) := by decide +kernel
theorem dL_isBill_84 : decode cL_isBill 84 = .ok (.ifCond .le 52, 3) := by decide +kernel
theorem dL_isBill_87 : decode cL_isBill 87 = .ok (.iload 4, 2) := by decide +kernel
theorem dL_isBill_89 : decode cL_isBill 89 = .ok (.iconst 3, 1) := by decide +kernel
theorem dL_isBill_90 : decode cL_isBill 90 = .ok (.if_icmp .ge 46, 3) := by decide +kernel
theorem dL_isBill_93 : decode cL_isBill 93 = .ok (.iload_n 3, 1) := by decide +kernel
theorem dL_isBill_94 : decode cL_isBill 94 = .ok (.iconst 2, 1) := by decide +kernel
theorem dL_isBill_95 : decode cL_isBill 95 = .ok (.irem, 1) := by decide +kernel
theorem dL_isBill_96 : decode cL_isBill 96 = .ok (.ifCond .eq 8, 3) := by decide +kernel
theorem dL_isBill_99 : decode cL_isBill 99 = .ok (.iload 5, 2) := by decide +kernel
theorem dL_isBill_101 : decode cL_isBill 101 = .ok (.ifCond .le 35, 3) := by decide +kernel
theorem dL_isBill_104 : decode cL_isBill 104 = .ok (.aload_n 0, 1) := by decide +kernel
theorem dL_isBill_105 : decode cL_isBill 105 = .ok (.iload_n 2, 1) := by decide +kernel
theorem dL_isBill_106 : decode cL_isBill 106 = .ok (.iconst 2, 1) := by decide +kernel
theorem dL_isBill_107 : decode cL_isBill 107 = .ok (.invokestatic 146, 3) := by decide +kernel
theorem dL_isBill_110 : decode cL_isBill 110 = .ok (.aload_n 0, 1) := by decide +kernel
theorem dL_isBill_111 : decode cL_isBill 111 = .ok (.iload_n 2, 1) := by decide +kernel
theorem dL_isBill_112 : decode cL_isBill 112 = .ok (.iconst 3, 1) := by decide +kernel
theorem dL_isBill_113 : decode cL_isBill 113 = .ok (.invokestatic 146, 3) := by decide +kernel
theorem dL_isBill_116 : decode cL_isBill 116 = .ok (.if_icmp .eq 20, 3) := by decide +kernel
theorem dL_isBill_119 : decode cL_isBill 119 = .ok (.aload_n 0, 1) := by decide +kernel
theorem dL_isBill_120 : decode cL_isBill 120 = .ok (.aload_n 1, 1) := by decide +kernel
theorem dL_isBill_121 : decode cL_isBill 121 = .ok (.iconst 3, 1) := by decide +kernel
theorem dL_isBill_122 : decode cL_isBill 122 = .ok (.iaload, 1) := by decide +kernel
theorem dL_isBill_123 : decode cL_isBill 123 = .ok (.iconst 0, 1) := by decide +kernel
theorem dL_isBill_124 : decode cL_isBill 124 = .ok (.invokestatic 146, 3) := by decide +kernel
theorem dL_isBill_127 : decode cL_isBill 127 = .ok (.ldc 18, 2) := by decide +kernel
theorem dL_isBill_129 : decode cL_isBill 129 = .ok (.if_icmp .ne 7, 3) := by decide +kernel
theorem dL_isBill_132 : decode cL_isBill 132 = .ok (.iconst 1, 1) := by decide +kernel
theorem dL_isBill_133 : decode cL_isBill 133 = .ok (.goto 4, 3) := by decide +kernel
theorem dL_isBill_136 : decode cL_isBill 136 = .ok (.iconst 0, 1) := by decide +kernel
theorem dL_isBill_137 : decode cL_isBill 137 = .ok (.ireturn, 1) := by decide +kernel
theorem dL_tells_0 : decode cL_tells 0 = .ok (.iload_n 2, 1) := by decide +kernel
theorem dL_tells_1 : decode cL_tells 1 = .ok (.bipush 10, 2) := by decide +kernel
theorem dL_tells_3 : decode cL_tells 3 = .ok (.invokestatic 148, 3) := by decide +kernel
theorem dL_tells_6 : decode cL_tells 6 = .ok (.istore 4, 2) := by decide +kernel
theorem dL_tells_8 : decode cL_tells 8 = .ok (.iload_n 3, 1) := by decide +kernel
theorem dL_tells_9 : decode cL_tells 9 = .ok (.iconst 5, 1) := by decide +kernel
theorem dL_tells_10 : decode cL_tells 10 = .ok (.invokestatic 148, 3) := by decide +kernel
theorem dL_tells_13 : decode cL_tells 13 = .ok (.istore 5, 2) := by decide +kernel
theorem dL_tells_15 : decode cL_tells 15 = .ok (.iload 5, 2) := by decide +kernel
theorem dL_tells_17 : decode cL_tells 17 = .ok (.iconst 1, 1) := by decide +kernel
theorem dL_tells_18 : decode cL_tells 18 = .ok (.iadd, 1) := by decide +kernel
theorem dL_tells_19 : decode cL_tells 19 = .ok (.iload_n 3, 1) := by decide +kernel
theorem dL_tells_20 : decode cL_tells 20 = .ok (.iconst 3, 1) := by decide +kernel
theorem dL_tells_21 : decode cL_tells 21 = .ok (.ishr, 1) := by decide +kernel
theorem dL_tells_22 : decode cL_tells 22 = .ok (.iconst 4, 1) := by decide +kernel
theorem dL_tells_23 : decode cL_tells 23 = .ok (.invokestatic 148, 3) := by decide +kernel
theorem dL_tells_26 : decode cL_tells 26 = .ok (.iadd, 1) := by decide +kernel
theorem dL_tells_27 : decode cL_tells 27 = .ok (.iconst 5, 1) := by decide +kernel
theorem dL_tells_28 : decode cL_tells 28 = .ok (.irem, 1) := by decide +kernel
theorem dL_tells_29 : decode cL_tells 29 = .ok (.istore 6, 2) := by decide +kernel
theorem dL_tells_31 : decode cL_tells 31 = .ok (.iload 4, 2) := by decide +kernel
theorem dL_tells_33 : decode cL_tells 33 = .ok (.iconst 2, 1) := by decide +kernel
theorem dL_tells_34 : decode cL_tells 34 = .ok (.if_icmp .ge 57, 3) := by decide +kernel
theorem dL_tells_37 : decode cL_tells 37 = .ok (.sipush 200, 3) := by decide +kernel
theorem dL_tells_40 : decode cL_tells 40 = .ok (.iload_n 3, 1) := by decide +kernel
theorem dL_tells_41 : decode cL_tells 41 = .ok (.bipush 6, 2) := by decide +kernel
theorem dL_tells_43 : decode cL_tells 43 = .ok (.ishr, 1) := by decide +kernel
theorem dL_tells_44 : decode cL_tells 44 = .ok (.sipush 300, 3) := by decide +kernel
theorem dL_tells_47 : decode cL_tells 47 = .ok (.invokestatic 148, 3) := by decide +kernel
theorem dL_tells_50 : decode cL_tells 50 = .ok (.iadd, 1) := by decide +kernel
theorem dL_tells_51 : decode cL_tells 51 = .ok (.istore 7, 2) := by decide +kernel
theorem dL_tells_53 : decode cL_tells 53 = .ok (.aload_n 0, 1) := by decide +kernel
theorem dL_tells_54 : decode cL_tells 54 = .ok (.iload 5, 2) := by decide +kernel
theorem dL_tells_56 : decode cL_tells 56 = .ok (.iload 6, 2) := by decide +kernel
theorem dL_tells_58 : decode cL_tells 58 = .ok (.iload 7, 2) := by decide +kernel
theorem dL_tells_60 : decode cL_tells 60 = .ok (.invokestatic 151, 3) := by decide +kernel
theorem dL_tells_63 : decode cL_tells 63 = .ok (.istore 8, 2) := by decide +kernel
theorem dL_tells_65 : decode cL_tells 65 = .ok (.iload 8, 2) := by decide +kernel
theorem dL_tells_67 : decode cL_tells 67 = .ok (.ifCond .lt 22, 3) := by decide +kernel
theorem dL_tells_70 : decode cL_tells 70 = .ok (.aload_n 0, 1) := by decide +kernel
theorem dL_tells_71 : decode cL_tells 71 = .ok (.iload 6, 2) := by decide +kernel
theorem dL_tells_73 : decode cL_tells 73 = .ok (.iload 5, 2) := by decide +kernel
theorem dL_tells_75 : decode cL_tells 75 = .ok (.iload 7, 2) := by decide +kernel
theorem dL_tells_77 : decode cL_tells 77 = .ok (.invokestatic 151, 3) := by decide +kernel
theorem dL_tells_80 : decode cL_tells 80 = .ok (.iload 7, 2) := by decide +kernel
theorem dL_tells_82 : decode cL_tells 82 = .ok (.if_icmp .ne 7, 3) := by decide +kernel
theorem dL_tells_85 : decode cL_tells 85 = .ok (.iconst 1, 1) := by decide +kernel
theorem dL_tells_86 : decode cL_tells 86 = .ok (.goto 4, 3) := by decide +kernel
theorem dL_tells_89 : decode cL_tells 89 = .ok (.iconst 0, 1) := by decide +kernel
theorem dL_tells_90 : decode cL_tells 90 = .ok (.ireturn, 1) := by decide +kernel
theorem dL_tells_91 : decode cL_tells 91 = .ok (.iload 4, 2) := by decide +kernel
theorem dL_tells_93 : decode cL_tells 93 = .ok (.bipush 6, 2) := by decide +kernel
theorem dL_tells_95 : decode cL_tells 95 = .ok (.if_icmp .ge 111, 3) := by decide +kernel
theorem dL_tells_98 : decode cL_tells 98 = .ok (.iload_n 3, 1) := by decide +kernel
theorem dL_tells_99 : decode cL_tells 99 = .ok (.bipush 6, 2) := by decide +kernel
theorem dL_tells_101 : decode cL_tells 101 = .ok (.ishr, 1) := by decide +kernel
theorem dL_tells_102 : decode cL_tells 102 = .ok (.iconst 5, 1) := by decide +kernel
theorem dL_tells_103 : decode cL_tells 103 = .ok (.invokestatic 148, 3) := by decide +kernel
theorem dL_tells_106 : decode cL_tells 106 = .ok (.istore 7, 2) := by decide +kernel
theorem dL_tells_108 : decode cL_tells 108 = .ok (.aload_n 0, 1) := by decide +kernel
theorem dL_tells_109 : decode cL_tells 109 = .ok (.iload 5, 2) := by decide +kernel
theorem dL_tells_111 : decode cL_tells 111 = .ok (.iload 6, 2) := by decide +kernel
theorem dL_tells_113 : decode cL_tells 113 = .ok (.iconst 1, 1) := by decide +kernel
theorem dL_tells_114 : decode cL_tells 114 = .ok (.iload_n 3, 1) := by decide +kernel
theorem dL_tells_115 : decode cL_tells 115 = .ok (.bipush 9, 2) := by decide +kernel
theorem dL_tells_117 : decode cL_tells 117 = .ok (.ishr, 1) := by decide +kernel
theorem dL_tells_118 : decode cL_tells 118 = .ok (.ldc 153, 2) := by decide +kernel
theorem dL_tells_120 : decode cL_tells 120 = .ok (.invokestatic 148, 3) := by decide +kernel
theorem dL_tells_123 : decode cL_tells 123 = .ok (.iadd, 1) := by decide +kernel
theorem dL_tells_124 : decode cL_tells 124 = .ok (.iload 7, 2) := by decide +kernel
theorem dL_tells_126 : decode cL_tells 126 = .ok (.iload 7, 2) := by decide +kernel
theorem dL_tells_128 : decode cL_tells 128 = .ok (.iload_n 3, 1) := by decide +kernel
theorem dL_tells_129 : decode cL_tells 129 = .ok (.bipush 20, 2) := by decide +kernel
theorem dL_tells_131 : decode cL_tells 131 = .ok (.ishr, 1) := by decide +kernel
theorem dL_tells_132 : decode cL_tells 132 = .ok (.bipush 60, 2) := by decide +kernel
theorem dL_tells_134 : decode cL_tells 134 = .ok (.invokestatic 148, 3) := by decide +kernel
theorem dL_tells_137 : decode cL_tells 137 = .ok (.iadd, 1) := by decide +kernel
theorem dL_tells_138 : decode cL_tells 138 = .ok (.iload_n 3, 1) := by decide +kernel
theorem dL_tells_139 : decode cL_tells 139 = .ok (.bipush 26, 2) := by decide +kernel
theorem dL_tells_141 : decode cL_tells 141 = .ok (.ishr, 1) := by decide +kernel
theorem dL_tells_142 : decode cL_tells 142 = .ok (.bipush 8, 2) := by decide +kernel
theorem dL_tells_144 : decode cL_tells 144 = .ok (.invokestatic 148, 3) := by decide +kernel
theorem dL_tells_147 : decode cL_tells 147 = .ok (.iconst 5, 1) := by decide +kernel
theorem dL_tells_148 : decode cL_tells 148 = .ok (.irem, 1) := by decide +kernel
theorem dL_tells_149 : decode cL_tells 149 = .ok (.iload_n 2, 1) := by decide +kernel
theorem dL_tells_150 : decode cL_tells 150 = .ok (.iconst 4, 1) := by decide +kernel
theorem dL_tells_151 : decode cL_tells 151 = .ok (.ishr, 1) := by decide +kernel
theorem dL_tells_152 : decode cL_tells 152 = .ok (.iconst 4, 1) := by decide +kernel
theorem dL_tells_153 : decode cL_tells 153 = .ok (.invokestatic 148, 3) := by decide +kernel
theorem dL_tells_156 : decode cL_tells 156 = .ok (.iadd, 1) := by decide +kernel
theorem dL_tells_157 : decode cL_tells 157 = .ok (.invokestatic 154, 3) := by decide +kernel
theorem dL_tells_160 : decode cL_tells 160 = .ok (.istore 8, 2) := by decide +kernel
theorem dL_tells_162 : decode cL_tells 162 = .ok (.aload_n 1, 1) := by decide +kernel
theorem dL_tells_163 : decode cL_tells 163 = .ok (.iconst 5, 1) := by decide +kernel
theorem dL_tells_164 : decode cL_tells 164 = .ok (.iaload, 1) := by decide +kernel
theorem dL_tells_165 : decode cL_tells 165 = .ok (.bipush 40, 2) := by decide +kernel
theorem dL_tells_167 : decode cL_tells 167 = .ok (.if_icmp .ne 16, 3) := by decide +kernel
theorem dL_tells_170 : decode cL_tells 170 = .ok (.iload 8, 2) := by decide +kernel
theorem dL_tells_172 : decode cL_tells 172 = .ok (.ldc 28, 2) := by decide +kernel
theorem dL_tells_174 : decode cL_tells 174 = .ok (.if_icmp .ne 7, 3) := by decide +kernel
theorem dL_tells_177 : decode cL_tells 177 = .ok (.iconst 1, 1) := by decide +kernel
theorem dL_tells_178 : decode cL_tells 178 = .ok (.goto 4, 3) := by decide +kernel
theorem dL_tells_181 : decode cL_tells 181 = .ok (.iconst 0, 1) := by decide +kernel
theorem dL_tells_182 : decode cL_tells 182 = .ok (.ireturn, 1) := by decide +kernel
theorem dL_tells_183 : decode cL_tells 183 = .ok (.aload_n 1, 1) := by decide +kernel
theorem dL_tells_184 : decode cL_tells 184 = .ok (.iconst 5, 1) := by decide +kernel
theorem dL_tells_185 : decode cL_tells 185 = .ok (.dup2, 1) := by decide +kernel
theorem dL_tells_186 : decode cL_tells 186 = .ok (.iaload, 1) := by decide +kernel
theorem dL_tells_187 : decode cL_tells 187 = .ok (.iconst 1, 1) := by decide +kernel
theorem dL_tells_188 : decode cL_tells 188 = .ok (.iadd, 1) := by decide +kernel
theorem dL_tells_189 : decode cL_tells 189 = .ok (.iastore, 1) := by decide +kernel
theorem dL_tells_190 : decode cL_tells 190 = .ok (.iload 8, 2) := by decide +kernel
theorem dL_tells_192 : decode cL_tells 192 = .ok (.aload_n 1, 1) := by decide +kernel
theorem dL_tells_193 : decode cL_tells 193 = .ok (.iconst 5, 1) := by decide +kernel
theorem dL_tells_194 : decode cL_tells 194 = .ok (.iaload, 1) := by decide +kernel
theorem dL_tells_195 : decode cL_tells 195 = .ok (.iconst 1, 1) := by decide +kernel
theorem dL_tells_196 : decode cL_tells 196 = .ok (.isub, 1) := by decide +kernel
theorem dL_tells_197 : decode cL_tells 197 = .ok (.if_icmp .ne 7, 3) := by decide +kernel
theorem dL_tells_200 : decode cL_tells 200 = .ok (.iconst 1, 1) := by decide +kernel
theorem dL_tells_201 : decode cL_tells 201 = .ok (.goto 4, 3) := by decide +kernel
theorem dL_tells_204 : decode cL_tells 204 = .ok (.iconst 0, 1) := by decide +kernel
theorem dL_tells_205 : decode cL_tells 205 = .ok (.ireturn, 1) := by decide +kernel
theorem dL_tells_206 : decode cL_tells 206 = .ok (.iload 4, 2) := by decide +kernel
theorem dL_tells_208 : decode cL_tells 208 = .ok (.bipush 6, 2) := by decide +kernel
theorem dL_tells_210 : decode cL_tells 210 = .ok (.if_icmp .ne 37, 3) := by decide +kernel
theorem dL_tells_213 : decode cL_tells 213 = .ok (.aload_n 0, 1) := by decide +kernel
theorem dL_tells_214 : decode cL_tells 214 = .ok (.iload 5, 2) := by decide +kernel
theorem dL_tells_216 : decode cL_tells 216 = .ok (.iload_n 3, 1) := by decide +kernel
theorem dL_tells_217 : decode cL_tells 217 = .ok (.bipush 6, 2) := by decide +kernel
theorem dL_tells_219 : decode cL_tells 219 = .ok (.ishr, 1) := by decide +kernel
theorem dL_tells_220 : decode cL_tells 220 = .ok (.sipush 1000, 3) := by decide +kernel
theorem dL_tells_223 : decode cL_tells 223 = .ok (.invokestatic 148, 3) := by decide +kernel
theorem dL_tells_226 : decode cL_tells 226 = .ok (.iload_n 3, 1) := by decide +kernel
theorem dL_tells_227 : decode cL_tells 227 = .ok (.bipush 16, 2) := by decide +kernel
theorem dL_tells_229 : decode cL_tells 229 = .ok (.ishr, 1) := by decide +kernel
theorem dL_tells_230 : decode cL_tells 230 = .ok (.bipush 100, 2) := by decide +kernel
theorem dL_tells_232 : decode cL_tells 232 = .ok (.invokestatic 148, 3) := by decide +kernel
theorem dL_tells_235 : decode cL_tells 235 = .ok (.invokestatic 157, 3) := by decide +kernel
theorem dL_tells_238 : decode cL_tells 238 = .ok (.ifCond .ne 7, 3) := by decide +kernel
theorem dL_tells_241 : decode cL_tells 241 = .ok (.iconst 1, 1) := by decide +kernel
theorem dL_tells_242 : decode cL_tells 242 = .ok (.goto 4, 3) := by decide +kernel
theorem dL_tells_245 : decode cL_tells 245 = .ok (.iconst 0, 1) := by decide +kernel
theorem dL_tells_246 : decode cL_tells 246 = .ok (.ireturn, 1) := by decide +kernel
theorem dL_tells_247 : decode cL_tells 247 = .ok (.iload 4, 2) := by decide +kernel
theorem dL_tells_249 : decode cL_tells 249 = .ok (.bipush 7, 2) := by decide +kernel
theorem dL_tells_251 : decode cL_tells 251 = .ok (.if_icmp .ne 52, 3) := by decide +kernel
theorem dL_tells_254 : decode cL_tells 254 = .ok (.iload_n 3, 1) := by decide +kernel
theorem dL_tells_255 : decode cL_tells 255 = .ok (.bipush 6, 2) := by decide +kernel
theorem dL_tells_257 : decode cL_tells 257 = .ok (.ishr, 1) := by decide +kernel
theorem dL_tells_258 : decode cL_tells 258 = .ok (.bipush 50, 2) := by decide +kernel
theorem dL_tells_260 : decode cL_tells 260 = .ok (.invokestatic 148, 3) := by decide +kernel
theorem dL_tells_263 : decode cL_tells 263 = .ok (.istore 7, 2) := by decide +kernel
theorem dL_tells_265 : decode cL_tells 265 = .ok (.aload_n 0, 1) := by decide +kernel
theorem dL_tells_266 : decode cL_tells 266 = .ok (.iload 5, 2) := by decide +kernel
theorem dL_tells_268 : decode cL_tells 268 = .ok (.iload 6, 2) := by decide +kernel
theorem dL_tells_270 : decode cL_tells 270 = .ok (.iload 7, 2) := by decide +kernel
theorem dL_tells_272 : decode cL_tells 272 = .ok (.invokestatic 159, 3) := by decide +kernel
theorem dL_tells_275 : decode cL_tells 275 = .ok (.istore 8, 2) := by decide +kernel
theorem dL_tells_277 : decode cL_tells 277 = .ok (.iload 8, 2) := by decide +kernel
theorem dL_tells_279 : decode cL_tells 279 = .ok (.ifCond .lt 22, 3) := by decide +kernel
theorem dL_tells_282 : decode cL_tells 282 = .ok (.aload_n 0, 1) := by decide +kernel
theorem dL_tells_283 : decode cL_tells 283 = .ok (.iload 6, 2) := by decide +kernel
theorem dL_tells_285 : decode cL_tells 285 = .ok (.iload 5, 2) := by decide +kernel
theorem dL_tells_287 : decode cL_tells 287 = .ok (.iload 7, 2) := by decide +kernel
theorem dL_tells_289 : decode cL_tells 289 = .ok (.invokestatic 159, 3) := by decide +kernel
theorem dL_tells_292 : decode cL_tells 292 = .ok (.iload 7, 2) := by decide +kernel
theorem dL_tells_294 : decode cL_tells 294 = .ok (.if_icmp .ne 7, 3) := by decide +kernel
theorem dL_tells_297 : decode cL_tells 297 = .ok (.iconst 1, 1) := by decide +kernel
theorem dL_tells_298 : decode cL_tells 298 = .ok (.goto 4, 3) := by decide +kernel
theorem dL_tells_301 : decode cL_tells 301 = .ok (.iconst 0, 1) := by decide +kernel
theorem dL_tells_302 : decode cL_tells 302 = .ok (.ireturn, 1) := by decide +kernel
theorem dL_tells_303 : decode cL_tells 303 = .ok (.iload 4, 2) := by decide +kernel
theorem dL_tells_305 : decode cL_tells 305 = .ok (.bipush 8, 2) := by decide +kernel
theorem dL_tells_307 : decode cL_tells 307 = .ok (.if_icmp .ne 70, 3) := by decide +kernel
theorem dL_tells_310 : decode cL_tells 310 = .ok (.iload_n 3, 1) := by decide +kernel
theorem dL_tells_311 : decode cL_tells 311 = .ok (.bipush 6, 2) := by decide +kernel
theorem dL_tells_313 : decode cL_tells 313 = .ok (.ishr, 1) := by decide +kernel
theorem dL_tells_314 : decode cL_tells 314 = .ok (.sipush 4000, 3) := by decide +kernel
theorem dL_tells_317 : decode cL_tells 317 = .ok (.invokestatic 148, 3) := by decide +kernel
theorem dL_tells_320 : decode cL_tells 320 = .ok (.iconst 1, 1) := by decide +kernel
theorem dL_tells_321 : decode cL_tells 321 = .ok (.isub, 1) := by decide +kernel
theorem dL_tells_322 : decode cL_tells 322 = .ok (.istore 7, 2) := by decide +kernel
theorem dL_tells_324 : decode cL_tells 324 = .ok (.aload_n 0, 1) := by decide +kernel
theorem dL_tells_325 : decode cL_tells 325 = .ok (.iload_n 2, 1) := by decide +kernel
theorem dL_tells_326 : decode cL_tells 326 = .ok (.iconst 4, 1) := by decide +kernel
theorem dL_tells_327 : decode cL_tells 327 = .ok (.ishr, 1) := by decide +kernel
theorem dL_tells_328 : decode cL_tells 328 = .ok (.iconst 5, 1) := by decide +kernel
theorem dL_tells_329 : decode cL_tells 329 = .ok (.invokestatic 148, 3) := by decide +kernel
theorem dL_tells_332 : decode cL_tells 332 = .ok (.iload 5, 2) := by decide +kernel
theorem dL_tells_334 : decode cL_tells 334 = .ok (.iload 6, 2) := by decide +kernel
theorem dL_tells_336 : decode cL_tells 336 = .ok (.iload 7, 2) := by decide +kernel
theorem dL_tells_338 : decode cL_tells 338 = .ok (.invokestatic 161, 3) := by decide +kernel
theorem dL_tells_341 : decode cL_tells 341 = .ok (.istore 8, 2) := by decide +kernel
theorem dL_tells_343 : decode cL_tells 343 = .ok (.iload 8, 2) := by decide +kernel
theorem dL_tells_345 : decode cL_tells 345 = .ok (.iconst (-1), 1) := by decide +kernel
theorem dL_tells_346 : decode cL_tells 346 = .ok (.if_icmp .lt 29, 3) := by decide +kernel
theorem dL_tells_349 : decode cL_tells 349 = .ok (.aload_n 0, 1) := by decide +kernel
theorem dL_tells_350 : decode cL_tells 350 = .ok (.iload_n 2, 1) := by decide +kernel
theorem dL_tells_351 : decode cL_tells 351 = .ok (.iconst 4, 1) := by decide +kernel
theorem dL_tells_352 : decode cL_tells 352 = .ok (.ishr, 1) := by decide +kernel
theorem dL_tells_353 : decode cL_tells 353 = .ok (.iconst 5, 1) := by decide +kernel
theorem dL_tells_354 : decode cL_tells 354 = .ok (.invokestatic 148, 3) := by decide +kernel
theorem dL_tells_357 : decode cL_tells 357 = .ok (.iload 5, 2) := by decide +kernel
theorem dL_tells_359 : decode cL_tells 359 = .ok (.iload 6, 2) := by decide +kernel
theorem dL_tells_361 : decode cL_tells 361 = .ok (.iload 7, 2) := by decide +kernel
theorem dL_tells_363 : decode cL_tells 363 = .ok (.invokestatic 161, 3) := by decide +kernel
theorem dL_tells_366 : decode cL_tells 366 = .ok (.iload 7, 2) := by decide +kernel
theorem dL_tells_368 : decode cL_tells 368 = .ok (.if_icmp .ne 7, 3) := by decide +kernel
theorem dL_tells_371 : decode cL_tells 371 = .ok (.iconst 1, 1) := by decide +kernel
theorem dL_tells_372 : decode cL_tells 372 = .ok (.goto 4, 3) := by decide +kernel
theorem dL_tells_375 : decode cL_tells 375 = .ok (.iconst 0, 1) := by decide +kernel
theorem dL_tells_376 : decode cL_tells 376 = .ok (.ireturn, 1) := by decide +kernel
theorem dL_tells_377 : decode cL_tells 377 = .ok (.aload_n 0, 1) := by decide +kernel
theorem dL_tells_378 : decode cL_tells 378 = .ok (.iconst 1, 1) := by decide +kernel
theorem dL_tells_379 : decode cL_tells 379 = .ok (.iload_n 3, 1) := by decide +kernel
theorem dL_tells_380 : decode cL_tells 380 = .ok (.bipush 50, 2) := by decide +kernel
theorem dL_tells_382 : decode cL_tells 382 = .ok (.invokestatic 148, 3) := by decide +kernel
theorem dL_tells_385 : decode cL_tells 385 = .ok (.iadd, 1) := by decide +kernel
theorem dL_tells_386 : decode cL_tells 386 = .ok (.invokestatic 164, 3) := by decide +kernel
theorem dL_tells_389 : decode cL_tells 389 = .ok (.istore 7, 2) := by decide +kernel
theorem dL_tells_391 : decode cL_tells 391 = .ok (.aload_n 0, 1) := by decide +kernel
theorem dL_tells_392 : decode cL_tells 392 = .ok (.iload_n 3, 1) := by decide +kernel
theorem dL_tells_393 : decode cL_tells 393 = .ok (.bipush 6, 2) := by decide +kernel
theorem dL_tells_395 : decode cL_tells 395 = .ok (.ishr, 1) := by decide +kernel
theorem dL_tells_396 : decode cL_tells 396 = .ok (.bipush 101, 2) := by decide +kernel
theorem dL_tells_398 : decode cL_tells 398 = .ok (.invokestatic 148, 3) := by decide +kernel
theorem dL_tells_401 : decode cL_tells 401 = .ok (.invokestatic 166, 3) := by decide +kernel
theorem dL_tells_404 : decode cL_tells 404 = .ok (.istore 8, 2) := by decide +kernel
theorem dL_tells_406 : decode cL_tells 406 = .ok (.iload 7, 2) := by decide +kernel
theorem dL_tells_408 : decode cL_tells 408 = .ok (.ifCond .le 27, 3) := by decide +kernel
theorem dL_tells_411 : decode cL_tells 411 = .ok (.iload 7, 2) := by decide +kernel
theorem dL_tells_413 : decode cL_tells 413 = .ok (.sipush 1000, 3) := by decide +kernel
theorem dL_tells_416 : decode cL_tells 416 = .ok (.if_icmp .gt 19, 3) := by decide +kernel
theorem dL_tells_419 : decode cL_tells 419 = .ok (.iload 8, 2) := by decide +kernel
theorem dL_tells_421 : decode cL_tells 421 = .ok (.ifCond .lt 14, 3) := by decide +kernel
theorem dL_tells_424 : decode cL_tells 424 = .ok (.iload 8, 2) := by decide +kernel
theorem dL_tells_426 : decode cL_tells 426 = .ok (.bipush 100, 2) := by decide +kernel
theorem dL_tells_428 : decode cL_tells 428 = .ok (.if_icmp .gt 7, 3) := by decide +kernel
theorem dL_tells_431 : decode cL_tells 431 = .ok (.iconst 1, 1) := by decide +kernel
theorem dL_tells_432 : decode cL_tells 432 = .ok (.goto 4, 3) := by decide +kernel
theorem dL_tells_435 : decode cL_tells 435 = .ok (.iconst 0, 1) := by decide +kernel
theorem dL_tells_436 : decode cL_tells 436 = .ok (.ireturn, 1) := by decide +kernel
theorem dL_travels_0 : decode cL_travels 0 = .ok (.aload_n 1, 1) := by decide +kernel
theorem dL_travels_1 : decode cL_travels 1 = .ok (.iconst 1, 1) := by decide +kernel
theorem dL_travels_2 : decode cL_travels 2 = .ok (.iaload, 1) := by decide +kernel
theorem dL_travels_3 : decode cL_travels 3 = .ok (.ifCond .eq 12, 3) := by decide +kernel
theorem dL_travels_6 : decode cL_travels 6 = .ok (.iload_n 3, 1) := by decide +kernel
theorem dL_travels_7 : decode cL_travels 7 = .ok (.bipush 8, 2) := by decide +kernel
theorem dL_travels_9 : decode cL_travels 9 = .ok (.invokestatic 148, 3) := by decide +kernel
theorem dL_travels_12 : decode cL_travels 12 = .ok (.ifCond .ne 12, 3) := by decide +kernel
theorem dL_travels_15 : decode cL_travels 15 = .ok (.iload 4, 2) := by decide +kernel
theorem dL_travels_17 : decode cL_travels 17 = .ok (.iconst 5, 1) := by decide +kernel
theorem dL_travels_18 : decode cL_travels 18 = .ok (.invokestatic 148, 3) := by decide +kernel
theorem dL_travels_21 : decode cL_travels 21 = .ok (.goto 6, 3) := by decide +kernel
theorem dL_travels_24 : decode cL_travels 24 = .ok (.aload_n 2, 1) := by decide +kernel
theorem dL_travels_25 : decode cL_travels 25 = .ok (.iconst 0, 1) := by decide +kernel
theorem dL_travels_26 : decode cL_travels 26 = .ok (.iaload, 1) := by decide +kernel
theorem dL_travels_27 : decode cL_travels 27 = .ok (.istore 5, 2) := by decide +kernel
theorem dL_travels_29 : decode cL_travels 29 = .ok (.iload 5, 2) := by decide +kernel
theorem dL_travels_31 : decode cL_travels 31 = .ok (.iconst 1, 1) := by decide +kernel
theorem dL_travels_32 : decode cL_travels 32 = .ok (.iadd, 1) := by decide +kernel
theorem dL_travels_33 : decode cL_travels 33 = .ok (.iload 4, 2) := by decide +kernel
theorem dL_travels_35 : decode cL_travels 35 = .ok (.iconst 3, 1) := by decide +kernel
theorem dL_travels_36 : decode cL_travels 36 = .ok (.ishr, 1) := by decide +kernel
theorem dL_travels_37 : decode cL_travels 37 = .ok (.iconst 4, 1) := by decide +kernel
theorem dL_travels_38 : decode cL_travels 38 = .ok (.invokestatic 148, 3) := by decide +kernel
theorem dL_travels_41 : decode cL_travels 41 = .ok (.iadd, 1) := by decide +kernel
theorem dL_travels_42 : decode cL_travels 42 = .ok (.iconst 5, 1) := by decide +kernel
theorem dL_travels_43 : decode cL_travels 43 = .ok (.irem, 1) := by decide +kernel
theorem dL_travels_44 : decode cL_travels 44 = .ok (.istore 6, 2) := by decide +kernel
theorem dL_travels_46 : decode cL_travels 46 = .ok (.aload_n 1, 1) := by decide +kernel
theorem dL_travels_47 : decode cL_travels 47 = .ok (.iconst 0, 1) := by decide +kernel
theorem dL_travels_48 : decode cL_travels 48 = .ok (.iaload, 1) := by decide +kernel
theorem dL_travels_49 : decode cL_travels 49 = .ok (.iload 4, 2) := by decide +kernel
theorem dL_travels_51 : decode cL_travels 51 = .ok (.bipush 6, 2) := by decide +kernel
theorem dL_travels_53 : decode cL_travels 53 = .ok (.ishr, 1) := by decide +kernel
theorem dL_travels_54 : decode cL_travels 54 = .ok (.iconst 3, 1) := by decide +kernel
theorem dL_travels_55 : decode cL_travels 55 = .ok (.invokestatic 148, 3) := by decide +kernel
theorem dL_travels_58 : decode cL_travels 58 = .ok (.iadd, 1) := by decide +kernel
theorem dL_travels_59 : decode cL_travels 59 = .ok (.istore 7, 2) := by decide +kernel
theorem dL_travels_61 : decode cL_travels 61 = .ok (.aload_n 0, 1) := by decide +kernel
theorem dL_travels_62 : decode cL_travels 62 = .ok (.iload 5, 2) := by decide +kernel
theorem dL_travels_64 : decode cL_travels 64 = .ok (.iload 6, 2) := by decide +kernel
theorem dL_travels_66 : decode cL_travels 66 = .ok (.iload 4, 2) := by decide +kernel
theorem dL_travels_68 : decode cL_travels 68 = .ok (.bipush 9, 2) := by decide +kernel
theorem dL_travels_70 : decode cL_travels 70 = .ok (.ishr, 1) := by decide +kernel
theorem dL_travels_71 : decode cL_travels 71 = .ok (.iconst 5, 1) := by decide +kernel
theorem dL_travels_72 : decode cL_travels 72 = .ok (.invokestatic 148, 3) := by decide +kernel
theorem dL_travels_75 : decode cL_travels 75 = .ok (.iload 7, 2) := by decide +kernel
theorem dL_travels_77 : decode cL_travels 77 = .ok (.invokestatic 168, 3) := by decide +kernel
theorem dL_travels_80 : decode cL_travels 80 = .ok (.istore 8, 2) := by decide +kernel
theorem dL_travels_82 : decode cL_travels 82 = .ok (.aload_n 1, 1) := by decide +kernel
theorem dL_travels_83 : decode cL_travels 83 = .ok (.iconst 1, 1) := by decide +kernel
theorem dL_travels_84 : decode cL_travels 84 = .ok (.iaload, 1) := by decide +kernel
theorem dL_travels_85 : decode cL_travels 85 = .ok (.ifCond .eq 19, 3) := by decide +kernel
theorem dL_travels_88 : decode cL_travels 88 = .ok (.iload 5, 2) := by decide +kernel
theorem dL_travels_90 : decode cL_travels 90 = .ok (.aload_n 2, 1) := by decide +kernel
theorem dL_travels_91 : decode cL_travels 91 = .ok (.iconst 0, 1) := by decide +kernel
theorem dL_travels_92 : decode cL_travels 92 = .ok (.iaload, 1) := by decide +kernel
theorem dL_travels_93 : decode cL_travels 93 = .ok (.if_icmp .ne 15, 3) := by decide +kernel
theorem dL_travels_96 : decode cL_travels 96 = .ok (.iload 7, 2) := by decide +kernel
theorem dL_travels_98 : decode cL_travels 98 = .ok (.aload_n 2, 1) := by decide +kernel
theorem dL_travels_99 : decode cL_travels 99 = .ok (.iconst 1, 1) := by decide +kernel
theorem dL_travels_100 : decode cL_travels 100 = .ok (.iaload, 1) := by decide +kernel
theorem dL_travels_101 : decode cL_travels 101 = .ok (.if_icmp .lt 7, 3) := by decide +kernel
theorem dL_travels_104 : decode cL_travels 104 = .ok (.iconst 1, 1) := by decide +kernel
theorem dL_travels_105 : decode cL_travels 105 = .ok (.goto 4, 3) := by decide +kernel
theorem dL_travels_108 : decode cL_travels 108 = .ok (.iconst 0, 1) := by decide +kernel
theorem dL_travels_109 : decode cL_travels 109 = .ok (.istore 9, 2) := by decide +kernel
theorem dL_travels_111 : decode cL_travels 111 = .ok (.iload 8, 2) := by decide +kernel
theorem dL_travels_113 : decode cL_travels 113 = .ok (.ldc 28, 2) := by decide +kernel
theorem dL_travels_115 : decode cL_travels 115 = .ok (.if_icmp .ne 33, 3) := by decide +kernel
theorem dL_travels_118 : decode cL_travels 118 = .ok (.iload 9, 2) := by decide +kernel
theorem dL_travels_120 : decode cL_travels 120 = .ok (.ifCond .eq 22, 3) := by decide +kernel
theorem dL_travels_123 : decode cL_travels 123 = .ok (.aload_n 1, 1) := by decide +kernel
theorem dL_travels_124 : decode cL_travels 124 = .ok (.iconst 1, 1) := by decide +kernel
theorem dL_travels_125 : decode cL_travels 125 = .ok (.iaload, 1) := by decide +kernel
theorem dL_travels_126 : decode cL_travels 126 = .ok (.bipush 8, 2) := by decide +kernel
theorem dL_travels_128 : decode cL_travels 128 = .ok (.if_icmp .eq 14, 3) := by decide +kernel
theorem dL_travels_131 : decode cL_travels 131 = .ok (.aload_n 0, 1) := by decide +kernel
theorem dL_travels_132 : decode cL_travels 132 = .ok (.iconst 1, 1) := by decide +kernel
theorem dL_travels_133 : decode cL_travels 133 = .ok (.invokestatic 117, 3) := by decide +kernel
theorem dL_travels_136 : decode cL_travels 136 = .ok (.aload_n 1, 1) := by decide +kernel
theorem dL_travels_137 : decode cL_travels 137 = .ok (.iconst 1, 1) := by decide +kernel
theorem dL_travels_138 : decode cL_travels 138 = .ok (.iaload, 1) := by decide +kernel
theorem dL_travels_139 : decode cL_travels 139 = .ok (.if_icmp .ne 7, 3) := by decide +kernel
theorem dL_travels_142 : decode cL_travels 142 = .ok (.iconst 1, 1) := by decide +kernel
theorem dL_travels_143 : decode cL_travels 143 = .ok (.goto 4, 3) := by decide +kernel
theorem dL_travels_146 : decode cL_travels 146 = .ok (.iconst 0, 1) := by decide +kernel
theorem dL_travels_147 : decode cL_travels 147 = .ok (.ireturn, 1) := by decide +kernel
theorem dL_travels_148 : decode cL_travels 148 = .ok (.aload_n 1, 1) := by decide +kernel
theorem dL_travels_149 : decode cL_travels 149 = .ok (.iconst 1, 1) := by decide +kernel
theorem dL_travels_150 : decode cL_travels 150 = .ok (.dup2, 1) := by decide +kernel
theorem dL_travels_151 : decode cL_travels 151 = .ok (.iaload, 1) := by decide +kernel
theorem dL_travels_152 : decode cL_travels 152 = .ok (.iconst 1, 1) := by decide +kernel
theorem dL_travels_153 : decode cL_travels 153 = .ok (.iadd, 1) := by decide +kernel
theorem dL_travels_154 : decode cL_travels 154 = .ok (.iastore, 1) := by decide +kernel
theorem dL_travels_155 : decode cL_travels 155 = .ok (.aload_n 2, 1) := by decide +kernel
theorem dL_travels_156 : decode cL_travels 156 = .ok (.iconst 0, 1) := by decide +kernel
theorem dL_travels_157 : decode cL_travels 157 = .ok (.iload 6, 2) := by decide +kernel
theorem dL_travels_159 : decode cL_travels 159 = .ok (.iastore, 1) := by decide +kernel
theorem dL_travels_160 : decode cL_travels 160 = .ok (.aload_n 2, 1) := by decide +kernel
theorem dL_travels_161 : decode cL_travels 161 = .ok (.iconst 1, 1) := by decide +kernel
theorem dL_travels_162 : decode cL_travels 162 = .ok (.iload 7, 2) := by decide +kernel
theorem dL_travels_164 : decode cL_travels 164 = .ok (.iastore, 1) := by decide +kernel
theorem dL_travels_165 : decode cL_travels 165 = .ok (.iload 9, 2) := by decide +kernel
theorem dL_travels_167 : decode cL_travels 167 = .ok (.ifCond .eq 15, 3) := by decide +kernel
theorem dL_travels_170 : decode cL_travels 170 = .ok (.iload 8, 2) := by decide +kernel
theorem dL_travels_172 : decode cL_travels 172 = .ok (.aload_n 1, 1) := by decide +kernel
theorem dL_travels_173 : decode cL_travels 173 = .ok (.iconst 1, 1) := by decide +kernel
theorem dL_travels_174 : decode cL_travels 174 = .ok (.iaload, 1) := by decide +kernel
theorem dL_travels_175 : decode cL_travels 175 = .ok (.if_icmp .ne 7, 3) := by decide +kernel
theorem dL_travels_178 : decode cL_travels 178 = .ok (.iconst 1, 1) := by decide +kernel
theorem dL_travels_179 : decode cL_travels 179 = .ok (.goto 4, 3) := by decide +kernel
theorem dL_travels_182 : decode cL_travels 182 = .ok (.iconst 0, 1) := by decide +kernel
theorem dL_travels_183 : decode cL_travels 183 = .ok (.ireturn, 1) := by decide +kernel
theorem dL_sells_0 : decode cL_sells 0 = .ok (.aload_n 0, 1) := by decide +kernel
theorem dL_sells_1 : decode cL_sells 1 = .ok (.invokevirtual 122, 3) := by decide +kernel
theorem dL_sells_4 : decode cL_sells 4 = .ok (.lstore 4, 2) := by decide +kernel
theorem dL_sells_6 : decode cL_sells 6 = .ok (.aload_n 0, 1) := by decide +kernel
theorem dL_sells_7 : decode cL_sells 7 = .ok (.invokevirtual 126, 3) := by decide +kernel
theorem dL_sells_10 : decode cL_sells 10 = .ok (.istore 6, 2) := by decide +kernel
theorem dL_sells_12 : decode cL_sells 12 = .ok (.iload_n 3, 1) := by decide +kernel
theorem dL_sells_13 : decode cL_sells 13 = .ok (.iconst 5, 1) := by decide +kernel
theorem dL_sells_14 : decode cL_sells 14 = .ok (.invokestatic 148, 3) := by decide +kernel
theorem dL_sells_17 : decode cL_sells 17 = .ok (.istore 7, 2) := by decide +kernel
theorem dL_sells_19 : decode cL_sells 19 = .ok (.iload_n 2, 1) := by decide +kernel
theorem dL_sells_20 : decode cL_sells 20 = .ok (.iconst 3, 1) := by decide +kernel
theorem dL_sells_21 : decode cL_sells 21 = .ok (.invokestatic 148, 3) := by decide +kernel
theorem dL_sells_24 : decode cL_sells 24 = .ok (.ifCond .gt 9, 3) := by decide +kernel
theorem dL_sells_27 : decode cL_sells 27 = .ok (.aload_n 1, 1) := by decide +kernel
theorem dL_sells_28 : decode cL_sells 28 = .ok (.iconst 2, 1) := by decide +kernel
theorem dL_sells_29 : decode cL_sells 29 = .ok (.iaload, 1) := by decide +kernel
theorem dL_sells_30 : decode cL_sells 30 = .ok (.ifCond .ne 134, 3) := by decide +kernel
theorem dL_sells_33 : decode cL_sells 33 = .ok (.aload_n 0, 1) := by decide +kernel
theorem dL_sells_34 : decode cL_sells 34 = .ok (.iload 7, 2) := by decide +kernel
theorem dL_sells_36 : decode cL_sells 36 = .ok (.invokestatic 139, 3) := by decide +kernel
theorem dL_sells_39 : decode cL_sells 39 = .ok (.istore 8, 2) := by decide +kernel
theorem dL_sells_41 : decode cL_sells 41 = .ok (.iload 8, 2) := by decide +kernel
theorem dL_sells_43 : decode cL_sells 43 = .ok (.ldc 28, 2) := by decide +kernel
theorem dL_sells_45 : decode cL_sells 45 = .ok (.if_icmp .ne 30, 3) := by decide +kernel
theorem dL_sells_48 : decode cL_sells 48 = .ok (.aload_n 0, 1) := by decide +kernel
theorem dL_sells_49 : decode cL_sells 49 = .ok (.invokevirtual 122, 3) := by decide +kernel
theorem dL_sells_52 : decode cL_sells 52 = .ok (.lload 4, 2) := by decide +kernel
theorem dL_sells_54 : decode cL_sells 54 = .ok (.lcmp, 1) := by decide +kernel
theorem dL_sells_55 : decode cL_sells 55 = .ok (.ifCond .ne 18, 3) := by decide +kernel
theorem dL_sells_58 : decode cL_sells 58 = .ok (.aload_n 0, 1) := by decide +kernel
theorem dL_sells_59 : decode cL_sells 59 = .ok (.iconst 1, 1) := by decide +kernel
theorem dL_sells_60 : decode cL_sells 60 = .ok (.invokestatic 117, 3) := by decide +kernel
theorem dL_sells_63 : decode cL_sells 63 = .ok (.aload_n 1, 1) := by decide +kernel
theorem dL_sells_64 : decode cL_sells 64 = .ok (.iconst 1, 1) := by decide +kernel
theorem dL_sells_65 : decode cL_sells 65 = .ok (.iaload, 1) := by decide +kernel
theorem dL_sells_66 : decode cL_sells 66 = .ok (.if_icmp .ne 7, 3) := by decide +kernel
theorem dL_sells_69 : decode cL_sells 69 = .ok (.iconst 1, 1) := by decide +kernel
theorem dL_sells_70 : decode cL_sells 70 = .ok (.goto 4, 3) := by decide +kernel
theorem dL_sells_73 : decode cL_sells 73 = .ok (.iconst 0, 1) := by decide +kernel
theorem dL_sells_74 : decode cL_sells 74 = .ok (.ireturn, 1) := by decide +kernel
theorem dL_sells_75 : decode cL_sells 75 = .ok (.aload_n 1, 1) := by decide +kernel
theorem dL_sells_76 : decode cL_sells 76 = .ok (.iconst 1, 1) := by decide +kernel
theorem dL_sells_77 : decode cL_sells 77 = .ok (.iconst 0, 1) := by decide +kernel
theorem dL_sells_78 : decode cL_sells 78 = .ok (.iastore, 1) := by decide +kernel
theorem dL_sells_79 : decode cL_sells 79 = .ok (.aload_n 1, 1) := by decide +kernel
theorem dL_sells_80 : decode cL_sells 80 = .ok (.iconst 2, 1) := by decide +kernel
theorem dL_sells_81 : decode cL_sells 81 = .ok (.dup2, 1) := by decide +kernel
theorem dL_sells_82 : decode cL_sells 82 = .ok (.iaload, 1) := by decide +kernel
theorem dL_sells_83 : decode cL_sells 83 = .ok (.iconst 1, 1) := by decide +kernel
theorem dL_sells_84 : decode cL_sells 84 = .ok (.iadd, 1) := by decide +kernel
theorem dL_sells_85 : decode cL_sells 85 = .ok (.iastore, 1) := by decide +kernel
theorem dL_sells_86 : decode cL_sells 86 = .ok (.iload 6, 2) := by decide +kernel
theorem dL_sells_88 : decode cL_sells 88 = .ok (.ifCond .le 74, 3) := by decide +kernel
theorem dL_sells_91 : decode cL_sells 91 = .ok (.iload 8, 2) := by decide +kernel
theorem dL_sells_93 : decode cL_sells 93 = .ok (.aload_n 1, 1) := by decide +kernel
theorem dL_sells_94 : decode cL_sells 94 = .ok (.iconst 2, 1) := by decide +kernel
theorem dL_sells_95 : decode cL_sells 95 = .ok (.iaload, 1) := by decide +kernel
theorem dL_sells_96 : decode cL_sells 96 = .ok (.iconst 1, 1) := by decide +kernel
theorem dL_sells_97 : decode cL_sells 97 = .ok (.isub, 1) := by decide +kernel
theorem dL_sells_98 : decode cL_sells 98 = .ok (.if_icmp .ne 64, 3) := by decide +kernel
theorem dL_sells_101 : decode cL_sells 101 = .ok (.aload_n 0, 1) := by decide +kernel
theorem dL_sells_102 : decode cL_sells 102 = .ok (.iload 8, 2) := by decide +kernel
theorem dL_sells_104 : decode cL_sells 104 = .ok (.iconst 0, 1) := by decide +kernel
theorem dL_sells_105 : decode cL_sells 105 = .ok (.invokestatic 141, 3) := by decide +kernel
theorem dL_sells_108 : decode cL_sells 108 = .ok (.iload 6, 2) := by decide +kernel
theorem dL_sells_110 : decode cL_sells 110 = .ok (.if_icmp .ne 52, 3) := by decide +kernel
theorem dL_sells_113 : decode cL_sells 113 = .ok (.aload_n 0, 1) := by decide +kernel
theorem dL_sells_114 : decode cL_sells 114 = .ok (.iload 8, 2) := by decide +kernel
theorem dL_sells_116 : decode cL_sells 116 = .ok (.iconst 2, 1) := by decide +kernel
theorem dL_sells_117 : decode cL_sells 117 = .ok (.invokestatic 141, 3) := by decide +kernel
theorem dL_sells_120 : decode cL_sells 120 = .ok (.iload 7, 2) := by decide +kernel
theorem dL_sells_122 : decode cL_sells 122 = .ok (.if_icmp .ne 40, 3) := by decide +kernel
theorem dL_sells_125 : decode cL_sells 125 = .ok (.aload_n 0, 1) := by decide +kernel
theorem dL_sells_126 : decode cL_sells 126 = .ok (.invokevirtual 122, 3) := by decide +kernel
theorem dL_sells_129 : decode cL_sells 129 = .ok (.lload 4, 2) := by decide +kernel
theorem dL_sells_131 : decode cL_sells 131 = .ok (.iload 6, 2) := by decide +kernel
theorem dL_sells_133 : decode cL_sells 133 = .ok (.i2l, 1) := by decide +kernel
theorem dL_sells_134 : decode cL_sells 134 = .ok (.ladd, 1) := by decide +kernel
theorem dL_sells_135 : decode cL_sells 135 = .ok (.aload_n 0, 1) := by decide +kernel
theorem dL_sells_136 : decode cL_sells 136 = .ok (.iload 8, 2) := by decide +kernel
theorem dL_sells_138 : decode cL_sells 138 = .ok (.iconst 1, 1) := by decide +kernel
theorem dL_sells_139 : decode cL_sells 139 = .ok (.invokestatic 141, 3) := by decide +kernel
theorem dL_sells_142 : decode cL_sells 142 = .ok (.i2l, 1) := by decide +kernel
theorem dL_sells_143 : decode cL_sells 143 = .ok (.ladd, 1) := by decide +kernel
theorem dL_sells_144 : decode cL_sells 144 = .ok (.lcmp, 1) := by decide +kernel
theorem dL_sells_145 : decode cL_sells 145 = .ok (.ifCond .ne 17, 3) := by decide +kernel
theorem dL_sells_148 : decode cL_sells 148 = .ok (.aload_n 0, 1) := by decide +kernel
theorem dL_sells_149 : decode cL_sells 149 = .ok (.aload_n 1, 1) := by decide +kernel
theorem dL_sells_150 : decode cL_sells 150 = .ok (.iload 8, 2) := by decide +kernel
theorem dL_sells_152 : decode cL_sells 152 = .ok (.invokestatic 170, 3) := by decide +kernel
theorem dL_sells_155 : decode cL_sells 155 = .ok (.ifCond .eq 7, 3) := by decide +kernel
theorem dL_sells_158 : decode cL_sells 158 = .ok (.iconst 1, 1) := by decide +kernel
theorem dL_sells_159 : decode cL_sells 159 = .ok (.goto 4, 3) := by decide +kernel
theorem dL_sells_162 : decode cL_sells 162 = .ok (.iconst 0, 1) := by decide +kernel
theorem dL_sells_163 : decode cL_sells 163 = .ok (.ireturn, 1) := by decide +kernel
theorem dL_sells_164 : decode cL_sells 164 = .ok (.iload_n 3, 1) := by decide +kernel
theorem dL_sells_165 : decode cL_sells 165 = .ok (.iconst 3, 1) := by decide +kernel
theorem dL_sells_166 : decode cL_sells 166 = .ok (.ishr, 1) := by decide +kernel
theorem dL_sells_167 : decode cL_sells 167 = .ok (.aload_n 1, 1) := by decide +kernel
theorem dL_sells_168 : decode cL_sells 168 = .ok (.iconst 2, 1) := by decide +kernel
theorem dL_sells_169 : decode cL_sells 169 = .ok (.iaload, 1) := by decide +kernel
theorem dL_sells_170 : decode cL_sells 170 = .ok (.invokestatic 148, 3) := by decide +kernel
theorem dL_sells_173 : decode cL_sells 173 = .ok (.istore 8, 2) := by decide +kernel
theorem dL_sells_175 : decode cL_sells 175 = .ok (.iload_n 3, 1) := by decide +kernel
theorem dL_sells_176 : decode cL_sells 176 = .ok (.bipush 9, 2) := by decide +kernel
theorem dL_sells_178 : decode cL_sells 178 = .ok (.ishr, 1) := by decide +kernel
theorem dL_sells_179 : decode cL_sells 179 = .ok (.iconst 2, 1) := by decide +kernel
theorem dL_sells_180 : decode cL_sells 180 = .ok (.invokestatic 148, 3) := by decide +kernel
theorem dL_sells_183 : decode cL_sells 183 = .ok (.ifCond .ne 83, 3) := by decide +kernel
theorem dL_sells_186 : decode cL_sells 186 = .ok (.aload_n 0, 1) := by decide +kernel
theorem dL_sells_187 : decode cL_sells 187 = .ok (.iload 8, 2) := by decide +kernel
theorem dL_sells_189 : decode cL_sells 189 = .ok (.invokestatic 174, 3) := by decide +kernel
theorem dL_sells_192 : decode cL_sells 192 = .ok (.istore 9, 2) := by decide +kernel
theorem dL_sells_194 : decode cL_sells 194 = .ok (.iload 9, 2) := by decide +kernel
theorem dL_sells_196 : decode cL_sells 196 = .ok (.ldc 28, 2) := by decide +kernel
theorem dL_sells_198 : decode cL_sells 198 = .ok (.if_icmp .ne 21, 3) := by decide +kernel
theorem dL_sells_201 : decode cL_sells 201 = .ok (.aload_n 0, 1) := by decide +kernel
theorem dL_sells_202 : decode cL_sells 202 = .ok (.invokevirtual 122, 3) := by decide +kernel
theorem dL_sells_205 : decode cL_sells 205 = .ok (.lload 4, 2) := by decide +kernel
theorem dL_sells_207 : decode cL_sells 207 = .ok (.lcmp, 1) := by decide +kernel
theorem dL_sells_208 : decode cL_sells 208 = .ok (.ifCond .ne 7, 3) := by decide +kernel
theorem dL_sells_211 : decode cL_sells 211 = .ok (.iconst 1, 1) := by decide +kernel
theorem dL_sells_212 : decode cL_sells 212 = .ok (.goto 53, 3) := by decide +kernel
theorem dL_sells_215 : decode cL_sells 215 = .ok (.iconst 0, 1) := by decide +kernel
theorem dL_sells_216 : decode cL_sells 216 = .ok (.goto 49, 3) := by decide +kernel
theorem dL_sells_219 : decode cL_sells 219 = .ok (.iload 9, 2) := by decide +kernel
theorem dL_sells_221 : decode cL_sells 221 = .ok (.ifCond .lt 43, 3) := by decide +kernel
theorem dL_sells_224 : decode cL_sells 224 = .ok (.aload_n 0, 1) := by decide +kernel
theorem dL_sells_225 : decode cL_sells 225 = .ok (.invokevirtual 122, 3) := by decide +kernel
theorem dL_sells_228 : decode cL_sells 228 = .ok (.lload 4, 2) := by decide +kernel
theorem dL_sells_230 : decode cL_sells 230 = .ok (.iload 9, 2) := by decide +kernel
theorem dL_sells_232 : decode cL_sells 232 = .ok (.i2l, 1) := by decide +kernel
theorem dL_sells_233 : decode cL_sells 233 = .ok (.lsub, 1) := by decide +kernel
theorem dL_sells_234 : decode cL_sells 234 = .ok (.lcmp, 1) := by decide +kernel
theorem dL_sells_235 : decode cL_sells 235 = .ok (.ifCond .ne 29, 3) := by decide +kernel
theorem dL_sells_238 : decode cL_sells 238 = .ok (.aload_n 0, 1) := by decide +kernel
theorem dL_sells_239 : decode cL_sells 239 = .ok (.iload 8, 2) := by decide +kernel
theorem dL_sells_241 : decode cL_sells 241 = .ok (.invokestatic 174, 3) := by decide +kernel
theorem dL_sells_244 : decode cL_sells 244 = .ok (.ldc 28, 2) := by decide +kernel
theorem dL_sells_246 : decode cL_sells 246 = .ok (.if_icmp .ne 18, 3) := by decide +kernel
theorem dL_sells_249 : decode cL_sells 249 = .ok (.aload_n 0, 1) := by decide +kernel
theorem dL_sells_250 : decode cL_sells 250 = .ok (.iload 8, 2) := by decide +kernel
theorem dL_sells_252 : decode cL_sells 252 = .ok (.invokestatic 176, 3) := by decide +kernel
theorem dL_sells_255 : decode cL_sells 255 = .ok (.ldc 28, 2) := by decide +kernel
theorem dL_sells_257 : decode cL_sells 257 = .ok (.if_icmp .ne 7, 3) := by decide +kernel
theorem dL_sells_260 : decode cL_sells 260 = .ok (.iconst 1, 1) := by decide +kernel
theorem dL_sells_261 : decode cL_sells 261 = .ok (.goto 4, 3) := by decide +kernel
theorem dL_sells_264 : decode cL_sells 264 = .ok (.iconst 0, 1) := by decide +kernel
theorem dL_sells_265 : decode cL_sells 265 = .ok (.ireturn, 1) := by decide +kernel
theorem dL_sells_266 : decode cL_sells 266 = .ok (.aload_n 0, 1) := by decide +kernel
theorem dL_sells_267 : decode cL_sells 267 = .ok (.iload 8, 2) := by decide +kernel
theorem dL_sells_269 : decode cL_sells 269 = .ok (.invokestatic 176, 3) := by decide +kernel
theorem dL_sells_272 : decode cL_sells 272 = .ok (.istore 9, 2) := by decide +kernel
theorem dL_sells_274 : decode cL_sells 274 = .ok (.iload 9, 2) := by decide +kernel
theorem dL_sells_276 : decode cL_sells 276 = .ok (.ldc 28, 2) := by decide +kernel
theorem dL_sells_278 : decode cL_sells 278 = .ok (.if_icmp .ne 30, 3) := by decide +kernel
theorem dL_sells_281 : decode cL_sells 281 = .ok (.aload_n 0, 1) := by decide +kernel
theorem dL_sells_282 : decode cL_sells 282 = .ok (.invokevirtual 122, 3) := by decide +kernel
theorem dL_sells_285 : decode cL_sells 285 = .ok (.lload 4, 2) := by decide +kernel
theorem dL_sells_287 : decode cL_sells 287 = .ok (.lcmp, 1) := by decide +kernel
theorem dL_sells_288 : decode cL_sells 288 = .ok (.ifCond .ne 18, 3) := by decide +kernel
theorem dL_sells_291 : decode cL_sells 291 = .ok (.aload_n 0, 1) := by decide +kernel
theorem dL_sells_292 : decode cL_sells 292 = .ok (.iconst 1, 1) := by decide +kernel
theorem dL_sells_293 : decode cL_sells 293 = .ok (.invokestatic 117, 3) := by decide +kernel
theorem dL_sells_296 : decode cL_sells 296 = .ok (.aload_n 1, 1) := by decide +kernel
theorem dL_sells_297 : decode cL_sells 297 = .ok (.iconst 1, 1) := by decide +kernel
theorem dL_sells_298 : decode cL_sells 298 = .ok (.iaload, 1) := by decide +kernel
theorem dL_sells_299 : decode cL_sells 299 = .ok (.if_icmp .ne 7, 3) := by decide +kernel
theorem dL_sells_302 : decode cL_sells 302 = .ok (.iconst 1, 1) := by decide +kernel
theorem dL_sells_303 : decode cL_sells 303 = .ok (.goto 4, 3) := by decide +kernel
theorem dL_sells_306 : decode cL_sells 306 = .ok (.iconst 0, 1) := by decide +kernel
theorem dL_sells_307 : decode cL_sells 307 = .ok (.ireturn, 1) := by decide +kernel
theorem dL_sells_308 : decode cL_sells 308 = .ok (.aload_n 1, 1) := by decide +kernel
theorem dL_sells_309 : decode cL_sells 309 = .ok (.iconst 1, 1) := by decide +kernel
theorem dL_sells_310 : decode cL_sells 310 = .ok (.iconst 0, 1) := by decide +kernel
theorem dL_sells_311 : decode cL_sells 311 = .ok (.iastore, 1) := by decide +kernel
theorem dL_sells_312 : decode cL_sells 312 = .ok (.aload_n 1, 1) := by decide +kernel
theorem dL_sells_313 : decode cL_sells 313 = .ok (.iconst 2, 1) := by decide +kernel
theorem dL_sells_314 : decode cL_sells 314 = .ok (.dup2, 1) := by decide +kernel
theorem dL_sells_315 : decode cL_sells 315 = .ok (.iaload, 1) := by decide +kernel
theorem dL_sells_316 : decode cL_sells 316 = .ok (.iconst 1, 1) := by decide +kernel
theorem dL_sells_317 : decode cL_sells 317 = .ok (.iadd, 1) := by decide +kernel
theorem dL_sells_318 : decode cL_sells 318 = .ok (.iastore, 1) := by decide +kernel
theorem dL_sells_319 : decode cL_sells 319 = .ok (.aload_n 0, 1) := by decide +kernel
theorem dL_sells_320 : decode cL_sells 320 = .ok (.invokevirtual 122, 3) := by decide +kernel
theorem dL_sells_323 : decode cL_sells 323 = .ok (.lload 4, 2) := by decide +kernel
theorem dL_sells_325 : decode cL_sells 325 = .ok (.iload 9, 2) := by decide +kernel
theorem dL_sells_327 : decode cL_sells 327 = .ok (.i2l, 1) := by decide +kernel
theorem dL_sells_328 : decode cL_sells 328 = .ok (.ladd, 1) := by decide +kernel
theorem dL_sells_329 : decode cL_sells 329 = .ok (.lcmp, 1) := by decide +kernel
theorem dL_sells_330 : decode cL_sells 330 = .ok (.ifCond .ne 66, 3) := by decide +kernel
theorem dL_sells_333 : decode cL_sells 333 = .ok (.aload_n 0, 1) := by decide +kernel
theorem dL_sells_334 : decode cL_sells 334 = .ok (.aload_n 1, 1) := by decide +kernel
theorem dL_sells_335 : decode cL_sells 335 = .ok (.iconst 2, 1) := by decide +kernel
theorem dL_sells_336 : decode cL_sells 336 = .ok (.iaload, 1) := by decide +kernel
theorem dL_sells_337 : decode cL_sells 337 = .ok (.iconst 1, 1) := by decide +kernel
theorem dL_sells_338 : decode cL_sells 338 = .ok (.isub, 1) := by decide +kernel
theorem dL_sells_339 : decode cL_sells 339 = .ok (.iconst 0, 1) := by decide +kernel
theorem dL_sells_340 : decode cL_sells 340 = .ok (.invokestatic 141, 3) := by decide +kernel
theorem dL_sells_343 : decode cL_sells 343 = .ok (.iload 6, 2) := by decide +kernel
theorem dL_sells_345 : decode cL_sells 345 = .ok (.if_icmp .ne 51, 3) := by decide +kernel
theorem dL_sells_348 : decode cL_sells 348 = .ok (.aload_n 0, 1) := by decide +kernel
theorem dL_sells_349 : decode cL_sells 349 = .ok (.aload_n 1, 1) := by decide +kernel
theorem dL_sells_350 : decode cL_sells 350 = .ok (.iconst 2, 1) := by decide +kernel
theorem dL_sells_351 : decode cL_sells 351 = .ok (.iaload, 1) := by decide +kernel
theorem dL_sells_352 : decode cL_sells 352 = .ok (.iconst 1, 1) := by decide +kernel
theorem dL_sells_353 : decode cL_sells 353 = .ok (.isub, 1) := by decide +kernel
theorem dL_sells_354 : decode cL_sells 354 = .ok (.iconst 2, 1) := by decide +kernel
theorem dL_sells_355 : decode cL_sells 355 = .ok (.invokestatic 141, 3) := by decide +kernel
theorem dL_sells_358 : decode cL_sells 358 = .ok (.aload_n 0, 1) := by decide +kernel
theorem dL_sells_359 : decode cL_sells 359 = .ok (.iload 8, 2) := by decide +kernel
theorem dL_sells_361 : decode cL_sells 361 = .ok (.iconst 2, 1) := by decide +kernel
theorem dL_sells_362 : decode cL_sells 362 = .ok (.invokestatic 141, 3) := by decide +kernel
theorem dL_sells_365 : decode cL_sells 365 = .ok (.if_icmp .ne 31, 3) := by decide +kernel
theorem dL_sells_368 : decode cL_sells 368 = .ok (.aload_n 0, 1) := by decide +kernel
theorem dL_sells_369 : decode cL_sells 369 = .ok (.aload_n 1, 1) := by decide +kernel
theorem dL_sells_370 : decode cL_sells 370 = .ok (.aload_n 1, 1) := by decide +kernel
theorem dL_sells_371 : decode cL_sells 371 = .ok (.iconst 2, 1) := by decide +kernel
theorem dL_sells_372 : decode cL_sells 372 = .ok (.iaload, 1) := by decide +kernel
theorem dL_sells_373 : decode cL_sells 373 = .ok (.iconst 1, 1) := by decide +kernel
theorem dL_sells_374 : decode cL_sells 374 = .ok (.isub, 1) := by decide +kernel
theorem dL_sells_375 : decode cL_sells 375 = .ok (.invokestatic 170, 3) := by decide +kernel
theorem dL_sells_378 : decode cL_sells 378 = .ok (.ifCond .eq 18, 3) := by decide +kernel
theorem dL_sells_381 : decode cL_sells 381 = .ok (.aload_n 0, 1) := by decide +kernel
theorem dL_sells_382 : decode cL_sells 382 = .ok (.iload 8, 2) := by decide +kernel
theorem dL_sells_384 : decode cL_sells 384 = .ok (.invokestatic 174, 3) := by decide +kernel
theorem dL_sells_387 : decode cL_sells 387 = .ok (.ldc 28, 2) := by decide +kernel
theorem dL_sells_389 : decode cL_sells 389 = .ok (.if_icmp .ne 7, 3) := by decide +kernel
theorem dL_sells_392 : decode cL_sells 392 = .ok (.iconst 1, 1) := by decide +kernel
theorem dL_sells_393 : decode cL_sells 393 = .ok (.goto 4, 3) := by decide +kernel
theorem dL_sells_396 : decode cL_sells 396 = .ok (.iconst 0, 1) := by decide +kernel
theorem dL_sells_397 : decode cL_sells 397 = .ok (.ireturn, 1) := by decide +kernel
theorem dL_flies_0 : decode cL_flies 0 = .ok (.iload_n 2, 1) := by decide +kernel
theorem dL_flies_1 : decode cL_flies 1 = .ok (.aload_n 1, 1) := by decide +kernel
theorem dL_flies_2 : decode cL_flies 2 = .ok (.iconst 2, 1) := by decide +kernel
theorem dL_flies_3 : decode cL_flies 3 = .ok (.iaload, 1) := by decide +kernel
theorem dL_flies_4 : decode cL_flies 4 = .ok (.invokestatic 148, 3) := by decide +kernel
theorem dL_flies_7 : decode cL_flies 7 = .ok (.istore_n 3, 1) := by decide +kernel
theorem dL_flies_8 : decode cL_flies 8 = .ok (.iload_n 2, 1) := by decide +kernel
theorem dL_flies_9 : decode cL_flies 9 = .ok (.iconst 5, 1) := by decide +kernel
theorem dL_flies_10 : decode cL_flies 10 = .ok (.ishr, 1) := by decide +kernel
theorem dL_flies_11 : decode cL_flies 11 = .ok (.aload_n 0, 1) := by decide +kernel
theorem dL_flies_12 : decode cL_flies 12 = .ok (.iload_n 3, 1) := by decide +kernel
theorem dL_flies_13 : decode cL_flies 13 = .ok (.iconst 3, 1) := by decide +kernel
theorem dL_flies_14 : decode cL_flies 14 = .ok (.invokestatic 141, 3) := by decide +kernel
theorem dL_flies_17 : decode cL_flies 17 = .ok (.invokestatic 148, 3) := by decide +kernel
theorem dL_flies_20 : decode cL_flies 20 = .ok (.istore 4, 2) := by decide +kernel
theorem dL_flies_22 : decode cL_flies 22 = .ok (.aload_n 0, 1) := by decide +kernel
theorem dL_flies_23 : decode cL_flies 23 = .ok (.iload_n 3, 1) := by decide +kernel
theorem dL_flies_24 : decode cL_flies 24 = .ok (.iload 4, 2) := by decide +kernel
theorem dL_flies_26 : decode cL_flies 26 = .ok (.iconst 0, 1) := by decide +kernel
theorem dL_flies_27 : decode cL_flies 27 = .ok (.invokestatic 143, 3) := by decide +kernel
theorem dL_flies_30 : decode cL_flies 30 = .ok (.istore 5, 2) := by decide +kernel
theorem dL_flies_32 : decode cL_flies 32 = .ok (.aload_n 0, 1) := by decide +kernel
theorem dL_flies_33 : decode cL_flies 33 = .ok (.iload_n 3, 1) := by decide +kernel
theorem dL_flies_34 : decode cL_flies 34 = .ok (.iload 4, 2) := by decide +kernel
theorem dL_flies_36 : decode cL_flies 36 = .ok (.iconst 3, 1) := by decide +kernel
theorem dL_flies_37 : decode cL_flies 37 = .ok (.invokestatic 143, 3) := by decide +kernel
theorem dL_flies_40 : decode cL_flies 40 = .ok (.istore 6, 2) := by decide +kernel
theorem dL_flies_42 : decode cL_flies 42 = .ok (.iload_n 2, 1) := by decide +kernel
theorem dL_flies_43 : decode cL_flies 43 = .ok (.bipush 9, 2) := by decide +kernel
theorem dL_flies_45 : decode cL_flies 45 = .ok (.ishr, 1) := by decide +kernel
theorem dL_flies_46 : decode cL_flies 46 = .ok (.iconst 4, 1) := by decide +kernel
theorem dL_flies_47 : decode cL_flies 47 = .ok (.invokestatic 148, 3) := by decide +kernel
theorem dL_flies_50 : decode cL_flies 50 = .ok (.ifCond .ne 72, 3) := by decide +kernel
theorem dL_flies_53 : decode cL_flies 53 = .ok (.iload_n 2, 1) := by decide +kernel
theorem dL_flies_54 : decode cL_flies 54 = .ok (.bipush 11, 2) := by decide +kernel
theorem dL_flies_56 : decode cL_flies 56 = .ok (.ishr, 1) := by decide +kernel
theorem dL_flies_57 : decode cL_flies 57 = .ok (.iconst 5, 1) := by decide +kernel
theorem dL_flies_58 : decode cL_flies 58 = .ok (.invokestatic 148, 3) := by decide +kernel
theorem dL_flies_61 : decode cL_flies 61 = .ok (.istore 7, 2) := by decide +kernel
theorem dL_flies_63 : decode cL_flies 63 = .ok (.aload_n 0, 1) := by decide +kernel
theorem dL_flies_64 : decode cL_flies 64 = .ok (.iload_n 3, 1) := by decide +kernel
theorem dL_flies_65 : decode cL_flies 65 = .ok (.iload 4, 2) := by decide +kernel
theorem dL_flies_67 : decode cL_flies 67 = .ok (.iload 7, 2) := by decide +kernel
theorem dL_flies_69 : decode cL_flies 69 = .ok (.invokestatic 178, 3) := by decide +kernel
theorem dL_flies_72 : decode cL_flies 72 = .ok (.istore 8, 2) := by decide +kernel
theorem dL_flies_74 : decode cL_flies 74 = .ok (.iload 8, 2) := by decide +kernel
theorem dL_flies_76 : decode cL_flies 76 = .ok (.iload 5, 2) := by decide +kernel
theorem dL_flies_78 : decode cL_flies 78 = .ok (.ifCond .ne 15, 3) := by decide +kernel
theorem dL_flies_81 : decode cL_flies 81 = .ok (.iload 7, 2) := by decide +kernel
theorem dL_flies_83 : decode cL_flies 83 = .ok (.iload 6, 2) := by decide +kernel
theorem dL_flies_85 : decode cL_flies 85 = .ok (.if_icmp .eq 8, 3) := by decide +kernel
theorem dL_flies_88 : decode cL_flies 88 = .ok (.iload 6, 2) := by decide +kernel
theorem dL_flies_90 : decode cL_flies 90 = .ok (.goto 5, 3) := by decide +kernel
theorem dL_flies_93 : decode cL_flies 93 = .ok (.ldc 28, 2) := by decide +kernel
theorem dL_flies_95 : decode cL_flies 95 = .ok (.if_icmp .ne 25, 3) := by decide +kernel
theorem dL_flies_98 : decode cL_flies 98 = .ok (.iload 8, 2) := by decide +kernel
theorem dL_flies_100 : decode cL_flies 100 = .ok (.ifCond .lt 16, 3) := by decide +kernel
theorem dL_flies_103 : decode cL_flies 103 = .ok (.aload_n 0, 1) := by decide +kernel
theorem dL_flies_104 : decode cL_flies 104 = .ok (.iload_n 3, 1) := by decide +kernel
theorem dL_flies_105 : decode cL_flies 105 = .ok (.iload 4, 2) := by decide +kernel
theorem dL_flies_107 : decode cL_flies 107 = .ok (.iconst 3, 1) := by decide +kernel
theorem dL_flies_108 : decode cL_flies 108 = .ok (.invokestatic 143, 3) := by decide +kernel
theorem dL_flies_111 : decode cL_flies 111 = .ok (.iload 7, 2) := by decide +kernel
theorem dL_flies_113 : decode cL_flies 113 = .ok (.if_icmp .ne 7, 3) := by decide +kernel
theorem dL_flies_116 : decode cL_flies 116 = .ok (.iconst 1, 1) := by decide +kernel
theorem dL_flies_117 : decode cL_flies 117 = .ok (.goto 4, 3) := by decide +kernel
theorem dL_flies_120 : decode cL_flies 120 = .ok (.iconst 0, 1) := by decide +kernel
theorem dL_flies_121 : decode cL_flies 121 = .ok (.ireturn, 1) := by decide +kernel
theorem dL_flies_122 : decode cL_flies 122 = .ok (.aload_n 0, 1) := by decide +kernel
theorem dL_flies_123 : decode cL_flies 123 = .ok (.iload_n 3, 1) := by decide +kernel
theorem dL_flies_124 : decode cL_flies 124 = .ok (.iload 4, 2) := by decide +kernel
theorem dL_flies_126 : decode cL_flies 126 = .ok (.invokestatic 180, 3) := by decide +kernel
theorem dL_flies_129 : decode cL_flies 129 = .ok (.istore 7, 2) := by decide +kernel
theorem dL_flies_131 : decode cL_flies 131 = .ok (.iload 5, 2) := by decide +kernel
theorem dL_flies_133 : decode cL_flies 133 = .ok (.ifCond .ne 17, 3) := by decide +kernel
theorem dL_flies_136 : decode cL_flies 136 = .ok (.aload_n 0, 1) := by decide +kernel
theorem dL_flies_137 : decode cL_flies 137 = .ok (.iload_n 3, 1) := by decide +kernel
theorem dL_flies_138 : decode cL_flies 138 = .ok (.iload 4, 2) := by decide +kernel
theorem dL_flies_140 : decode cL_flies 140 = .ok (.iconst 4, 1) := by decide +kernel
theorem dL_flies_141 : decode cL_flies 141 = .ok (.invokestatic 143, 3) := by decide +kernel
theorem dL_flies_144 : decode cL_flies 144 = .ok (.aload_n 1, 1) := by decide +kernel
theorem dL_flies_145 : decode cL_flies 145 = .ok (.iconst 0, 1) := by decide +kernel
theorem dL_flies_146 : decode cL_flies 146 = .ok (.iaload, 1) := by decide +kernel
theorem dL_flies_147 : decode cL_flies 147 = .ok (.if_icmp .le 16, 3) := by decide +kernel
theorem dL_flies_150 : decode cL_flies 150 = .ok (.iload 7, 2) := by decide +kernel
theorem dL_flies_152 : decode cL_flies 152 = .ok (.ldc 28, 2) := by decide +kernel
theorem dL_flies_154 : decode cL_flies 154 = .ok (.if_icmp .ne 7, 3) := by decide +kernel
theorem dL_flies_157 : decode cL_flies 157 = .ok (.iconst 1, 1) := by decide +kernel
theorem dL_flies_158 : decode cL_flies 158 = .ok (.goto 4, 3) := by decide +kernel
theorem dL_flies_161 : decode cL_flies 161 = .ok (.iconst 0, 1) := by decide +kernel
theorem dL_flies_162 : decode cL_flies 162 = .ok (.ireturn, 1) := by decide +kernel
theorem dL_flies_163 : decode cL_flies 163 = .ok (.iload 6, 2) := by decide +kernel
theorem dL_flies_165 : decode cL_flies 165 = .ok (.aload_n 0, 1) := by decide +kernel
theorem dL_flies_166 : decode cL_flies 166 = .ok (.iload_n 3, 1) := by decide +kernel
theorem dL_flies_167 : decode cL_flies 167 = .ok (.iconst 2, 1) := by decide +kernel
theorem dL_flies_168 : decode cL_flies 168 = .ok (.invokestatic 141, 3) := by decide +kernel
theorem dL_flies_171 : decode cL_flies 171 = .ok (.if_icmp .ne 7, 3) := by decide +kernel
theorem dL_flies_174 : decode cL_flies 174 = .ok (.iconst 1, 1) := by decide +kernel
theorem dL_flies_175 : decode cL_flies 175 = .ok (.goto 4, 3) := by decide +kernel
theorem dL_flies_178 : decode cL_flies 178 = .ok (.iconst 0, 1) := by decide +kernel
theorem dL_flies_179 : decode cL_flies 179 = .ok (.istore 8, 2) := by decide +kernel
theorem dL_flies_181 : decode cL_flies 181 = .ok (.aload_n 1, 1) := by decide +kernel
theorem dL_flies_182 : decode cL_flies 182 = .ok (.iconst 3, 1) := by decide +kernel
theorem dL_flies_183 : decode cL_flies 183 = .ok (.dup2, 1) := by decide +kernel
theorem dL_flies_184 : decode cL_flies 184 = .ok (.iaload, 1) := by decide +kernel
theorem dL_flies_185 : decode cL_flies 185 = .ok (.iload 8, 2) := by decide +kernel
theorem dL_flies_187 : decode cL_flies 187 = .ok (.ifCond .eq 7, 3) := by decide +kernel
theorem dL_flies_190 : decode cL_flies 190 = .ok (.iconst 0, 1) := by decide +kernel
theorem dL_flies_191 : decode cL_flies 191 = .ok (.goto 4, 3) := by decide +kernel
theorem dL_flies_194 : decode cL_flies 194 = .ok (.iconst 1, 1) := by decide +kernel
theorem dL_flies_195 : decode cL_flies 195 = .ok (.iadd, 1) := by decide +kernel
theorem dL_flies_196 : decode cL_flies 196 = .ok (.iastore, 1) := by decide +kernel
theorem dL_flies_197 : decode cL_flies 197 = .ok (.iload 7, 2) := by decide +kernel
theorem dL_flies_199 : decode cL_flies 199 = .ok (.iload 8, 2) := by decide +kernel
theorem dL_flies_201 : decode cL_flies 201 = .ok (.ifCond .eq 7, 3) := by decide +kernel
theorem dL_flies_204 : decode cL_flies 204 = .ok (.iconst (-1), 1) := by decide +kernel
theorem dL_flies_205 : decode cL_flies 205 = .ok (.goto 8, 3) := by decide +kernel
theorem dL_flies_208 : decode cL_flies 208 = .ok (.aload_n 1, 1) := by decide +kernel
theorem dL_flies_209 : decode cL_flies 209 = .ok (.iconst 3, 1) := by decide +kernel
theorem dL_flies_210 : decode cL_flies 210 = .ok (.iaload, 1) := by decide +kernel
theorem dL_flies_211 : decode cL_flies 211 = .ok (.iconst 1, 1) := by decide +kernel
theorem dL_flies_212 : decode cL_flies 212 = .ok (.isub, 1) := by decide +kernel
theorem dL_flies_213 : decode cL_flies 213 = .ok (.if_icmp .ne 53, 3) := by decide +kernel
theorem dL_flies_216 : decode cL_flies 216 = .ok (.aload_n 0, 1) := by decide +kernel
theorem dL_flies_217 : decode cL_flies 217 = .ok (.iload_n 3, 1) := by decide +kernel
theorem dL_flies_218 : decode cL_flies 218 = .ok (.iload 4, 2) := by decide +kernel
theorem dL_flies_220 : decode cL_flies 220 = .ok (.iconst 0, 1) := by decide +kernel
theorem dL_flies_221 : decode cL_flies 221 = .ok (.invokestatic 143, 3) := by decide +kernel
theorem dL_flies_224 : decode cL_flies 224 = .ok (.iconst 1, 1) := by decide +kernel
theorem dL_flies_225 : decode cL_flies 225 = .ok (.if_icmp .ne 41, 3) := by decide +kernel
theorem dL_flies_228 : decode cL_flies 228 = .ok (.aload_n 0, 1) := by decide +kernel
theorem dL_flies_229 : decode cL_flies 229 = .ok (.iload_n 3, 1) := by decide +kernel
theorem dL_flies_230 : decode cL_flies 230 = .ok (.iload 4, 2) := by decide +kernel
theorem dL_flies_232 : decode cL_flies 232 = .ok (.iconst 5, 1) := by decide +kernel
theorem dL_flies_233 : decode cL_flies 233 = .ok (.invokestatic 143, 3) := by decide +kernel
theorem dL_flies_236 : decode cL_flies 236 = .ok (.iload 7, 2) := by decide +kernel
theorem dL_flies_238 : decode cL_flies 238 = .ok (.if_icmp .ne 28, 3) := by decide +kernel
theorem dL_flies_241 : decode cL_flies 241 = .ok (.aload_n 0, 1) := by decide +kernel
theorem dL_flies_242 : decode cL_flies 242 = .ok (.iload_n 3, 1) := by decide +kernel
theorem dL_flies_243 : decode cL_flies 243 = .ok (.iload 4, 2) := by decide +kernel
theorem dL_flies_245 : decode cL_flies 245 = .ok (.invokestatic 180, 3) := by decide +kernel
theorem dL_flies_248 : decode cL_flies 248 = .ok (.ldc 28, 2) := by decide +kernel
theorem dL_flies_250 : decode cL_flies 250 = .ok (.if_icmp .ne 16, 3) := by decide +kernel
theorem dL_flies_253 : decode cL_flies 253 = .ok (.aload_n 0, 1) := by decide +kernel
theorem dL_flies_254 : decode cL_flies 254 = .ok (.aload_n 1, 1) := by decide +kernel
theorem dL_flies_255 : decode cL_flies 255 = .ok (.iload_n 3, 1) := by decide +kernel
theorem dL_flies_256 : decode cL_flies 256 = .ok (.invokestatic 170, 3) := by decide +kernel
theorem dL_flies_259 : decode cL_flies 259 = .ok (.ifCond .eq 7, 3) := by decide +kernel
theorem dL_flies_262 : decode cL_flies 262 = .ok (.iconst 1, 1) := by decide +kernel
theorem dL_flies_263 : decode cL_flies 263 = .ok (.goto 4, 3) := by decide +kernel
theorem dL_flies_266 : decode cL_flies 266 = .ok (.iconst 0, 1) := by decide +kernel
theorem dL_flies_267 : decode cL_flies 267 = .ok (.ireturn, 1) := by decide +kernel
theorem dL_clears_0 : decode cL_clears 0 = .ok (.iload_n 2, 1) := by decide +kernel
theorem dL_clears_1 : decode cL_clears 1 = .ok (.iconst 5, 1) := by decide +kernel
theorem dL_clears_2 : decode cL_clears 2 = .ok (.invokestatic 148, 3) := by decide +kernel
theorem dL_clears_5 : decode cL_clears 5 = .ok (.istore 4, 2) := by decide +kernel
theorem dL_clears_7 : decode cL_clears 7 = .ok (.iload 4, 2) := by decide +kernel
theorem dL_clears_9 : decode cL_clears 9 = .ok (.iconst 2, 1) := by decide +kernel
theorem dL_clears_10 : decode cL_clears 10 = .ok (.if_icmp .ge 25, 3) := by decide +kernel
theorem dL_clears_13 : decode cL_clears 13 = .ok (.aload_n 1, 1) := by decide +kernel
theorem dL_clears_14 : decode cL_clears 14 = .ok (.iconst 4, 1) := by decide +kernel
theorem dL_clears_15 : decode cL_clears 15 = .ok (.dup2, 1) := by decide +kernel
theorem dL_clears_16 : decode cL_clears 16 = .ok (.iaload, 1) := by decide +kernel
theorem dL_clears_17 : decode cL_clears 17 = .ok (.iconst 1, 1) := by decide +kernel
theorem dL_clears_18 : decode cL_clears 18 = .ok (.iadd, 1) := by decide +kernel
theorem dL_clears_19 : decode cL_clears 19 = .ok (.iastore, 1) := by decide +kernel
theorem dL_clears_20 : decode cL_clears 20 = .ok (.aload_n 0, 1) := by decide +kernel
theorem dL_clears_21 : decode cL_clears 21 = .ok (.invokevirtual 182, 3) := by decide +kernel
theorem dL_clears_24 : decode cL_clears 24 = .ok (.lconst 0, 1) := by decide +kernel
theorem dL_clears_25 : decode cL_clears 25 = .ok (.lcmp, 1) := by decide +kernel
theorem dL_clears_26 : decode cL_clears 26 = .ok (.ifCond .lt 7, 3) := by decide +kernel
theorem dL_clears_29 : decode cL_clears 29 = .ok (.iconst 1, 1) := by decide +kernel
theorem dL_clears_30 : decode cL_clears 30 = .ok (.goto 4, 3) := by decide +kernel
theorem dL_clears_33 : decode cL_clears 33 = .ok (.iconst 0, 1) := by decide +kernel
theorem dL_clears_34 : decode cL_clears 34 = .ok (.ireturn, 1) := by decide +kernel
theorem dL_clears_35 : decode cL_clears 35 = .ok (.iload 4, 2) := by decide +kernel
theorem dL_clears_37 : decode cL_clears 37 = .ok (.iconst 2, 1) := by decide +kernel
theorem dL_clears_38 : decode cL_clears 38 = .ok (.if_icmp .ne 115, 3) := by decide +kernel
theorem dL_clears_41 : decode cL_clears 41 = .ok (.iload_n 3, 1) := by decide +kernel
theorem dL_clears_42 : decode cL_clears 42 = .ok (.iconst 5, 1) := by decide +kernel
theorem dL_clears_43 : decode cL_clears 43 = .ok (.invokestatic 148, 3) := by decide +kernel
theorem dL_clears_46 : decode cL_clears 46 = .ok (.istore 5, 2) := by decide +kernel
theorem dL_clears_48 : decode cL_clears 48 = .ok (.iload_n 3, 1) := by decide +kernel
theorem dL_clears_49 : decode cL_clears 49 = .ok (.iconst 3, 1) := by decide +kernel
theorem dL_clears_50 : decode cL_clears 50 = .ok (.ishr, 1) := by decide +kernel
theorem dL_clears_51 : decode cL_clears 51 = .ok (.iconst 3, 1) := by decide +kernel
theorem dL_clears_52 : decode cL_clears 52 = .ok (.invokestatic 148, 3) := by decide +kernel
theorem dL_clears_55 : decode cL_clears 55 = .ok (.ifCond .ne 7, 3) := by decide +kernel
theorem dL_clears_58 : decode cL_clears 58 = .ok (.iconst 1, 1) := by decide +kernel
theorem dL_clears_59 : decode cL_clears 59 = .ok (.goto 4, 3) := by decide +kernel
theorem dL_clears_62 : decode cL_clears 62 = .ok (.iconst 0, 1) := by decide +kernel
theorem dL_clears_63 : decode cL_clears 63 = .ok (.istore 6, 2) := by decide +kernel
theorem dL_clears_65 : decode cL_clears 65 = .ok (.aload_n 0, 1) := by decide +kernel
theorem dL_clears_66 : decode cL_clears 66 = .ok (.iconst 5, 1) := by decide +kernel
theorem dL_clears_67 : decode cL_clears 67 = .ok (.invokestatic 117, 3) := by decide +kernel
theorem dL_clears_70 : decode cL_clears 70 = .ok (.iload 5, 2) := by decide +kernel
theorem dL_clears_72 : decode cL_clears 72 = .ok (.ishr, 1) := by decide +kernel
theorem dL_clears_73 : decode cL_clears 73 = .ok (.iconst 1, 1) := by decide +kernel
theorem dL_clears_74 : decode cL_clears 74 = .ok (.iand, 1) := by decide +kernel
theorem dL_clears_75 : decode cL_clears 75 = .ok (.iconst 1, 1) := by decide +kernel
theorem dL_clears_76 : decode cL_clears 76 = .ok (.if_icmp .ne 7, 3) := by decide +kernel
theorem dL_clears_79 : decode cL_clears 79 = .ok (.iconst 1, 1) := by decide +kernel
theorem dL_clears_80 : decode cL_clears 80 = .ok (.goto 4, 3) := by decide +kernel
theorem dL_clears_83 : decode cL_clears 83 = .ok (.iconst 0, 1) := by decide +kernel
theorem dL_clears_84 : decode cL_clears 84 = .ok (.istore 7, 2) := by decide +kernel
theorem dL_clears_86 : decode cL_clears 86 = .ok (.aload_n 0, 1) := by decide +kernel
theorem dL_clears_87 : decode cL_clears 87 = .ok (.iload 5, 2) := by decide +kernel
theorem dL_clears_89 : decode cL_clears 89 = .ok (.iload 6, 2) := by decide +kernel
theorem dL_clears_91 : decode cL_clears 91 = .ok (.invokestatic 185, 3) := by decide +kernel
theorem dL_clears_94 : decode cL_clears 94 = .ok (.istore 8, 2) := by decide +kernel
theorem dL_clears_96 : decode cL_clears 96 = .ok (.iload 8, 2) := by decide +kernel
theorem dL_clears_98 : decode cL_clears 98 = .ok (.ifCond .lt 53, 3) := by decide +kernel
theorem dL_clears_101 : decode cL_clears 101 = .ok (.iload 8, 2) := by decide +kernel
theorem dL_clears_103 : decode cL_clears 103 = .ok (.aload_n 1, 1) := by decide +kernel
theorem dL_clears_104 : decode cL_clears 104 = .ok (.iconst 3, 1) := by decide +kernel
theorem dL_clears_105 : decode cL_clears 105 = .ok (.iaload, 1) := by decide +kernel
theorem dL_clears_106 : decode cL_clears 106 = .ok (.if_icmp .gt 45, 3) := by decide +kernel
theorem dL_clears_109 : decode cL_clears 109 = .ok (.iload 7, 2) := by decide +kernel
theorem dL_clears_111 : decode cL_clears 111 = .ok (.ifCond .ne 8, 3) := by decide +kernel
theorem dL_clears_114 : decode cL_clears 114 = .ok (.iload 6, 2) := by decide +kernel
theorem dL_clears_116 : decode cL_clears 116 = .ok (.ifCond .ne 8, 3) := by decide +kernel
theorem dL_clears_119 : decode cL_clears 119 = .ok (.iload 8, 2) := by decide +kernel
theorem dL_clears_121 : decode cL_clears 121 = .ok (.ifCond .ne 30, 3) := by decide +kernel
theorem dL_clears_124 : decode cL_clears 124 = .ok (.aload_n 0, 1) := by decide +kernel
theorem dL_clears_125 : decode cL_clears 125 = .ok (.iconst 5, 1) := by decide +kernel
theorem dL_clears_126 : decode cL_clears 126 = .ok (.invokestatic 117, 3) := by decide +kernel
theorem dL_clears_129 : decode cL_clears 129 = .ok (.iload 5, 2) := by decide +kernel
theorem dL_clears_131 : decode cL_clears 131 = .ok (.ishr, 1) := by decide +kernel
theorem dL_clears_132 : decode cL_clears 132 = .ok (.iconst 1, 1) := by decide +kernel
theorem dL_clears_133 : decode cL_clears 133 = .ok (.iand, 1) := by decide +kernel
theorem dL_clears_134 : decode cL_clears 134 = .ok (.iload 6, 2) := by decide +kernel
theorem dL_clears_136 : decode cL_clears 136 = .ok (.ifCond .eq 7, 3) := by decide +kernel
theorem dL_clears_139 : decode cL_clears 139 = .ok (.iconst 1, 1) := by decide +kernel
theorem dL_clears_140 : decode cL_clears 140 = .ok (.goto 4, 3) := by decide +kernel
theorem dL_clears_143 : decode cL_clears 143 = .ok (.iconst 0, 1) := by decide +kernel
theorem dL_clears_144 : decode cL_clears 144 = .ok (.if_icmp .ne 7, 3) := by decide +kernel
theorem dL_clears_147 : decode cL_clears 147 = .ok (.iconst 1, 1) := by decide +kernel
theorem dL_clears_148 : decode cL_clears 148 = .ok (.goto 4, 3) := by decide +kernel
theorem dL_clears_151 : decode cL_clears 151 = .ok (.iconst 0, 1) := by decide +kernel
theorem dL_clears_152 : decode cL_clears 152 = .ok (.ireturn, 1) := by decide +kernel
theorem dL_clears_153 : decode cL_clears 153 = .ok (.aload_n 1, 1) := by decide +kernel
theorem dL_clears_154 : decode cL_clears 154 = .ok (.iconst 3, 1) := by decide +kernel
theorem dL_clears_155 : decode cL_clears 155 = .ok (.iaload, 1) := by decide +kernel
theorem dL_clears_156 : decode cL_clears 156 = .ok (.ifCond .ne 29, 3) := by decide +kernel
theorem dL_clears_159 : decode cL_clears 159 = .ok (.aload_n 0, 1) := by decide +kernel
theorem dL_clears_160 : decode cL_clears 160 = .ok (.iconst 0, 1) := by decide +kernel
theorem dL_clears_161 : decode cL_clears 161 = .ok (.invokestatic 188, 3) := by decide +kernel
theorem dL_clears_164 : decode cL_clears 164 = .ok (.ldc 18, 2) := by decide +kernel
theorem dL_clears_166 : decode cL_clears 166 = .ok (.if_icmp .ne 17, 3) := by decide +kernel
theorem dL_clears_169 : decode cL_clears 169 = .ok (.aload_n 0, 1) := by decide +kernel
theorem dL_clears_170 : decode cL_clears 170 = .ok (.iconst 0, 1) := by decide +kernel
theorem dL_clears_171 : decode cL_clears 171 = .ok (.invokestatic 190, 3) := by decide +kernel
theorem dL_clears_174 : decode cL_clears 174 = .ok (.ldc 18, 2) := by decide +kernel
theorem dL_clears_176 : decode cL_clears 176 = .ok (.if_icmp .ne 7, 3) := by decide +kernel
theorem dL_clears_179 : decode cL_clears 179 = .ok (.iconst 1, 1) := by decide +kernel
theorem dL_clears_180 : decode cL_clears 180 = .ok (.goto 4, 3) := by decide +kernel
theorem dL_clears_183 : decode cL_clears 183 = .ok (.iconst 0, 1) := by decide +kernel
theorem dL_clears_184 : decode cL_clears 184 = .ok (.ireturn, 1) := by decide +kernel
theorem dL_clears_185 : decode cL_clears 185 = .ok (.iload_n 3, 1) := by decide +kernel
theorem dL_clears_186 : decode cL_clears 186 = .ok (.aload_n 1, 1) := by decide +kernel
theorem dL_clears_187 : decode cL_clears 187 = .ok (.iconst 3, 1) := by decide +kernel
theorem dL_clears_188 : decode cL_clears 188 = .ok (.iaload, 1) := by decide +kernel
theorem dL_clears_189 : decode cL_clears 189 = .ok (.invokestatic 148, 3) := by decide +kernel
theorem dL_clears_192 : decode cL_clears 192 = .ok (.istore 5, 2) := by decide +kernel
theorem dL_clears_194 : decode cL_clears 194 = .ok (.aload_n 0, 1) := by decide +kernel
theorem dL_clears_195 : decode cL_clears 195 = .ok (.iload 5, 2) := by decide +kernel
theorem dL_clears_197 : decode cL_clears 197 = .ok (.iconst 0, 1) := by decide +kernel
theorem dL_clears_198 : decode cL_clears 198 = .ok (.invokestatic 146, 3) := by decide +kernel
theorem dL_clears_201 : decode cL_clears 201 = .ok (.istore 6, 2) := by decide +kernel
theorem dL_clears_203 : decode cL_clears 203 = .ok (.iload 4, 2) := by decide +kernel
theorem dL_clears_205 : decode cL_clears 205 = .ok (.iconst 3, 1) := by decide +kernel
theorem dL_clears_206 : decode cL_clears 206 = .ok (.if_icmp .ne 88, 3) := by decide +kernel
theorem dL_clears_209 : decode cL_clears 209 = .ok (.aload_n 0, 1) := by decide +kernel
theorem dL_clears_210 : decode cL_clears 210 = .ok (.iload 5, 2) := by decide +kernel
theorem dL_clears_212 : decode cL_clears 212 = .ok (.invokestatic 188, 3) := by decide +kernel
theorem dL_clears_215 : decode cL_clears 215 = .ok (.istore 7, 2) := by decide +kernel
theorem dL_clears_217 : decode cL_clears 217 = .ok (.iload 6, 2) := by decide +kernel
theorem dL_clears_219 : decode cL_clears 219 = .ok (.iconst 1, 1) := by decide +kernel
theorem dL_clears_220 : decode cL_clears 220 = .ok (.if_icmp .ne 22, 3) := by decide +kernel
theorem dL_clears_223 : decode cL_clears 223 = .ok (.aload_n 0, 1) := by decide +kernel
theorem dL_clears_224 : decode cL_clears 224 = .ok (.iload 5, 2) := by decide +kernel
theorem dL_clears_226 : decode cL_clears 226 = .ok (.iconst 5, 1) := by decide +kernel
theorem dL_clears_227 : decode cL_clears 227 = .ok (.invokestatic 146, 3) := by decide +kernel
theorem dL_clears_230 : decode cL_clears 230 = .ok (.aload_n 1, 1) := by decide +kernel
theorem dL_clears_231 : decode cL_clears 231 = .ok (.iconst 4, 1) := by decide +kernel
theorem dL_clears_232 : decode cL_clears 232 = .ok (.iaload, 1) := by decide +kernel
theorem dL_clears_233 : decode cL_clears 233 = .ok (.iconst 1, 1) := by decide +kernel
theorem dL_clears_234 : decode cL_clears 234 = .ok (.isub, 1) := by decide +kernel
theorem dL_clears_235 : decode cL_clears 235 = .ok (.if_icmp .lt 7, 3) := by decide +kernel
theorem dL_clears_238 : decode cL_clears 238 = .ok (.iconst 1, 1) := by decide +kernel
theorem dL_clears_239 : decode cL_clears 239 = .ok (.goto 4, 3) := by decide +kernel
theorem dL_clears_242 : decode cL_clears 242 = .ok (.iconst 0, 1) := by decide +kernel
theorem dL_clears_243 : decode cL_clears 243 = .ok (.istore 8, 2) := by decide +kernel
theorem dL_clears_245 : decode cL_clears 245 = .ok (.iload 8, 2) := by decide +kernel
theorem dL_clears_247 : decode cL_clears 247 = .ok (.ifCond .eq 34, 3) := by decide +kernel
theorem dL_clears_250 : decode cL_clears 250 = .ok (.iload 7, 2) := by decide +kernel
theorem dL_clears_252 : decode cL_clears 252 = .ok (.aload_n 0, 1) := by decide +kernel
theorem dL_clears_253 : decode cL_clears 253 = .ok (.iload 5, 2) := by decide +kernel
theorem dL_clears_255 : decode cL_clears 255 = .ok (.iconst 4, 1) := by decide +kernel
theorem dL_clears_256 : decode cL_clears 256 = .ok (.invokestatic 146, 3) := by decide +kernel
theorem dL_clears_259 : decode cL_clears 259 = .ok (.if_icmp .ne 18, 3) := by decide +kernel
theorem dL_clears_262 : decode cL_clears 262 = .ok (.aload_n 0, 1) := by decide +kernel
theorem dL_clears_263 : decode cL_clears 263 = .ok (.iload 5, 2) := by decide +kernel
theorem dL_clears_265 : decode cL_clears 265 = .ok (.iconst 0, 1) := by decide +kernel
theorem dL_clears_266 : decode cL_clears 266 = .ok (.invokestatic 146, 3) := by decide +kernel
theorem dL_clears_269 : decode cL_clears 269 = .ok (.iconst 2, 1) := by decide +kernel
theorem dL_clears_270 : decode cL_clears 270 = .ok (.if_icmp .ne 7, 3) := by decide +kernel
theorem dL_clears_273 : decode cL_clears 273 = .ok (.iconst 1, 1) := by decide +kernel
theorem dL_clears_274 : decode cL_clears 274 = .ok (.goto 19, 3) := by decide +kernel
theorem dL_clears_277 : decode cL_clears 277 = .ok (.iconst 0, 1) := by decide +kernel
theorem dL_clears_278 : decode cL_clears 278 = .ok (.goto 15, 3) := by decide +kernel
theorem dL_clears_281 : decode cL_clears 281 = .ok (.iload 7, 2) := by decide +kernel
theorem dL_clears_283 : decode cL_clears 283 = .ok (.ldc 28, 2) := by decide +kernel
theorem dL_clears_285 : decode cL_clears 285 = .ok (.if_icmp .ne 7, 3) := by decide +kernel
theorem dL_clears_288 : decode cL_clears 288 = .ok (.iconst 1, 1) := by decide +kernel
theorem dL_clears_289 : decode cL_clears 289 = .ok (.goto 4, 3) := by decide +kernel
theorem dL_clears_292 : decode cL_clears 292 = .ok (.iconst 0, 1) := by decide +kernel
theorem dL_clears_293 : decode cL_clears 293 = .ok (.ireturn, 1) := by decide +kernel
theorem dL_clears_294 : decode cL_clears 294 = .ok (.aload_n 0, 1) := by decide +kernel
theorem dL_clears_295 : decode cL_clears 295 = .ok (.iload 5, 2) := by decide +kernel
theorem dL_clears_297 : decode cL_clears 297 = .ok (.invokestatic 190, 3) := by decide +kernel
theorem dL_clears_300 : decode cL_clears 300 = .ok (.iload 6, 2) := by decide +kernel
theorem dL_clears_302 : decode cL_clears 302 = .ok (.iconst 3, 1) := by decide +kernel
theorem dL_clears_303 : decode cL_clears 303 = .ok (.if_icmp .ne 7, 3) := by decide +kernel
theorem dL_clears_306 : decode cL_clears 306 = .ok (.iconst 0, 1) := by decide +kernel
theorem dL_clears_307 : decode cL_clears 307 = .ok (.goto 5, 3) := by decide +kernel
theorem dL_clears_310 : decode cL_clears 310 = .ok (.ldc 28, 2) := by decide +kernel
theorem dL_clears_312 : decode cL_clears 312 = .ok (.if_icmp .ne 17, 3) := by decide +kernel
theorem dL_clears_315 : decode cL_clears 315 = .ok (.aload_n 0, 1) := by decide +kernel
theorem dL_clears_316 : decode cL_clears 316 = .ok (.aload_n 1, 1) := by decide +kernel
theorem dL_clears_317 : decode cL_clears 317 = .ok (.iload 5, 2) := by decide +kernel
theorem dL_clears_319 : decode cL_clears 319 = .ok (.invokestatic 192, 3) := by decide +kernel
theorem dL_clears_322 : decode cL_clears 322 = .ok (.ifCond .eq 7, 3) := by decide +kernel
theorem dL_clears_325 : decode cL_clears 325 = .ok (.iconst 1, 1) := by decide +kernel
theorem dL_clears_326 : decode cL_clears 326 = .ok (.goto 4, 3) := by decide +kernel
theorem dL_clears_329 : decode cL_clears 329 = .ok (.iconst 0, 1) := by decide +kernel
theorem dL_clears_330 : decode cL_clears 330 = .ok (.ireturn, 1) := by decide +kernel
theorem dL_acts_0 : decode cL_acts 0 = .ok (.iload_n 3, 1) := by decide +kernel
theorem dL_acts_1 : decode cL_acts 1 = .ok (.bipush 16, 2) := by decide +kernel
theorem dL_acts_3 : decode cL_acts 3 = .ok (.invokestatic 148, 3) := by decide +kernel
theorem dL_acts_6 : decode cL_acts 6 = .ok (.istore 5, 2) := by decide +kernel
theorem dL_acts_8 : decode cL_acts 8 = .ok (.iload 5, 2) := by decide +kernel
theorem dL_acts_10 : decode cL_acts 10 = .ok (.iconst 4, 1) := by decide +kernel
theorem dL_acts_11 : decode cL_acts 11 = .ok (.if_icmp .ge 14, 3) := by decide +kernel
theorem dL_acts_14 : decode cL_acts 14 = .ok (.aload_n 0, 1) := by decide +kernel
theorem dL_acts_15 : decode cL_acts 15 = .ok (.aload_n 1, 1) := by decide +kernel
theorem dL_acts_16 : decode cL_acts 16 = .ok (.iload_n 3, 1) := by decide +kernel
theorem dL_acts_17 : decode cL_acts 17 = .ok (.iconst 4, 1) := by decide +kernel
theorem dL_acts_18 : decode cL_acts 18 = .ok (.ishr, 1) := by decide +kernel
theorem dL_acts_19 : decode cL_acts 19 = .ok (.iload 4, 2) := by decide +kernel
theorem dL_acts_21 : decode cL_acts 21 = .ok (.invokestatic 195, 3) := by decide +kernel
theorem dL_acts_24 : decode cL_acts 24 = .ok (.ireturn, 1) := by decide +kernel
theorem dL_acts_25 : decode cL_acts 25 = .ok (.iload 5, 2) := by decide +kernel
theorem dL_acts_27 : decode cL_acts 27 = .ok (.bipush 8, 2) := by decide +kernel
theorem dL_acts_29 : decode cL_acts 29 = .ok (.if_icmp .ge 15, 3) := by decide +kernel
theorem dL_acts_32 : decode cL_acts 32 = .ok (.aload_n 0, 1) := by decide +kernel
theorem dL_acts_33 : decode cL_acts 33 = .ok (.aload_n 1, 1) := by decide +kernel
theorem dL_acts_34 : decode cL_acts 34 = .ok (.aload_n 2, 1) := by decide +kernel
theorem dL_acts_35 : decode cL_acts 35 = .ok (.iload_n 3, 1) := by decide +kernel
theorem dL_acts_36 : decode cL_acts 36 = .ok (.iconst 4, 1) := by decide +kernel
theorem dL_acts_37 : decode cL_acts 37 = .ok (.ishr, 1) := by decide +kernel
theorem dL_acts_38 : decode cL_acts 38 = .ok (.iload 4, 2) := by decide +kernel
theorem dL_acts_40 : decode cL_acts 40 = .ok (.invokestatic 199, 3) := by decide +kernel
theorem dL_acts_43 : decode cL_acts 43 = .ok (.ireturn, 1) := by decide +kernel
theorem dL_acts_44 : decode cL_acts 44 = .ok (.iload 5, 2) := by decide +kernel
theorem dL_acts_46 : decode cL_acts 46 = .ok (.bipush 10, 2) := by decide +kernel
theorem dL_acts_48 : decode cL_acts 48 = .ok (.if_icmp .ge 30, 3) := by decide +kernel
theorem dL_acts_51 : decode cL_acts 51 = .ok (.aload_n 0, 1) := by decide +kernel
theorem dL_acts_52 : decode cL_acts 52 = .ok (.aload_n 1, 1) := by decide +kernel
theorem dL_acts_53 : decode cL_acts 53 = .ok (.invokestatic 203, 3) := by decide +kernel
theorem dL_acts_56 : decode cL_acts 56 = .ok (.ifCond .eq 20, 3) := by decide +kernel
theorem dL_acts_59 : decode cL_acts 59 = .ok (.aload_n 0, 1) := by decide +kernel
theorem dL_acts_60 : decode cL_acts 60 = .ok (.aload_n 1, 1) := by decide +kernel
theorem dL_acts_61 : decode cL_acts 61 = .ok (.iload_n 3, 1) := by decide +kernel
theorem dL_acts_62 : decode cL_acts 62 = .ok (.iconst 4, 1) := by decide +kernel
theorem dL_acts_63 : decode cL_acts 63 = .ok (.ishr, 1) := by decide +kernel
theorem dL_acts_64 : decode cL_acts 64 = .ok (.iload 4, 2) := by decide +kernel
theorem dL_acts_66 : decode cL_acts 66 = .ok (.invokestatic 207, 3) := by decide +kernel
theorem dL_acts_69 : decode cL_acts 69 = .ok (.ifCond .eq 7, 3) := by decide +kernel
theorem dL_acts_72 : decode cL_acts 72 = .ok (.iconst 1, 1) := by decide +kernel
theorem dL_acts_73 : decode cL_acts 73 = .ok (.goto 4, 3) := by decide +kernel
theorem dL_acts_76 : decode cL_acts 76 = .ok (.iconst 0, 1) := by decide +kernel
theorem dL_acts_77 : decode cL_acts 77 = .ok (.ireturn, 1) := by decide +kernel
theorem dL_acts_78 : decode cL_acts 78 = .ok (.iload 5, 2) := by decide +kernel
theorem dL_acts_80 : decode cL_acts 80 = .ok (.bipush 13, 2) := by decide +kernel
theorem dL_acts_82 : decode cL_acts 82 = .ok (.if_icmp .ge 17, 3) := by decide +kernel
theorem dL_acts_85 : decode cL_acts 85 = .ok (.aload_n 1, 1) := by decide +kernel
theorem dL_acts_86 : decode cL_acts 86 = .ok (.iconst 2, 1) := by decide +kernel
theorem dL_acts_87 : decode cL_acts 87 = .ok (.iaload, 1) := by decide +kernel
theorem dL_acts_88 : decode cL_acts 88 = .ok (.ifCond .le 11, 3) := by decide +kernel
theorem dL_acts_91 : decode cL_acts 91 = .ok (.aload_n 0, 1) := by decide +kernel
theorem dL_acts_92 : decode cL_acts 92 = .ok (.aload_n 1, 1) := by decide +kernel
theorem dL_acts_93 : decode cL_acts 93 = .ok (.iload 4, 2) := by decide +kernel
theorem dL_acts_95 : decode cL_acts 95 = .ok (.invokestatic 210, 3) := by decide +kernel
theorem dL_acts_98 : decode cL_acts 98 = .ok (.ireturn, 1) := by decide +kernel
theorem dL_acts_99 : decode cL_acts 99 = .ok (.iload 5, 2) := by decide +kernel
theorem dL_acts_101 : decode cL_acts 101 = .ok (.bipush 13, 2) := by decide +kernel
theorem dL_acts_103 : decode cL_acts 103 = .ok (.if_icmp .ne 14, 3) := by decide +kernel
theorem dL_acts_106 : decode cL_acts 106 = .ok (.aload_n 0, 1) := by decide +kernel
theorem dL_acts_107 : decode cL_acts 107 = .ok (.aload_n 1, 1) := by decide +kernel
theorem dL_acts_108 : decode cL_acts 108 = .ok (.iload_n 3, 1) := by decide +kernel
theorem dL_acts_109 : decode cL_acts 109 = .ok (.iconst 4, 1) := by decide +kernel
theorem dL_acts_110 : decode cL_acts 110 = .ok (.ishr, 1) := by decide +kernel
theorem dL_acts_111 : decode cL_acts 111 = .ok (.iload 4, 2) := by decide +kernel
theorem dL_acts_113 : decode cL_acts 113 = .ok (.invokestatic 213, 3) := by decide +kernel
theorem dL_acts_116 : decode cL_acts 116 = .ok (.ireturn, 1) := by decide +kernel
theorem dL_acts_117 : decode cL_acts 117 = .ok (.iload 5, 2) := by decide +kernel
theorem dL_acts_119 : decode cL_acts 119 = .ok (.bipush 14, 2) := by decide +kernel
theorem dL_acts_121 : decode cL_acts 121 = .ok (.if_icmp .ne 52, 3) := by decide +kernel
theorem dL_acts_124 : decode cL_acts 124 = .ok (.aload_n 1, 1) := by decide +kernel
theorem dL_acts_125 : decode cL_acts 125 = .ok (.iconst 3, 1) := by decide +kernel
theorem dL_acts_126 : decode cL_acts 126 = .ok (.iaload, 1) := by decide +kernel
theorem dL_acts_127 : decode cL_acts 127 = .ok (.ifCond .le 46, 3) := by decide +kernel
theorem dL_acts_130 : decode cL_acts 130 = .ok (.aload_n 0, 1) := by decide +kernel
theorem dL_acts_131 : decode cL_acts 131 = .ok (.aload_n 1, 1) := by decide +kernel
theorem dL_acts_132 : decode cL_acts 132 = .ok (.iload 4, 2) := by decide +kernel
theorem dL_acts_134 : decode cL_acts 134 = .ok (.aload_n 1, 1) := by decide +kernel
theorem dL_acts_135 : decode cL_acts 135 = .ok (.iconst 3, 1) := by decide +kernel
theorem dL_acts_136 : decode cL_acts 136 = .ok (.iaload, 1) := by decide +kernel
theorem dL_acts_137 : decode cL_acts 137 = .ok (.invokestatic 148, 3) := by decide +kernel
theorem dL_acts_140 : decode cL_acts 140 = .ok (.invokestatic 192, 3) := by decide +kernel
theorem dL_acts_143 : decode cL_acts 143 = .ok (.ifCond .eq 28, 3) := by decide +kernel
theorem dL_acts_146 : decode cL_acts 146 = .ok (.aload_n 0, 1) := by decide +kernel
theorem dL_acts_147 : decode cL_acts 147 = .ok (.aload_n 1, 1) := by decide +kernel
theorem dL_acts_148 : decode cL_acts 148 = .ok (.iconst 2, 1) := by decide +kernel
theorem dL_acts_149 : decode cL_acts 149 = .ok (.iload_n 3, 1) := by decide +kernel
theorem dL_acts_150 : decode cL_acts 150 = .ok (.iconst 4, 1) := by decide +kernel
theorem dL_acts_151 : decode cL_acts 151 = .ok (.ishr, 1) := by decide +kernel
theorem dL_acts_152 : decode cL_acts 152 = .ok (.iconst 3, 1) := by decide +kernel
theorem dL_acts_153 : decode cL_acts 153 = .ok (.invokestatic 148, 3) := by decide +kernel
theorem dL_acts_156 : decode cL_acts 156 = .ok (.iadd, 1) := by decide +kernel
theorem dL_acts_157 : decode cL_acts 157 = .ok (.iload 4, 2) := by decide +kernel
theorem dL_acts_159 : decode cL_acts 159 = .ok (.iconst 4, 1) := by decide +kernel
theorem dL_acts_160 : decode cL_acts 160 = .ok (.ishr, 1) := by decide +kernel
theorem dL_acts_161 : decode cL_acts 161 = .ok (.invokestatic 213, 3) := by decide +kernel
theorem dL_acts_164 : decode cL_acts 164 = .ok (.ifCond .eq 7, 3) := by decide +kernel
theorem dL_acts_167 : decode cL_acts 167 = .ok (.iconst 1, 1) := by decide +kernel
theorem dL_acts_168 : decode cL_acts 168 = .ok (.goto 4, 3) := by decide +kernel
theorem dL_acts_171 : decode cL_acts 171 = .ok (.iconst 0, 1) := by decide +kernel
theorem dL_acts_172 : decode cL_acts 172 = .ok (.ireturn, 1) := by decide +kernel
theorem dL_acts_173 : decode cL_acts 173 = .ok (.iconst 1, 1) := by decide +kernel
theorem dL_acts_174 : decode cL_acts 174 = .ok (.iload 4, 2) := by decide +kernel
theorem dL_acts_176 : decode cL_acts 176 = .ok (.iconst 2, 1) := by decide +kernel
theorem dL_acts_177 : decode cL_acts 177 = .ok (.invokestatic 148, 3) := by decide +kernel
theorem dL_acts_180 : decode cL_acts 180 = .ok (.iadd, 1) := by decide +kernel
theorem dL_acts_181 : decode cL_acts 181 = .ok (.istore 6, 2) := by decide +kernel
theorem dL_acts_183 : decode cL_acts 183 = .ok (.aload_n 1, 1) := by decide +kernel
theorem dL_acts_184 : decode cL_acts 184 = .ok (.iconst 0, 1) := by decide +kernel
theorem dL_acts_185 : decode cL_acts 185 = .ok (.dup2, 1) := by decide +kernel
theorem dL_acts_186 : decode cL_acts 186 = .ok (.iaload, 1) := by decide +kernel
theorem dL_acts_187 : decode cL_acts 187 = .ok (.iload 6, 2) := by decide +kernel
theorem dL_acts_189 : decode cL_acts 189 = .ok (.iadd, 1) := by decide +kernel
theorem dL_acts_190 : decode cL_acts 190 = .ok (.iastore, 1) := by decide +kernel
theorem dL_acts_191 : decode cL_acts 191 = .ok (.aload_n 0, 1) := by decide +kernel
theorem dL_acts_192 : decode cL_acts 192 = .ok (.iload 6, 2) := by decide +kernel
theorem dL_acts_194 : decode cL_acts 194 = .ok (.invokestatic 216, 3) := by decide +kernel
theorem dL_acts_197 : decode cL_acts 197 = .ok (.aload_n 1, 1) := by decide +kernel
theorem dL_acts_198 : decode cL_acts 198 = .ok (.iconst 0, 1) := by decide +kernel
theorem dL_acts_199 : decode cL_acts 199 = .ok (.iaload, 1) := by decide +kernel
theorem dL_acts_200 : decode cL_acts 200 = .ok (.if_icmp .ne 15, 3) := by decide +kernel
theorem dL_acts_203 : decode cL_acts 203 = .ok (.aload_n 0, 1) := by decide +kernel
theorem dL_acts_204 : decode cL_acts 204 = .ok (.aload_n 1, 1) := by decide +kernel
theorem dL_acts_205 : decode cL_acts 205 = .ok (.invokestatic 218, 3) := by decide +kernel
theorem dL_acts_208 : decode cL_acts 208 = .ok (.ifCond .eq 7, 3) := by decide +kernel
theorem dL_acts_211 : decode cL_acts 211 = .ok (.iconst 1, 1) := by decide +kernel
theorem dL_acts_212 : decode cL_acts 212 = .ok (.goto 4, 3) := by decide +kernel
theorem dL_acts_215 : decode cL_acts 215 = .ok (.iconst 0, 1) := by decide +kernel
theorem dL_acts_216 : decode cL_acts 216 = .ok (.ireturn, 1) := by decide +kernel
theorem dL_law_0 : decode cL_law 0 = .ok (.new 11, 3) := by decide +kernel
theorem dL_law_3 : decode cL_law 3 = .ok (.dup, 1) := by decide +kernel
theorem dL_law_4 : decode cL_law 4 = .ok (.invokespecial 221, 3) := by decide +kernel
theorem dL_law_7 : decode cL_law 7 = .ok (.astore_n 1, 1) := by decide +kernel
theorem dL_law_8 : decode cL_law 8 = .ok (.bipush 7, 2) := by decide +kernel
theorem dL_law_10 : decode cL_law 10 = .ok (.newarray .int, 2) := by decide +kernel
theorem dL_law_12 : decode cL_law 12 = .ok (.astore_n 2, 1) := by decide +kernel
theorem dL_law_13 : decode cL_law 13 = .ok (.iconst 2, 1) := by decide +kernel
theorem dL_law_14 : decode cL_law 14 = .ok (.newarray .int, 2) := by decide +kernel
theorem dL_law_16 : decode cL_law 16 = .ok (.astore_n 3, 1) := by decide +kernel
theorem dL_law_17 : decode cL_law 17 = .ok (.aload_n 1, 1) := by decide +kernel
theorem dL_law_18 : decode cL_law 18 = .ok (.aload_n 2, 1) := by decide +kernel
theorem dL_law_19 : decode cL_law 19 = .ok (.invokestatic 218, 3) := by decide +kernel
theorem dL_law_22 : decode cL_law 22 = .ok (.istore 4, 2) := by decide +kernel
theorem dL_law_24 : decode cL_law 24 = .ok (.iconst 0, 1) := by decide +kernel
theorem dL_law_25 : decode cL_law 25 = .ok (.istore 5, 2) := by decide +kernel
theorem dL_law_27 : decode cL_law 27 = .ok (.iload 5, 2) := by decide +kernel
theorem dL_law_29 : decode cL_law 29 = .ok (.bipush 20, 2) := by decide +kernel
theorem dL_law_31 : decode cL_law 31 = .ok (.if_icmp .ge 69, 3) := by decide +kernel
theorem dL_law_34 : decode cL_law 34 = .ok (.iload 4, 2) := by decide +kernel
theorem dL_law_36 : decode cL_law 36 = .ok (.ifCond .eq 64, 3) := by decide +kernel
theorem dL_law_39 : decode cL_law 39 = .ok (.iload 5, 2) := by decide +kernel
theorem dL_law_41 : decode cL_law 41 = .ok (.iconst 5, 1) := by decide +kernel
theorem dL_law_42 : decode cL_law 42 = .ok (.irem, 1) := by decide +kernel
theorem dL_law_43 : decode cL_law 43 = .ok (.istore 6, 2) := by decide +kernel
theorem dL_law_45 : decode cL_law 45 = .ok (.iload 5, 2) := by decide +kernel
theorem dL_law_47 : decode cL_law 47 = .ok (.iconst 5, 1) := by decide +kernel
theorem dL_law_48 : decode cL_law 48 = .ok (.idiv, 1) := by decide +kernel
theorem dL_law_49 : decode cL_law 49 = .ok (.iconst 1, 1) := by decide +kernel
theorem dL_law_50 : decode cL_law 50 = .ok (.iadd, 1) := by decide +kernel
theorem dL_law_51 : decode cL_law 51 = .ok (.iload 6, 2) := by decide +kernel
theorem dL_law_53 : decode cL_law 53 = .ok (.iadd, 1) := by decide +kernel
theorem dL_law_54 : decode cL_law 54 = .ok (.iconst 5, 1) := by decide +kernel
theorem dL_law_55 : decode cL_law 55 = .ok (.irem, 1) := by decide +kernel
theorem dL_law_56 : decode cL_law 56 = .ok (.istore 7, 2) := by decide +kernel
theorem dL_law_58 : decode cL_law 58 = .ok (.iload 6, 2) := by decide +kernel
theorem dL_law_60 : decode cL_law 60 = .ok (.iload 7, 2) := by decide +kernel
theorem dL_law_62 : decode cL_law 62 = .ok (.if_icmp .ge 25, 3) := by decide +kernel
theorem dL_law_65 : decode cL_law 65 = .ok (.aload_n 1, 1) := by decide +kernel
theorem dL_law_66 : decode cL_law 66 = .ok (.iload 6, 2) := by decide +kernel
theorem dL_law_68 : decode cL_law 68 = .ok (.iload 7, 2) := by decide +kernel
theorem dL_law_70 : decode cL_law 70 = .ok (.sipush 250, 3) := by decide +kernel
theorem dL_law_73 : decode cL_law 73 = .ok (.bipush 50, 2) := by decide +kernel
theorem dL_law_75 : decode cL_law 75 = .ok (.iload 5, 2) := by decide +kernel
theorem dL_law_77 : decode cL_law 77 = .ok (.iconst 4, 1) := by decide +kernel
theorem dL_law_78 : decode cL_law 78 = .ok (.irem, 1) := by decide +kernel
theorem dL_law_79 : decode cL_law 79 = .ok (.imul, 1) := by decide +kernel
theorem dL_law_80 : decode cL_law 80 = .ok (.iadd, 1) := by decide +kernel
theorem dL_law_81 : decode cL_law 81 = .ok (.invokestatic 151, 3) := by decide +kernel
theorem dL_law_84 : decode cL_law 84 = .ok (.ifCond .lt 7, 3) := by decide +kernel
theorem dL_law_87 : decode cL_law 87 = .ok (.iconst 1, 1) := by decide +kernel
theorem dL_law_88 : decode cL_law 88 = .ok (.goto 4, 3) := by decide +kernel
theorem dL_law_91 : decode cL_law 91 = .ok (.iconst 0, 1) := by decide +kernel
theorem dL_law_92 : decode cL_law 92 = .ok (.istore 4, 2) := by decide +kernel
theorem dL_law_94 : decode cL_law 94 = .ok (.iinc 5 1, 3) := by decide +kernel
theorem dL_law_97 : decode cL_law 97 = .ok (.goto (-70), 3) := by decide +kernel
theorem dL_law_100 : decode cL_law 100 = .ok (.iconst 0, 1) := by decide +kernel
theorem dL_law_101 : decode cL_law 101 = .ok (.istore 5, 2) := by decide +kernel
theorem dL_law_103 : decode cL_law 103 = .ok (.iload 5, 2) := by decide +kernel
theorem dL_law_105 : decode cL_law 105 = .ok (.bipush 8, 2) := by decide +kernel
theorem dL_law_107 : decode cL_law 107 = .ok (.if_icmp .ge 28, 3) := by decide +kernel
theorem dL_law_110 : decode cL_law 110 = .ok (.iload 4, 2) := by decide +kernel
theorem dL_law_112 : decode cL_law 112 = .ok (.ifCond .eq 23, 3) := by decide +kernel
theorem dL_law_115 : decode cL_law 115 = .ok (.aload_n 1, 1) := by decide +kernel
theorem dL_law_116 : decode cL_law 116 = .ok (.aload_n 2, 1) := by decide +kernel
theorem dL_law_117 : decode cL_law 117 = .ok (.iconst 2, 1) := by decide +kernel
theorem dL_law_118 : decode cL_law 118 = .ok (.aload_n 0, 1) := by decide +kernel
theorem dL_law_119 : decode cL_law 119 = .ok (.iload 5, 2) := by decide +kernel
theorem dL_law_121 : decode cL_law 121 = .ok (.invokestatic 222, 3) := by decide +kernel
theorem dL_law_124 : decode cL_law 124 = .ok (.invokestatic 195, 3) := by decide +kernel
theorem dL_law_127 : decode cL_law 127 = .ok (.istore 4, 2) := by decide +kernel
theorem dL_law_129 : decode cL_law 129 = .ok (.iinc 5 1, 3) := by decide +kernel
theorem dL_law_132 : decode cL_law 132 = .ok (.goto (-29), 3) := by decide +kernel
theorem dL_law_135 : decode cL_law 135 = .ok (.iconst 4, 1) := by decide +kernel
theorem dL_law_136 : decode cL_law 136 = .ok (.istore 5, 2) := by decide +kernel
theorem dL_law_138 : decode cL_law 138 = .ok (.iload 5, 2) := by decide +kernel
theorem dL_law_140 : decode cL_law 140 = .ok (.bipush 60, 2) := by decide +kernel
theorem dL_law_142 : decode cL_law 142 = .ok (.if_icmp .ge 40, 3) := by decide +kernel
theorem dL_law_145 : decode cL_law 145 = .ok (.iload 4, 2) := by decide +kernel
theorem dL_law_147 : decode cL_law 147 = .ok (.ifCond .eq 35, 3) := by decide +kernel
theorem dL_law_150 : decode cL_law 150 = .ok (.aload_n 1, 1) := by decide +kernel
theorem dL_law_151 : decode cL_law 151 = .ok (.aload_n 2, 1) := by decide +kernel
theorem dL_law_152 : decode cL_law 152 = .ok (.aload_n 3, 1) := by decide +kernel
theorem dL_law_153 : decode cL_law 153 = .ok (.aload_n 0, 1) := by decide +kernel
theorem dL_law_154 : decode cL_law 154 = .ok (.iconst 2, 1) := by decide +kernel
theorem dL_law_155 : decode cL_law 155 = .ok (.iload 5, 2) := by decide +kernel
theorem dL_law_157 : decode cL_law 157 = .ok (.imul, 1) := by decide +kernel
theorem dL_law_158 : decode cL_law 158 = .ok (.invokestatic 222, 3) := by decide +kernel
theorem dL_law_161 : decode cL_law 161 = .ok (.aload_n 0, 1) := by decide +kernel
theorem dL_law_162 : decode cL_law 162 = .ok (.iconst 2, 1) := by decide +kernel
theorem dL_law_163 : decode cL_law 163 = .ok (.iload 5, 2) := by decide +kernel
theorem dL_law_165 : decode cL_law 165 = .ok (.imul, 1) := by decide +kernel
theorem dL_law_166 : decode cL_law 166 = .ok (.iconst 1, 1) := by decide +kernel
theorem dL_law_167 : decode cL_law 167 = .ok (.iadd, 1) := by decide +kernel
theorem dL_law_168 : decode cL_law 168 = .ok (.invokestatic 222, 3) := by decide +kernel
theorem dL_law_171 : decode cL_law 171 = .ok (.invokestatic 226, 3) := by decide +kernel
theorem dL_law_174 : decode cL_law 174 = .ok (.istore 4, 2) := by decide +kernel
theorem dL_law_176 : decode cL_law 176 = .ok (.iinc 5 1, 3) := by decide +kernel
theorem dL_law_179 : decode cL_law 179 = .ok (.goto (-41), 3) := by decide +kernel
theorem dL_law_182 : decode cL_law 182 = .ok (.iconst 0, 1) := by decide +kernel
theorem dL_law_183 : decode cL_law 183 = .ok (.istore 5, 2) := by decide +kernel
theorem dL_law_185 : decode cL_law 185 = .ok (.iload 5, 2) := by decide +kernel
theorem dL_law_187 : decode cL_law 187 = .ok (.aload_n 2, 1) := by decide +kernel
theorem dL_law_188 : decode cL_law 188 = .ok (.iconst 2, 1) := by decide +kernel
theorem dL_law_189 : decode cL_law 189 = .ok (.iaload, 1) := by decide +kernel
theorem dL_law_190 : decode cL_law 190 = .ok (.if_icmp .ge 23, 3) := by decide +kernel
theorem dL_law_193 : decode cL_law 193 = .ok (.iload 4, 2) := by decide +kernel
theorem dL_law_195 : decode cL_law 195 = .ok (.ifCond .eq 18, 3) := by decide +kernel
theorem dL_law_198 : decode cL_law 198 = .ok (.aload_n 1, 1) := by decide +kernel
theorem dL_law_199 : decode cL_law 199 = .ok (.aload_n 2, 1) := by decide +kernel
theorem dL_law_200 : decode cL_law 200 = .ok (.iload 5, 2) := by decide +kernel
theorem dL_law_202 : decode cL_law 202 = .ok (.invokestatic 170, 3) := by decide +kernel
theorem dL_law_205 : decode cL_law 205 = .ok (.istore 4, 2) := by decide +kernel
theorem dL_law_207 : decode cL_law 207 = .ok (.iinc 5 1, 3) := by decide +kernel
theorem dL_law_210 : decode cL_law 210 = .ok (.goto (-25), 3) := by decide +kernel
theorem dL_law_213 : decode cL_law 213 = .ok (.iconst 0, 1) := by decide +kernel
theorem dL_law_214 : decode cL_law 214 = .ok (.istore 5, 2) := by decide +kernel
theorem dL_law_216 : decode cL_law 216 = .ok (.iload 5, 2) := by decide +kernel
theorem dL_law_218 : decode cL_law 218 = .ok (.aload_n 2, 1) := by decide +kernel
theorem dL_law_219 : decode cL_law 219 = .ok (.iconst 3, 1) := by decide +kernel
theorem dL_law_220 : decode cL_law 220 = .ok (.iaload, 1) := by decide +kernel
theorem dL_law_221 : decode cL_law 221 = .ok (.if_icmp .ge 23, 3) := by decide +kernel
theorem dL_law_224 : decode cL_law 224 = .ok (.iload 4, 2) := by decide +kernel
theorem dL_law_226 : decode cL_law 226 = .ok (.ifCond .eq 18, 3) := by decide +kernel
theorem dL_law_229 : decode cL_law 229 = .ok (.aload_n 1, 1) := by decide +kernel
theorem dL_law_230 : decode cL_law 230 = .ok (.aload_n 2, 1) := by decide +kernel
theorem dL_law_231 : decode cL_law 231 = .ok (.iload 5, 2) := by decide +kernel
theorem dL_law_233 : decode cL_law 233 = .ok (.invokestatic 192, 3) := by decide +kernel
theorem dL_law_236 : decode cL_law 236 = .ok (.istore 4, 2) := by decide +kernel
theorem dL_law_238 : decode cL_law 238 = .ok (.iinc 5 1, 3) := by decide +kernel
theorem dL_law_241 : decode cL_law 241 = .ok (.goto (-25), 3) := by decide +kernel
theorem dL_law_244 : decode cL_law 244 = .ok (.iload 4, 2) := by decide +kernel
theorem dL_law_246 : decode cL_law 246 = .ok (.ifCond .eq 15, 3) := by decide +kernel
theorem dL_law_249 : decode cL_law 249 = .ok (.aload_n 1, 1) := by decide +kernel
theorem dL_law_250 : decode cL_law 250 = .ok (.aload_n 2, 1) := by decide +kernel
theorem dL_law_251 : decode cL_law 251 = .ok (.invokestatic 218, 3) := by decide +kernel
theorem dL_law_254 : decode cL_law 254 = .ok (.ifCond .eq 7, 3) := by decide +kernel
theorem dL_law_257 : decode cL_law 257 = .ok (.iconst 1, 1) := by decide +kernel
theorem dL_law_258 : decode cL_law 258 = .ok (.goto 4, 3) := by decide +kernel
theorem dL_law_261 : decode cL_law 261 = .ok (.iconst 0, 1) := by decide +kernel
theorem dL_law_262 : decode cL_law 262 = .ok (.ireturn, 1) := by decide +kernel
