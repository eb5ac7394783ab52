theorem dX0_init_0 : decode cX0_init 0 = .ok (.aload_n 0, 1) := by decide +kernel
theorem dX0_init_1 : decode cX0_init 1 = .ok (.invokespecial 3, 3) := by decide +kernel
theorem dX0_init_4 : decode cX0_init 4 = .ok (.aload_n 0, 1) := by decide +kernel
theorem dX0_init_5 : decode cX0_init 5 = .ok (.sipush 1200, 3) := by decide +kernel
theorem dX0_init_8 : decode cX0_init 8 = .ok (.newarray .int, 2) := by decide +kernel
theorem dX0_init_10 : decode cX0_init 10 = .ok (.putfield 11, 3) := by decide +kernel
theorem dX0_init_13 : decode cX0_init 13 = .ok (.return_, 1) := by decide +kernel
theorem dX0_copyFrom_0 : decode cX0_copyFrom 0 = .ok (.aload_n 1, 1) := by decide +kernel
theorem dX0_copyFrom_1 : decode cX0_copyFrom 1 = .ok (.getfield 11, 3) := by decide +kernel
theorem dX0_copyFrom_4 : decode cX0_copyFrom 4 = .ok (.iconst 0, 1) := by decide +kernel
theorem dX0_copyFrom_5 : decode cX0_copyFrom 5 = .ok (.aload_n 0, 1) := by decide +kernel
theorem dX0_copyFrom_6 : decode cX0_copyFrom 6 = .ok (.getfield 11, 3) := by decide +kernel
theorem dX0_copyFrom_9 : decode cX0_copyFrom 9 = .ok (.iconst 0, 1) := by decide +kernel
theorem dX0_copyFrom_10 : decode cX0_copyFrom 10 = .ok (.sipush 1200, 3) := by decide +kernel
theorem dX0_copyFrom_13 : decode cX0_copyFrom 13 = .ok (.invokestatic 15, 3) := by decide +kernel
theorem dX0_copyFrom_16 : decode cX0_copyFrom 16 = .ok (.return_, 1) := by decide +kernel
theorem dX0_write_0 : decode cX0_write 0 = .ok (.aload_n 1, 1) := by decide +kernel
theorem dX0_write_1 : decode cX0_write 1 = .ok (.getfield 21, 3) := by decide +kernel
theorem dX0_write_4 : decode cX0_write 4 = .ok (.sipush 200, 3) := by decide +kernel
theorem dX0_write_7 : decode cX0_write 7 = .ok (.if_icmp .lt 4, 3) := by decide +kernel
theorem dX0_write_10 : decode cX0_write 10 = .ok (.return_, 1) := by decide +kernel
theorem dX0_write_11 : decode cX0_write 11 = .ok (.aload_n 1, 1) := by decide +kernel
theorem dX0_write_12 : decode cX0_write 12 = .ok (.getfield 21, 3) := by decide +kernel
theorem dX0_write_15 : decode cX0_write 15 = .ok (.bipush 6, 2) := by decide +kernel
theorem dX0_write_17 : decode cX0_write 17 = .ok (.imul, 1) := by decide +kernel
theorem dX0_write_18 : decode cX0_write 18 = .ok (.istore 7, 2) := by decide +kernel
theorem dX0_write_20 : decode cX0_write 20 = .ok (.aload_n 0, 1) := by decide +kernel
theorem dX0_write_21 : decode cX0_write 21 = .ok (.getfield 11, 3) := by decide +kernel
theorem dX0_write_24 : decode cX0_write 24 = .ok (.iload 7, 2) := by decide +kernel
theorem dX0_write_26 : decode cX0_write 26 = .ok (.aload_n 1, 1) := by decide +kernel
theorem dX0_write_27 : decode cX0_write 27 = .ok (.getfield 27, 3) := by decide +kernel
theorem dX0_write_30 : decode cX0_write 30 = .ok (.iastore, 1) := by decide +kernel
theorem dX0_write_31 : decode cX0_write 31 = .ok (.aload_n 0, 1) := by decide +kernel
theorem dX0_write_32 : decode cX0_write 32 = .ok (.getfield 11, 3) := by decide +kernel
theorem dX0_write_35 : decode cX0_write 35 = .ok (.iload 7, 2) := by decide +kernel
theorem dX0_write_37 : decode cX0_write 37 = .ok (.iconst 1, 1) := by decide +kernel
theorem dX0_write_38 : decode cX0_write 38 = .ok (.iadd, 1) := by decide +kernel
theorem dX0_write_39 : decode cX0_write 39 = .ok (.iload_n 2, 1) := by decide +kernel
theorem dX0_write_40 : decode cX0_write 40 = .ok (.iastore, 1) := by decide +kernel
theorem dX0_write_41 : decode cX0_write 41 = .ok (.aload_n 0, 1) := by decide +kernel
theorem dX0_write_42 : decode cX0_write 42 = .ok (.getfield 11, 3) := by decide +kernel
theorem dX0_write_45 : decode cX0_write 45 = .ok (.iload 7, 2) := by decide +kernel
theorem dX0_write_47 : decode cX0_write 47 = .ok (.iconst 2, 1) := by decide +kernel
theorem dX0_write_48 : decode cX0_write 48 = .ok (.iadd, 1) := by decide +kernel
theorem dX0_write_49 : decode cX0_write 49 = .ok (.iload_n 3, 1) := by decide +kernel
theorem dX0_write_50 : decode cX0_write 50 = .ok (.iastore, 1) := by decide +kernel
theorem dX0_write_51 : decode cX0_write 51 = .ok (.aload_n 0, 1) := by decide +kernel
theorem dX0_write_52 : decode cX0_write 52 = .ok (.getfield 11, 3) := by decide +kernel
theorem dX0_write_55 : decode cX0_write 55 = .ok (.iload 7, 2) := by decide +kernel
theorem dX0_write_57 : decode cX0_write 57 = .ok (.iconst 3, 1) := by decide +kernel
theorem dX0_write_58 : decode cX0_write 58 = .ok (.iadd, 1) := by decide +kernel
theorem dX0_write_59 : decode cX0_write 59 = .ok (.iload 4, 2) := by decide +kernel
theorem dX0_write_61 : decode cX0_write 61 = .ok (.iastore, 1) := by decide +kernel
theorem dX0_write_62 : decode cX0_write 62 = .ok (.aload_n 0, 1) := by decide +kernel
theorem dX0_write_63 : decode cX0_write 63 = .ok (.getfield 11, 3) := by decide +kernel
theorem dX0_write_66 : decode cX0_write 66 = .ok (.iload 7, 2) := by decide +kernel
theorem dX0_write_68 : decode cX0_write 68 = .ok (.iconst 4, 1) := by decide +kernel
theorem dX0_write_69 : decode cX0_write 69 = .ok (.iadd, 1) := by decide +kernel
theorem dX0_write_70 : decode cX0_write 70 = .ok (.iload 5, 2) := by decide +kernel
theorem dX0_write_72 : decode cX0_write 72 = .ok (.iastore, 1) := by decide +kernel
theorem dX0_write_73 : decode cX0_write 73 = .ok (.aload_n 0, 1) := by decide +kernel
theorem dX0_write_74 : decode cX0_write 74 = .ok (.getfield 11, 3) := by decide +kernel
theorem dX0_write_77 : decode cX0_write 77 = .ok (.iload 7, 2) := by decide +kernel
theorem dX0_write_79 : decode cX0_write 79 = .ok (.iconst 5, 1) := by decide +kernel
theorem dX0_write_80 : decode cX0_write 80 = .ok (.iadd, 1) := by decide +kernel
theorem dX0_write_81 : decode cX0_write 81 = .ok (.iload 6, 2) := by decide +kernel
theorem dX0_write_83 : decode cX0_write 83 = .ok (.iastore, 1) := by decide +kernel
theorem dX0_write_84 : decode cX0_write 84 = .ok (.aload_n 1, 1) := by decide +kernel
theorem dX0_write_85 : decode cX0_write 85 = .ok (.dup, 1) := by decide +kernel
theorem dX0_write_86 : decode cX0_write 86 = .ok (.getfield 21, 3) := by decide +kernel
theorem dX0_write_89 : decode cX0_write 89 = .ok (.iconst 1, 1) := by decide +kernel
theorem dX0_write_90 : decode cX0_write 90 = .ok (.iadd, 1) := by decide +kernel
theorem dX0_write_91 : decode cX0_write 91 = .ok (.putfield 21, 3) := by decide +kernel
theorem dX0_write_94 : decode cX0_write 94 = .ok (.return_, 1) := by decide +kernel
theorem dX0_entry_0 : decode cX0_entry 0 = .ok (.aload_n 0, 1) := by decide +kernel
theorem dX0_entry_1 : decode cX0_entry 1 = .ok (.getfield 11, 3) := by decide +kernel
theorem dX0_entry_4 : decode cX0_entry 4 = .ok (.iload_n 1, 1) := by decide +kernel
theorem dX0_entry_5 : decode cX0_entry 5 = .ok (.bipush 6, 2) := by decide +kernel
theorem dX0_entry_7 : decode cX0_entry 7 = .ok (.imul, 1) := by decide +kernel
theorem dX0_entry_8 : decode cX0_entry 8 = .ok (.iload_n 2, 1) := by decide +kernel
theorem dX0_entry_9 : decode cX0_entry 9 = .ok (.iadd, 1) := by decide +kernel
theorem dX0_entry_10 : decode cX0_entry 10 = .ok (.iaload, 1) := by decide +kernel
theorem dX0_entry_11 : decode cX0_entry 11 = .ok (.ireturn, 1) := by decide +kernel
theorem dX0_latestHand_0 : decode cX0_latestHand 0 = .ok (.iload_n 1, 1) := by decide +kernel
theorem dX0_latestHand_1 : decode cX0_latestHand 1 = .ok (.iconst 1, 1) := by decide +kernel
theorem dX0_latestHand_2 : decode cX0_latestHand 2 = .ok (.isub, 1) := by decide +kernel
theorem dX0_latestHand_3 : decode cX0_latestHand 3 = .ok (.istore 4, 2) := by decide +kernel
theorem dX0_latestHand_5 : decode cX0_latestHand 5 = .ok (.iload 4, 2) := by decide +kernel
theorem dX0_latestHand_7 : decode cX0_latestHand 7 = .ok (.ifCond .lt 49, 3) := by decide +kernel
theorem dX0_latestHand_10 : decode cX0_latestHand 10 = .ok (.aload_n 0, 1) := by decide +kernel
theorem dX0_latestHand_11 : decode cX0_latestHand 11 = .ok (.iload 4, 2) := by decide +kernel
theorem dX0_latestHand_13 : decode cX0_latestHand 13 = .ok (.iconst 4, 1) := by decide +kernel
theorem dX0_latestHand_14 : decode cX0_latestHand 14 = .ok (.invokevirtual 30, 3) := by decide +kernel
theorem dX0_latestHand_17 : decode cX0_latestHand 17 = .ok (.ifCond .ne 33, 3) := by decide +kernel
theorem dX0_latestHand_20 : decode cX0_latestHand 20 = .ok (.aload_n 0, 1) := by decide +kernel
theorem dX0_latestHand_21 : decode cX0_latestHand 21 = .ok (.iload 4, 2) := by decide +kernel
theorem dX0_latestHand_23 : decode cX0_latestHand 23 = .ok (.iconst 1, 1) := by decide +kernel
theorem dX0_latestHand_24 : decode cX0_latestHand 24 = .ok (.invokevirtual 30, 3) := by decide +kernel
theorem dX0_latestHand_27 : decode cX0_latestHand 27 = .ok (.iload_n 2, 1) := by decide +kernel
theorem dX0_latestHand_28 : decode cX0_latestHand 28 = .ok (.if_icmp .ne 22, 3) := by decide +kernel
theorem dX0_latestHand_31 : decode cX0_latestHand 31 = .ok (.aload_n 0, 1) := by decide +kernel
theorem dX0_latestHand_32 : decode cX0_latestHand 32 = .ok (.iload 4, 2) := by decide +kernel
theorem dX0_latestHand_34 : decode cX0_latestHand 34 = .ok (.iconst 2, 1) := by decide +kernel
theorem dX0_latestHand_35 : decode cX0_latestHand 35 = .ok (.invokevirtual 30, 3) := by decide +kernel
theorem dX0_latestHand_38 : decode cX0_latestHand 38 = .ok (.iload_n 3, 1) := by decide +kernel
theorem dX0_latestHand_39 : decode cX0_latestHand 39 = .ok (.if_icmp .ne 11, 3) := by decide +kernel
theorem dX0_latestHand_42 : decode cX0_latestHand 42 = .ok (.aload_n 0, 1) := by decide +kernel
theorem dX0_latestHand_43 : decode cX0_latestHand 43 = .ok (.iload 4, 2) := by decide +kernel
theorem dX0_latestHand_45 : decode cX0_latestHand 45 = .ok (.iconst 5, 1) := by decide +kernel
theorem dX0_latestHand_46 : decode cX0_latestHand 46 = .ok (.invokevirtual 30, 3) := by decide +kernel
theorem dX0_latestHand_49 : decode cX0_latestHand 49 = .ok (.ireturn, 1) := by decide +kernel
theorem dX0_latestHand_50 : decode cX0_latestHand 50 = .ok (.iinc 4 (-1), 3) := by decide +kernel
theorem dX0_latestHand_53 : decode cX0_latestHand 53 = .ok (.goto (-48), 3) := by decide +kernel
theorem dX0_latestHand_56 : decode cX0_latestHand 56 = .ok (.iconst (-1), 1) := by decide +kernel
theorem dX0_latestHand_57 : decode cX0_latestHand 57 = .ok (.ireturn, 1) := by decide +kernel
theorem dX0_salesOf_0 : decode cX0_salesOf 0 = .ok (.iconst 0, 1) := by decide +kernel
theorem dX0_salesOf_1 : decode cX0_salesOf 1 = .ok (.istore_n 3, 1) := by decide +kernel
theorem dX0_salesOf_2 : decode cX0_salesOf 2 = .ok (.iconst 0, 1) := by decide +kernel
theorem dX0_salesOf_3 : decode cX0_salesOf 3 = .ok (.istore 4, 2) := by decide +kernel
theorem dX0_salesOf_5 : decode cX0_salesOf 5 = .ok (.iload 4, 2) := by decide +kernel
theorem dX0_salesOf_7 : decode cX0_salesOf 7 = .ok (.iload_n 1, 1) := by decide +kernel
theorem dX0_salesOf_8 : decode cX0_salesOf 8 = .ok (.if_icmp .ge 39, 3) := by decide +kernel
theorem dX0_salesOf_11 : decode cX0_salesOf 11 = .ok (.iload_n 3, 1) := by decide +kernel
theorem dX0_salesOf_12 : decode cX0_salesOf 12 = .ok (.aload_n 0, 1) := by decide +kernel
theorem dX0_salesOf_13 : decode cX0_salesOf 13 = .ok (.iload 4, 2) := by decide +kernel
theorem dX0_salesOf_15 : decode cX0_salesOf 15 = .ok (.iconst 4, 1) := by decide +kernel
theorem dX0_salesOf_16 : decode cX0_salesOf 16 = .ok (.invokevirtual 30, 3) := by decide +kernel
theorem dX0_salesOf_19 : decode cX0_salesOf 19 = .ok (.iconst 5, 1) := by decide +kernel
theorem dX0_salesOf_20 : decode cX0_salesOf 20 = .ok (.if_icmp .ne 18, 3) := by decide +kernel
theorem dX0_salesOf_23 : decode cX0_salesOf 23 = .ok (.aload_n 0, 1) := by decide +kernel
theorem dX0_salesOf_24 : decode cX0_salesOf 24 = .ok (.iload 4, 2) := by decide +kernel
theorem dX0_salesOf_26 : decode cX0_salesOf 26 = .ok (.iconst 1, 1) := by decide +kernel
theorem dX0_salesOf_27 : decode cX0_salesOf 27 = .ok (.invokevirtual 30, 3) := by decide +kernel
theorem dX0_salesOf_30 : decode cX0_salesOf 30 = .ok (.iload_n 2, 1) := by decide +kernel
theorem dX0_salesOf_31 : decode cX0_salesOf 31 = .ok (.if_icmp .ne 7, 3) := by decide +kernel
theorem dX0_salesOf_34 : decode cX0_salesOf 34 = .ok (.iconst 1, 1) := by decide +kernel
theorem dX0_salesOf_35 : decode cX0_salesOf 35 = .ok (.goto 4, 3) := by decide +kernel
theorem dX0_salesOf_38 : decode cX0_salesOf 38 = .ok (.iconst 0, 1) := by decide +kernel
theorem dX0_salesOf_39 : decode cX0_salesOf 39 = .ok (.iadd, 1) := by decide +kernel
theorem dX0_salesOf_40 : decode cX0_salesOf 40 = .ok (.istore_n 3, 1) := by decide +kernel
theorem dX0_salesOf_41 : decode cX0_salesOf 41 = .ok (.iinc 4 1, 3) := by decide +kernel
theorem dX0_salesOf_44 : decode cX0_salesOf 44 = .ok (.goto (-39), 3) := by decide +kernel
theorem dX0_salesOf_47 : decode cX0_salesOf 47 = .ok (.iload_n 3, 1) := by decide +kernel
theorem dX0_salesOf_48 : decode cX0_salesOf 48 = .ok (.ireturn, 1) := by decide +kernel
theorem dX1_init_0 : decode cX1_init 0 = .ok (.aload_n 0, 1) := by decide +kernel
theorem dX1_init_1 : decode cX1_init 1 = .ok (.invokespecial 3, 3) := by decide +kernel
theorem dX1_init_4 : decode cX1_init 4 = .ok (.aload_n 0, 1) := by decide +kernel
theorem dX1_init_5 : decode cX1_init 5 = .ok (.sipush 150, 3) := by decide +kernel
theorem dX1_init_8 : decode cX1_init 8 = .ok (.newarray .int, 2) := by decide +kernel
theorem dX1_init_10 : decode cX1_init 10 = .ok (.putfield 11, 3) := by decide +kernel
theorem dX1_init_13 : decode cX1_init 13 = .ok (.aload_n 0, 1) := by decide +kernel
theorem dX1_init_14 : decode cX1_init 14 = .ok (.sipush 150, 3) := by decide +kernel
theorem dX1_init_17 : decode cX1_init 17 = .ok (.newarray .int, 2) := by decide +kernel
theorem dX1_init_19 : decode cX1_init 19 = .ok (.putfield 15, 3) := by decide +kernel
theorem dX1_init_22 : decode cX1_init 22 = .ok (.aload_n 0, 1) := by decide +kernel
theorem dX1_init_23 : decode cX1_init 23 = .ok (.sipush 150, 3) := by decide +kernel
theorem dX1_init_26 : decode cX1_init 26 = .ok (.newarray .int, 2) := by decide +kernel
theorem dX1_init_28 : decode cX1_init 28 = .ok (.putfield 18, 3) := by decide +kernel
theorem dX1_init_31 : decode cX1_init 31 = .ok (.aload_n 0, 1) := by decide +kernel
theorem dX1_init_32 : decode cX1_init 32 = .ok (.iconst 4, 1) := by decide +kernel
theorem dX1_init_33 : decode cX1_init 33 = .ok (.newarray .int, 2) := by decide +kernel
theorem dX1_init_35 : decode cX1_init 35 = .ok (.putfield 21, 3) := by decide +kernel
theorem dX1_init_38 : decode cX1_init 38 = .ok (.aload_n 0, 1) := by decide +kernel
theorem dX1_init_39 : decode cX1_init 39 = .ok (.iconst 4, 1) := by decide +kernel
theorem dX1_init_40 : decode cX1_init 40 = .ok (.newarray .int, 2) := by decide +kernel
theorem dX1_init_42 : decode cX1_init 42 = .ok (.putfield 24, 3) := by decide +kernel
theorem dX1_init_45 : decode cX1_init 45 = .ok (.return_, 1) := by decide +kernel
theorem dX1_copyFrom_0 : decode cX1_copyFrom 0 = .ok (.aload_n 0, 1) := by decide +kernel
theorem dX1_copyFrom_1 : decode cX1_copyFrom 1 = .ok (.aload_n 1, 1) := by decide +kernel
theorem dX1_copyFrom_2 : decode cX1_copyFrom 2 = .ok (.getfield 27, 3) := by decide +kernel
theorem dX1_copyFrom_5 : decode cX1_copyFrom 5 = .ok (.putfield 27, 3) := by decide +kernel
theorem dX1_copyFrom_8 : decode cX1_copyFrom 8 = .ok (.aload_n 1, 1) := by decide +kernel
theorem dX1_copyFrom_9 : decode cX1_copyFrom 9 = .ok (.getfield 11, 3) := by decide +kernel
theorem dX1_copyFrom_12 : decode cX1_copyFrom 12 = .ok (.iconst 0, 1) := by decide +kernel
theorem dX1_copyFrom_13 : decode cX1_copyFrom 13 = .ok (.aload_n 0, 1) := by decide +kernel
theorem dX1_copyFrom_14 : decode cX1_copyFrom 14 = .ok (.getfield 11, 3) := by decide +kernel
theorem dX1_copyFrom_17 : decode cX1_copyFrom 17 = .ok (.iconst 0, 1) := by decide +kernel
theorem dX1_copyFrom_18 : decode cX1_copyFrom 18 = .ok (.sipush 150, 3) := by decide +kernel
theorem dX1_copyFrom_21 : decode cX1_copyFrom 21 = .ok (.invokestatic 31, 3) := by decide +kernel
theorem dX1_copyFrom_24 : decode cX1_copyFrom 24 = .ok (.aload_n 1, 1) := by decide +kernel
theorem dX1_copyFrom_25 : decode cX1_copyFrom 25 = .ok (.getfield 15, 3) := by decide +kernel
theorem dX1_copyFrom_28 : decode cX1_copyFrom 28 = .ok (.iconst 0, 1) := by decide +kernel
theorem dX1_copyFrom_29 : decode cX1_copyFrom 29 = .ok (.aload_n 0, 1) := by decide +kernel
theorem dX1_copyFrom_30 : decode cX1_copyFrom 30 = .ok (.getfield 15, 3) := by decide +kernel
theorem dX1_copyFrom_33 : decode cX1_copyFrom 33 = .ok (.iconst 0, 1) := by decide +kernel
theorem dX1_copyFrom_34 : decode cX1_copyFrom 34 = .ok (.sipush 150, 3) := by decide +kernel
theorem dX1_copyFrom_37 : decode cX1_copyFrom 37 = .ok (.invokestatic 31, 3) := by decide +kernel
theorem dX1_copyFrom_40 : decode cX1_copyFrom 40 = .ok (.aload_n 1, 1) := by decide +kernel
theorem dX1_copyFrom_41 : decode cX1_copyFrom 41 = .ok (.getfield 18, 3) := by decide +kernel
theorem dX1_copyFrom_44 : decode cX1_copyFrom 44 = .ok (.iconst 0, 1) := by decide +kernel
theorem dX1_copyFrom_45 : decode cX1_copyFrom 45 = .ok (.aload_n 0, 1) := by decide +kernel
theorem dX1_copyFrom_46 : decode cX1_copyFrom 46 = .ok (.getfield 18, 3) := by decide +kernel
theorem dX1_copyFrom_49 : decode cX1_copyFrom 49 = .ok (.iconst 0, 1) := by decide +kernel
theorem dX1_copyFrom_50 : decode cX1_copyFrom 50 = .ok (.sipush 150, 3) := by decide +kernel
theorem dX1_copyFrom_53 : decode cX1_copyFrom 53 = .ok (.invokestatic 31, 3) := by decide +kernel
theorem dX1_copyFrom_56 : decode cX1_copyFrom 56 = .ok (.return_, 1) := by decide +kernel
theorem dX1_restDays_0 : decode cX1_restDays 0 = .ok (.iconst 0, 1) := by decide +kernel
theorem dX1_restDays_1 : decode cX1_restDays 1 = .ok (.istore_n 1, 1) := by decide +kernel
theorem dX1_restDays_2 : decode cX1_restDays 2 = .ok (.iconst 0, 1) := by decide +kernel
theorem dX1_restDays_3 : decode cX1_restDays 3 = .ok (.istore_n 2, 1) := by decide +kernel
theorem dX1_restDays_4 : decode cX1_restDays 4 = .ok (.iload_n 2, 1) := by decide +kernel
theorem dX1_restDays_5 : decode cX1_restDays 5 = .ok (.aload_n 0, 1) := by decide +kernel
theorem dX1_restDays_6 : decode cX1_restDays 6 = .ok (.getfield 27, 3) := by decide +kernel
theorem dX1_restDays_9 : decode cX1_restDays 9 = .ok (.if_icmp .ge 32, 3) := by decide +kernel
theorem dX1_restDays_12 : decode cX1_restDays 12 = .ok (.iload_n 1, 1) := by decide +kernel
theorem dX1_restDays_13 : decode cX1_restDays 13 = .ok (.aload_n 0, 1) := by decide +kernel
theorem dX1_restDays_14 : decode cX1_restDays 14 = .ok (.getfield 11, 3) := by decide +kernel
theorem dX1_restDays_17 : decode cX1_restDays 17 = .ok (.iload_n 2, 1) := by decide +kernel
theorem dX1_restDays_18 : decode cX1_restDays 18 = .ok (.iaload, 1) := by decide +kernel
theorem dX1_restDays_19 : decode cX1_restDays 19 = .ok (.iconst 5, 1) := by decide +kernel
theorem dX1_restDays_20 : decode cX1_restDays 20 = .ok (.if_icmp .ne 12, 3) := by decide +kernel
theorem dX1_restDays_23 : decode cX1_restDays 23 = .ok (.aload_n 0, 1) := by decide +kernel
theorem dX1_restDays_24 : decode cX1_restDays 24 = .ok (.getfield 15, 3) := by decide +kernel
theorem dX1_restDays_27 : decode cX1_restDays 27 = .ok (.iload_n 2, 1) := by decide +kernel
theorem dX1_restDays_28 : decode cX1_restDays 28 = .ok (.iaload, 1) := by decide +kernel
theorem dX1_restDays_29 : decode cX1_restDays 29 = .ok (.goto 4, 3) := by decide +kernel
theorem dX1_restDays_32 : decode cX1_restDays 32 = .ok (.iconst 0, 1) := by decide +kernel
theorem dX1_restDays_33 : decode cX1_restDays 33 = .ok (.iadd, 1) := by decide +kernel
theorem dX1_restDays_34 : decode cX1_restDays 34 = .ok (.istore_n 1, 1) := by decide +kernel
theorem dX1_restDays_35 : decode cX1_restDays 35 = .ok (.iinc 2 1, 3) := by decide +kernel
theorem dX1_restDays_38 : decode cX1_restDays 38 = .ok (.goto (-34), 3) := by decide +kernel
theorem dX1_restDays_41 : decode cX1_restDays 41 = .ok (.iload_n 1, 1) := by decide +kernel
theorem dX1_restDays_42 : decode cX1_restDays 42 = .ok (.ireturn, 1) := by decide +kernel
theorem dX1_readAll_0 : decode cX1_readAll 0 = .ok (.aload_n 0, 1) := by decide +kernel
theorem dX1_readAll_1 : decode cX1_readAll 1 = .ok (.iconst 0, 1) := by decide +kernel
theorem dX1_readAll_2 : decode cX1_readAll 2 = .ok (.putfield 27, 3) := by decide +kernel
theorem dX1_readAll_5 : decode cX1_readAll 5 = .ok (.aload_n 0, 1) := by decide +kernel
theorem dX1_readAll_6 : decode cX1_readAll 6 = .ok (.iconst 0, 1) := by decide +kernel
theorem dX1_readAll_7 : decode cX1_readAll 7 = .ok (.putfield 37, 3) := by decide +kernel
theorem dX1_readAll_10 : decode cX1_readAll 10 = .ok (.iconst 0, 1) := by decide +kernel
theorem dX1_readAll_11 : decode cX1_readAll 11 = .ok (.istore_n 2, 1) := by decide +kernel
theorem dX1_readAll_12 : decode cX1_readAll 12 = .ok (.iload_n 2, 1) := by decide +kernel
theorem dX1_readAll_13 : decode cX1_readAll 13 = .ok (.sipush 400, 3) := by decide +kernel
theorem dX1_readAll_16 : decode cX1_readAll 16 = .ok (.if_icmp .gt 83, 3) := by decide +kernel
theorem dX1_readAll_19 : decode cX1_readAll 19 = .ok (.aload_n 1, 1) := by decide +kernel
theorem dX1_readAll_20 : decode cX1_readAll 20 = .ok (.invokevirtual 40, 3) := by decide +kernel
theorem dX1_readAll_23 : decode cX1_readAll 23 = .ok (.ifCond .ne 76, 3) := by decide +kernel
theorem dX1_readAll_26 : decode cX1_readAll 26 = .ok (.aload_n 0, 1) := by decide +kernel
theorem dX1_readAll_27 : decode cX1_readAll 27 = .ok (.getfield 37, 3) := by decide +kernel
theorem dX1_readAll_30 : decode cX1_readAll 30 = .ok (.ifCond .le 16, 3) := by decide +kernel
theorem dX1_readAll_33 : decode cX1_readAll 33 = .ok (.aload_n 1, 1) := by decide +kernel
theorem dX1_readAll_34 : decode cX1_readAll 34 = .ok (.bipush 41, 2) := by decide +kernel
theorem dX1_readAll_36 : decode cX1_readAll 36 = .ok (.invokevirtual 46, 3) := by decide +kernel
theorem dX1_readAll_39 : decode cX1_readAll 39 = .ok (.ifCond .eq 7, 3) := by decide +kernel
theorem dX1_readAll_42 : decode cX1_readAll 42 = .ok (.iconst 1, 1) := by decide +kernel
theorem dX1_readAll_43 : decode cX1_readAll 43 = .ok (.goto 4, 3) := by decide +kernel
theorem dX1_readAll_46 : decode cX1_readAll 46 = .ok (.iconst 0, 1) := by decide +kernel
theorem dX1_readAll_47 : decode cX1_readAll 47 = .ok (.istore_n 3, 1) := by decide +kernel
theorem dX1_readAll_48 : decode cX1_readAll 48 = .ok (.iload_n 3, 1) := by decide +kernel
theorem dX1_readAll_49 : decode cX1_readAll 49 = .ok (.ifCond .eq 14, 3) := by decide +kernel
theorem dX1_readAll_52 : decode cX1_readAll 52 = .ok (.aload_n 1, 1) := by decide +kernel
theorem dX1_readAll_53 : decode cX1_readAll 53 = .ok (.invokevirtual 50, 3) := by decide +kernel
theorem dX1_readAll_56 : decode cX1_readAll 56 = .ok (.aload_n 0, 1) := by decide +kernel
theorem dX1_readAll_57 : decode cX1_readAll 57 = .ok (.invokevirtual 53, 3) := by decide +kernel
theorem dX1_readAll_60 : decode cX1_readAll 60 = .ok (.goto 33, 3) := by decide +kernel
theorem dX1_readAll_63 : decode cX1_readAll 63 = .ok (.aload_n 1, 1) := by decide +kernel
theorem dX1_readAll_64 : decode cX1_readAll 64 = .ok (.bipush 6, 2) := by decide +kernel
theorem dX1_readAll_66 : decode cX1_readAll 66 = .ok (.invokevirtual 56, 3) := by decide +kernel
theorem dX1_readAll_69 : decode cX1_readAll 69 = .ok (.ifCond .eq 14, 3) := by decide +kernel
theorem dX1_readAll_72 : decode cX1_readAll 72 = .ok (.aload_n 0, 1) := by decide +kernel
theorem dX1_readAll_73 : decode cX1_readAll 73 = .ok (.aload_n 1, 1) := by decide +kernel
theorem dX1_readAll_74 : decode cX1_readAll 74 = .ok (.invokevirtual 59, 3) := by decide +kernel
theorem dX1_readAll_77 : decode cX1_readAll 77 = .ok (.ifCond .eq 14, 3) := by decide +kernel
theorem dX1_readAll_80 : decode cX1_readAll 80 = .ok (.goto 13, 3) := by decide +kernel
theorem dX1_readAll_83 : decode cX1_readAll 83 = .ok (.aload_n 0, 1) := by decide +kernel
theorem dX1_readAll_84 : decode cX1_readAll 84 = .ok (.aload_n 1, 1) := by decide +kernel
theorem dX1_readAll_85 : decode cX1_readAll 85 = .ok (.invokevirtual 63, 3) := by decide +kernel
theorem dX1_readAll_88 : decode cX1_readAll 88 = .ok (.ifCond .ne 5, 3) := by decide +kernel
theorem dX1_readAll_91 : decode cX1_readAll 91 = .ok (.iconst 0, 1) := by decide +kernel
theorem dX1_readAll_92 : decode cX1_readAll 92 = .ok (.ireturn, 1) := by decide +kernel
theorem dX1_readAll_93 : decode cX1_readAll 93 = .ok (.iinc 2 1, 3) := by decide +kernel
theorem dX1_readAll_96 : decode cX1_readAll 96 = .ok (.goto (-84), 3) := by decide +kernel
theorem dX1_readAll_99 : decode cX1_readAll 99 = .ok (.aload_n 0, 1) := by decide +kernel
theorem dX1_readAll_100 : decode cX1_readAll 100 = .ok (.getfield 37, 3) := by decide +kernel
theorem dX1_readAll_103 : decode cX1_readAll 103 = .ok (.ifCond .le 9, 3) := by decide +kernel
theorem dX1_readAll_106 : decode cX1_readAll 106 = .ok (.aload_n 1, 1) := by decide +kernel
theorem dX1_readAll_107 : decode cX1_readAll 107 = .ok (.iconst 1, 1) := by decide +kernel
theorem dX1_readAll_108 : decode cX1_readAll 108 = .ok (.invokevirtual 66, 3) := by decide +kernel
theorem dX1_readAll_111 : decode cX1_readAll 111 = .ok (.ireturn, 1) := by decide +kernel
theorem dX1_readAll_112 : decode cX1_readAll 112 = .ok (.aload_n 0, 1) := by decide +kernel
theorem dX1_readAll_113 : decode cX1_readAll 113 = .ok (.getfield 27, 3) := by decide +kernel
theorem dX1_readAll_116 : decode cX1_readAll 116 = .ok (.sipush 150, 3) := by decide +kernel
theorem dX1_readAll_119 : decode cX1_readAll 119 = .ok (.if_icmp .le 11, 3) := by decide +kernel
theorem dX1_readAll_122 : decode cX1_readAll 122 = .ok (.aload_n 1, 1) := by decide +kernel
theorem dX1_readAll_123 : decode cX1_readAll 123 = .ok (.iconst 4, 1) := by decide +kernel
theorem dX1_readAll_124 : decode cX1_readAll 124 = .ok (.invokevirtual 66, 3) := by decide +kernel
theorem dX1_readAll_127 : decode cX1_readAll 127 = .ok (.ifCond .eq 7, 3) := by decide +kernel
theorem dX1_readAll_130 : decode cX1_readAll 130 = .ok (.iconst 1, 1) := by decide +kernel
theorem dX1_readAll_131 : decode cX1_readAll 131 = .ok (.goto 4, 3) := by decide +kernel
theorem dX1_readAll_134 : decode cX1_readAll 134 = .ok (.iconst 0, 1) := by decide +kernel
theorem dX1_readAll_135 : decode cX1_readAll 135 = .ok (.ireturn, 1) := by decide +kernel
theorem dX1_readAgain_0 : decode cX1_readAgain 0 = .ok (.aload_n 0, 1) := by decide +kernel
theorem dX1_readAgain_1 : decode cX1_readAgain 1 = .ok (.getfield 37, 3) := by decide +kernel
theorem dX1_readAgain_4 : decode cX1_readAgain 4 = .ok (.iconst 4, 1) := by decide +kernel
theorem dX1_readAgain_5 : decode cX1_readAgain 5 = .ok (.if_icmp .lt 9, 3) := by decide +kernel
theorem dX1_readAgain_8 : decode cX1_readAgain 8 = .ok (.aload_n 1, 1) := by decide +kernel
theorem dX1_readAgain_9 : decode cX1_readAgain 9 = .ok (.iconst 3, 1) := by decide +kernel
theorem dX1_readAgain_10 : decode cX1_readAgain 10 = .ok (.invokevirtual 66, 3) := by decide +kernel
theorem dX1_readAgain_13 : decode cX1_readAgain 13 = .ok (.ireturn, 1) := by decide +kernel
theorem dX1_readAgain_14 : decode cX1_readAgain 14 = .ok (.aload_n 1, 1) := by decide +kernel
theorem dX1_readAgain_15 : decode cX1_readAgain 15 = .ok (.invokevirtual 50, 3) := by decide +kernel
theorem dX1_readAgain_18 : decode cX1_readAgain 18 = .ok (.aload_n 1, 1) := by decide +kernel
theorem dX1_readAgain_19 : decode cX1_readAgain 19 = .ok (.invokevirtual 69, 3) := by decide +kernel
theorem dX1_readAgain_22 : decode cX1_readAgain 22 = .ok (.istore_n 2, 1) := by decide +kernel
theorem dX1_readAgain_23 : decode cX1_readAgain 23 = .ok (.aload_n 1, 1) := by decide +kernel
theorem dX1_readAgain_24 : decode cX1_readAgain 24 = .ok (.iconst 1, 1) := by decide +kernel
theorem dX1_readAgain_25 : decode cX1_readAgain 25 = .ok (.bipush 9, 2) := by decide +kernel
theorem dX1_readAgain_27 : decode cX1_readAgain 27 = .ok (.invokevirtual 73, 3) := by decide +kernel
theorem dX1_readAgain_30 : decode cX1_readAgain 30 = .ok (.ifCond .eq 13, 3) := by decide +kernel
theorem dX1_readAgain_33 : decode cX1_readAgain 33 = .ok (.aload_n 1, 1) := by decide +kernel
theorem dX1_readAgain_34 : decode cX1_readAgain 34 = .ok (.iconst 1, 1) := by decide +kernel
theorem dX1_readAgain_35 : decode cX1_readAgain 35 = .ok (.bipush 40, 2) := by decide +kernel
theorem dX1_readAgain_37 : decode cX1_readAgain 37 = .ok (.invokevirtual 77, 3) := by decide +kernel
theorem dX1_readAgain_40 : decode cX1_readAgain 40 = .ok (.ifCond .ne 5, 3) := by decide +kernel
theorem dX1_readAgain_43 : decode cX1_readAgain 43 = .ok (.iconst 0, 1) := by decide +kernel
theorem dX1_readAgain_44 : decode cX1_readAgain 44 = .ok (.ireturn, 1) := by decide +kernel
theorem dX1_readAgain_45 : decode cX1_readAgain 45 = .ok (.aload_n 0, 1) := by decide +kernel
theorem dX1_readAgain_46 : decode cX1_readAgain 46 = .ok (.getfield 21, 3) := by decide +kernel
theorem dX1_readAgain_49 : decode cX1_readAgain 49 = .ok (.aload_n 0, 1) := by decide +kernel
theorem dX1_readAgain_50 : decode cX1_readAgain 50 = .ok (.getfield 37, 3) := by decide +kernel
theorem dX1_readAgain_53 : decode cX1_readAgain 53 = .ok (.iload_n 2, 1) := by decide +kernel
theorem dX1_readAgain_54 : decode cX1_readAgain 54 = .ok (.iastore, 1) := by decide +kernel
theorem dX1_readAgain_55 : decode cX1_readAgain 55 = .ok (.aload_n 0, 1) := by decide +kernel
theorem dX1_readAgain_56 : decode cX1_readAgain 56 = .ok (.getfield 24, 3) := by decide +kernel
theorem dX1_readAgain_59 : decode cX1_readAgain 59 = .ok (.aload_n 0, 1) := by decide +kernel
theorem dX1_readAgain_60 : decode cX1_readAgain 60 = .ok (.getfield 37, 3) := by decide +kernel
theorem dX1_readAgain_63 : decode cX1_readAgain 63 = .ok (.aload_n 0, 1) := by decide +kernel
theorem dX1_readAgain_64 : decode cX1_readAgain 64 = .ok (.getfield 27, 3) := by decide +kernel
theorem dX1_readAgain_67 : decode cX1_readAgain 67 = .ok (.iastore, 1) := by decide +kernel
theorem dX1_readAgain_68 : decode cX1_readAgain 68 = .ok (.aload_n 0, 1) := by decide +kernel
theorem dX1_readAgain_69 : decode cX1_readAgain 69 = .ok (.dup, 1) := by decide +kernel
theorem dX1_readAgain_70 : decode cX1_readAgain 70 = .ok (.getfield 37, 3) := by decide +kernel
theorem dX1_readAgain_73 : decode cX1_readAgain 73 = .ok (.iconst 1, 1) := by decide +kernel
theorem dX1_readAgain_74 : decode cX1_readAgain 74 = .ok (.iadd, 1) := by decide +kernel
theorem dX1_readAgain_75 : decode cX1_readAgain 75 = .ok (.putfield 37, 3) := by decide +kernel
theorem dX1_readAgain_78 : decode cX1_readAgain 78 = .ok (.iconst 1, 1) := by decide +kernel
theorem dX1_readAgain_79 : decode cX1_readAgain 79 = .ok (.ireturn, 1) := by decide +kernel
theorem dX1_closeAgain_0 : decode cX1_closeAgain 0 = .ok (.aload_n 0, 1) := by decide +kernel
theorem dX1_closeAgain_1 : decode cX1_closeAgain 1 = .ok (.dup, 1) := by decide +kernel
theorem dX1_closeAgain_2 : decode cX1_closeAgain 2 = .ok (.getfield 37, 3) := by decide +kernel
theorem dX1_closeAgain_5 : decode cX1_closeAgain 5 = .ok (.iconst 1, 1) := by decide +kernel
theorem dX1_closeAgain_6 : decode cX1_closeAgain 6 = .ok (.isub, 1) := by decide +kernel
theorem dX1_closeAgain_7 : decode cX1_closeAgain 7 = .ok (.putfield 37, 3) := by decide +kernel
theorem dX1_closeAgain_10 : decode cX1_closeAgain 10 = .ok (.aload_n 0, 1) := by decide +kernel
theorem dX1_closeAgain_11 : decode cX1_closeAgain 11 = .ok (.getfield 27, 3) := by decide +kernel
theorem dX1_closeAgain_14 : decode cX1_closeAgain 14 = .ok (.aload_n 0, 1) := by decide +kernel
theorem dX1_closeAgain_15 : decode cX1_closeAgain 15 = .ok (.getfield 24, 3) := by decide +kernel
theorem dX1_closeAgain_18 : decode cX1_closeAgain 18 = .ok (.aload_n 0, 1) := by decide +kernel
theorem dX1_closeAgain_19 : decode cX1_closeAgain 19 = .ok (.getfield 37, 3) := by decide +kernel
theorem dX1_closeAgain_22 : decode cX1_closeAgain 22 = .ok (.iaload, 1) := by decide +kernel
theorem dX1_closeAgain_23 : decode cX1_closeAgain 23 = .ok (.isub, 1) := by decide +kernel
theorem dX1_closeAgain_24 : decode cX1_closeAgain 24 = .ok (.istore_n 1, 1) := by decide +kernel
theorem dX1_closeAgain_25 : decode cX1_closeAgain 25 = .ok (.iload_n 1, 1) := by decide +kernel
theorem dX1_closeAgain_26 : decode cX1_closeAgain 26 = .ok (.aload_n 0, 1) := by decide +kernel
theorem dX1_closeAgain_27 : decode cX1_closeAgain 27 = .ok (.getfield 21, 3) := by decide +kernel
theorem dX1_closeAgain_30 : decode cX1_closeAgain 30 = .ok (.aload_n 0, 1) := by decide +kernel
theorem dX1_closeAgain_31 : decode cX1_closeAgain 31 = .ok (.getfield 37, 3) := by decide +kernel
theorem dX1_closeAgain_34 : decode cX1_closeAgain 34 = .ok (.iaload, 1) := by decide +kernel
theorem dX1_closeAgain_35 : decode cX1_closeAgain 35 = .ok (.iconst 1, 1) := by decide +kernel
theorem dX1_closeAgain_36 : decode cX1_closeAgain 36 = .ok (.isub, 1) := by decide +kernel
theorem dX1_closeAgain_37 : decode cX1_closeAgain 37 = .ok (.imul, 1) := by decide +kernel
theorem dX1_closeAgain_38 : decode cX1_closeAgain 38 = .ok (.istore_n 2, 1) := by decide +kernel
theorem dX1_closeAgain_39 : decode cX1_closeAgain 39 = .ok (.iconst 0, 1) := by decide +kernel
theorem dX1_closeAgain_40 : decode cX1_closeAgain 40 = .ok (.istore_n 3, 1) := by decide +kernel
theorem dX1_closeAgain_41 : decode cX1_closeAgain 41 = .ok (.iload_n 3, 1) := by decide +kernel
theorem dX1_closeAgain_42 : decode cX1_closeAgain 42 = .ok (.iload_n 2, 1) := by decide +kernel
theorem dX1_closeAgain_43 : decode cX1_closeAgain 43 = .ok (.if_icmp .ge 52, 3) := by decide +kernel
theorem dX1_closeAgain_46 : decode cX1_closeAgain 46 = .ok (.aload_n 0, 1) := by decide +kernel
theorem dX1_closeAgain_47 : decode cX1_closeAgain 47 = .ok (.getfield 27, 3) := by decide +kernel
theorem dX1_closeAgain_50 : decode cX1_closeAgain 50 = .ok (.sipush 150, 3) := by decide +kernel
theorem dX1_closeAgain_53 : decode cX1_closeAgain 53 = .ok (.if_icmp .gt 42, 3) := by decide +kernel
theorem dX1_closeAgain_56 : decode cX1_closeAgain 56 = .ok (.aload_n 0, 1) := by decide +kernel
theorem dX1_closeAgain_57 : decode cX1_closeAgain 57 = .ok (.getfield 27, 3) := by decide +kernel
theorem dX1_closeAgain_60 : decode cX1_closeAgain 60 = .ok (.iload_n 1, 1) := by decide +kernel
theorem dX1_closeAgain_61 : decode cX1_closeAgain 61 = .ok (.isub, 1) := by decide +kernel
theorem dX1_closeAgain_62 : decode cX1_closeAgain 62 = .ok (.istore 4, 2) := by decide +kernel
theorem dX1_closeAgain_64 : decode cX1_closeAgain 64 = .ok (.aload_n 0, 1) := by decide +kernel
theorem dX1_closeAgain_65 : decode cX1_closeAgain 65 = .ok (.aload_n 0, 1) := by decide +kernel
theorem dX1_closeAgain_66 : decode cX1_closeAgain 66 = .ok (.getfield 11, 3) := by decide +kernel
theorem dX1_closeAgain_69 : decode cX1_closeAgain 69 = .ok (.iload 4, 2) := by decide +kernel
theorem dX1_closeAgain_71 : decode cX1_closeAgain 71 = .ok (.iaload, 1) := by decide +kernel
theorem dX1_closeAgain_72 : decode cX1_closeAgain 72 = .ok (.aload_n 0, 1) := by decide +kernel
theorem dX1_closeAgain_73 : decode cX1_closeAgain 73 = .ok (.getfield 15, 3) := by decide +kernel
theorem dX1_closeAgain_76 : decode cX1_closeAgain 76 = .ok (.iload 4, 2) := by decide +kernel
theorem dX1_closeAgain_78 : decode cX1_closeAgain 78 = .ok (.iaload, 1) := by decide +kernel
theorem dX1_closeAgain_79 : decode cX1_closeAgain 79 = .ok (.aload_n 0, 1) := by decide +kernel
theorem dX1_closeAgain_80 : decode cX1_closeAgain 80 = .ok (.getfield 18, 3) := by decide +kernel
theorem dX1_closeAgain_83 : decode cX1_closeAgain 83 = .ok (.iload 4, 2) := by decide +kernel
theorem dX1_closeAgain_85 : decode cX1_closeAgain 85 = .ok (.iaload, 1) := by decide +kernel
theorem dX1_closeAgain_86 : decode cX1_closeAgain 86 = .ok (.invokevirtual 80, 3) := by decide +kernel
theorem dX1_closeAgain_89 : decode cX1_closeAgain 89 = .ok (.iinc 3 1, 3) := by decide +kernel
theorem dX1_closeAgain_92 : decode cX1_closeAgain 92 = .ok (.goto (-51), 3) := by decide +kernel
theorem dX1_closeAgain_95 : decode cX1_closeAgain 95 = .ok (.return_, 1) := by decide +kernel
theorem dX1_addStep_0 : decode cX1_addStep 0 = .ok (.aload_n 0, 1) := by decide +kernel
theorem dX1_addStep_1 : decode cX1_addStep 1 = .ok (.getfield 27, 3) := by decide +kernel
theorem dX1_addStep_4 : decode cX1_addStep 4 = .ok (.sipush 150, 3) := by decide +kernel
theorem dX1_addStep_7 : decode cX1_addStep 7 = .ok (.if_icmp .ge 33, 3) := by decide +kernel
theorem dX1_addStep_10 : decode cX1_addStep 10 = .ok (.aload_n 0, 1) := by decide +kernel
theorem dX1_addStep_11 : decode cX1_addStep 11 = .ok (.getfield 11, 3) := by decide +kernel
theorem dX1_addStep_14 : decode cX1_addStep 14 = .ok (.aload_n 0, 1) := by decide +kernel
theorem dX1_addStep_15 : decode cX1_addStep 15 = .ok (.getfield 27, 3) := by decide +kernel
theorem dX1_addStep_18 : decode cX1_addStep 18 = .ok (.iload_n 1, 1) := by decide +kernel
theorem dX1_addStep_19 : decode cX1_addStep 19 = .ok (.iastore, 1) := by decide +kernel
theorem dX1_addStep_20 : decode cX1_addStep 20 = .ok (.aload_n 0, 1) := by decide +kernel
theorem dX1_addStep_21 : decode cX1_addStep 21 = .ok (.getfield 15, 3) := by decide +kernel
theorem dX1_addStep_24 : decode cX1_addStep 24 = .ok (.aload_n 0, 1) := by decide +kernel
theorem dX1_addStep_25 : decode cX1_addStep 25 = .ok (.getfield 27, 3) := by decide +kernel
theorem dX1_addStep_28 : decode cX1_addStep 28 = .ok (.iload_n 2, 1) := by decide +kernel
theorem dX1_addStep_29 : decode cX1_addStep 29 = .ok (.iastore, 1) := by decide +kernel
theorem dX1_addStep_30 : decode cX1_addStep 30 = .ok (.aload_n 0, 1) := by decide +kernel
theorem dX1_addStep_31 : decode cX1_addStep 31 = .ok (.getfield 18, 3) := by decide +kernel
theorem dX1_addStep_34 : decode cX1_addStep 34 = .ok (.aload_n 0, 1) := by decide +kernel
theorem dX1_addStep_35 : decode cX1_addStep 35 = .ok (.getfield 27, 3) := by decide +kernel
theorem dX1_addStep_38 : decode cX1_addStep 38 = .ok (.iload_n 3, 1) := by decide +kernel
theorem dX1_addStep_39 : decode cX1_addStep 39 = .ok (.iastore, 1) := by decide +kernel
theorem dX1_addStep_40 : decode cX1_addStep 40 = .ok (.aload_n 0, 1) := by decide +kernel
theorem dX1_addStep_41 : decode cX1_addStep 41 = .ok (.dup, 1) := by decide +kernel
theorem dX1_addStep_42 : decode cX1_addStep 42 = .ok (.getfield 27, 3) := by decide +kernel
theorem dX1_addStep_45 : decode cX1_addStep 45 = .ok (.iconst 1, 1) := by decide +kernel
theorem dX1_addStep_46 : decode cX1_addStep 46 = .ok (.iadd, 1) := by decide +kernel
theorem dX1_addStep_47 : decode cX1_addStep 47 = .ok (.putfield 27, 3) := by decide +kernel
theorem dX1_addStep_50 : decode cX1_addStep 50 = .ok (.return_, 1) := by decide +kernel
theorem dX1_readStep_0 : decode cX1_readStep 0 = .ok (.aload_n 1, 1) := by decide +kernel
theorem dX1_readStep_1 : decode cX1_readStep 1 = .ok (.invokevirtual 69, 3) := by decide +kernel
theorem dX1_readStep_4 : decode cX1_readStep 4 = .ok (.istore_n 2, 1) := by decide +kernel
theorem dX1_readStep_5 : decode cX1_readStep 5 = .ok (.aload_n 1, 1) := by decide +kernel
theorem dX1_readStep_6 : decode cX1_readStep 6 = .ok (.iconst 0, 1) := by decide +kernel
theorem dX1_readStep_7 : decode cX1_readStep 7 = .ok (.invokevirtual 84, 3) := by decide +kernel
theorem dX1_readStep_10 : decode cX1_readStep 10 = .ok (.ifCond .eq 8, 3) := by decide +kernel
theorem dX1_readStep_13 : decode cX1_readStep 13 = .ok (.iload_n 2, 1) := by decide +kernel
theorem dX1_readStep_14 : decode cX1_readStep 14 = .ok (.iconst 1, 1) := by decide +kernel
theorem dX1_readStep_15 : decode cX1_readStep 15 = .ok (.if_icmp .ne 9, 3) := by decide +kernel
theorem dX1_readStep_18 : decode cX1_readStep 18 = .ok (.aload_n 1, 1) := by decide +kernel
theorem dX1_readStep_19 : decode cX1_readStep 19 = .ok (.iconst 1, 1) := by decide +kernel
theorem dX1_readStep_20 : decode cX1_readStep 20 = .ok (.invokevirtual 66, 3) := by decide +kernel
theorem dX1_readStep_23 : decode cX1_readStep 23 = .ok (.ireturn, 1) := by decide +kernel
theorem dX1_readStep_24 : decode cX1_readStep 24 = .ok (.aload_n 1, 1) := by decide +kernel
theorem dX1_readStep_25 : decode cX1_readStep 25 = .ok (.invokevirtual 50, 3) := by decide +kernel
theorem dX1_readStep_28 : decode cX1_readStep 28 = .ok (.aload_n 1, 1) := by decide +kernel
theorem dX1_readStep_29 : decode cX1_readStep 29 = .ok (.invokevirtual 69, 3) := by decide +kernel
theorem dX1_readStep_32 : decode cX1_readStep 32 = .ok (.istore_n 3, 1) := by decide +kernel
theorem dX1_readStep_33 : decode cX1_readStep 33 = .ok (.aload_n 1, 1) := by decide +kernel
theorem dX1_readStep_34 : decode cX1_readStep 34 = .ok (.iload_n 2, 1) := by decide +kernel
theorem dX1_readStep_35 : decode cX1_readStep 35 = .ok (.iconst 5, 1) := by decide +kernel
theorem dX1_readStep_36 : decode cX1_readStep 36 = .ok (.if_icmp .ne 7, 3) := by decide +kernel
theorem dX1_readStep_39 : decode cX1_readStep 39 = .ok (.iconst 1, 1) := by decide +kernel
theorem dX1_readStep_40 : decode cX1_readStep 40 = .ok (.goto 4, 3) := by decide +kernel
theorem dX1_readStep_43 : decode cX1_readStep 43 = .ok (.iconst 0, 1) := by decide +kernel
theorem dX1_readStep_44 : decode cX1_readStep 44 = .ok (.iload_n 2, 1) := by decide +kernel
theorem dX1_readStep_45 : decode cX1_readStep 45 = .ok (.invokestatic 87, 3) := by decide +kernel
theorem dX1_readStep_48 : decode cX1_readStep 48 = .ok (.invokevirtual 73, 3) := by decide +kernel
theorem dX1_readStep_51 : decode cX1_readStep 51 = .ok (.ifCond .ne 5, 3) := by decide +kernel
theorem dX1_readStep_54 : decode cX1_readStep 54 = .ok (.iconst 0, 1) := by decide +kernel
theorem dX1_readStep_55 : decode cX1_readStep 55 = .ok (.ireturn, 1) := by decide +kernel
theorem dX1_readStep_56 : decode cX1_readStep 56 = .ok (.iconst 0, 1) := by decide +kernel
theorem dX1_readStep_57 : decode cX1_readStep 57 = .ok (.istore 4, 2) := by decide +kernel
theorem dX1_readStep_59 : decode cX1_readStep 59 = .ok (.iload_n 2, 1) := by decide +kernel
theorem dX1_readStep_60 : decode cX1_readStep 60 = .ok (.ifCond .ne 32, 3) := by decide +kernel
theorem dX1_readStep_63 : decode cX1_readStep 63 = .ok (.aload_n 1, 1) := by decide +kernel
theorem dX1_readStep_64 : decode cX1_readStep 64 = .ok (.iconst 2, 1) := by decide +kernel
theorem dX1_readStep_65 : decode cX1_readStep 65 = .ok (.iconst 1, 1) := by decide +kernel
theorem dX1_readStep_66 : decode cX1_readStep 66 = .ok (.invokevirtual 77, 3) := by decide +kernel
theorem dX1_readStep_69 : decode cX1_readStep 69 = .ok (.ifCond .ne 5, 3) := by decide +kernel
theorem dX1_readStep_72 : decode cX1_readStep 72 = .ok (.iconst 0, 1) := by decide +kernel
theorem dX1_readStep_73 : decode cX1_readStep 73 = .ok (.ireturn, 1) := by decide +kernel
theorem dX1_readStep_74 : decode cX1_readStep 74 = .ok (.aload_n 1, 1) := by decide +kernel
theorem dX1_readStep_75 : decode cX1_readStep 75 = .ok (.invokevirtual 69, 3) := by decide +kernel
theorem dX1_readStep_78 : decode cX1_readStep 78 = .ok (.istore 4, 2) := by decide +kernel
theorem dX1_readStep_80 : decode cX1_readStep 80 = .ok (.aload_n 1, 1) := by decide +kernel
theorem dX1_readStep_81 : decode cX1_readStep 81 = .ok (.iconst 0, 1) := by decide +kernel
theorem dX1_readStep_82 : decode cX1_readStep 82 = .ok (.bipush 23, 2) := by decide +kernel
theorem dX1_readStep_84 : decode cX1_readStep 84 = .ok (.invokevirtual 73, 3) := by decide +kernel
theorem dX1_readStep_87 : decode cX1_readStep 87 = .ok (.ifCond .ne 5, 3) := by decide +kernel
theorem dX1_readStep_90 : decode cX1_readStep 90 = .ok (.iconst 0, 1) := by decide +kernel
theorem dX1_readStep_91 : decode cX1_readStep 91 = .ok (.ireturn, 1) := by decide +kernel
theorem dX1_readStep_92 : decode cX1_readStep 92 = .ok (.aload_n 0, 1) := by decide +kernel
theorem dX1_readStep_93 : decode cX1_readStep 93 = .ok (.iload_n 2, 1) := by decide +kernel
theorem dX1_readStep_94 : decode cX1_readStep 94 = .ok (.iload_n 3, 1) := by decide +kernel
theorem dX1_readStep_95 : decode cX1_readStep 95 = .ok (.iload 4, 2) := by decide +kernel
theorem dX1_readStep_97 : decode cX1_readStep 97 = .ok (.invokevirtual 80, 3) := by decide +kernel
theorem dX1_readStep_100 : decode cX1_readStep 100 = .ok (.aload_n 1, 1) := by decide +kernel
theorem dX1_readStep_101 : decode cX1_readStep 101 = .ok (.iconst 1, 1) := by decide +kernel
theorem dX1_readStep_102 : decode cX1_readStep 102 = .ok (.bipush 59, 2) := by decide +kernel
theorem dX1_readStep_104 : decode cX1_readStep 104 = .ok (.invokevirtual 77, 3) := by decide +kernel
theorem dX1_readStep_107 : decode cX1_readStep 107 = .ok (.ireturn, 1) := by decide +kernel
theorem dX1_mostOf_0 : decode cX1_mostOf 0 = .ok (.iload_n 0, 1) := by decide +kernel
theorem dX1_mostOf_1 : decode cX1_mostOf 1 = .ok (.tableswitch 46 0 4 #[35, 46, 37, 40, 43], 35) := by decide +kernel
theorem dX1_mostOf_36 : decode cX1_mostOf 36 = .ok (.iconst 5, 1) := by decide +kernel
theorem dX1_mostOf_37 : decode cX1_mostOf 37 = .ok (.ireturn, 1) := by decide +kernel
theorem dX1_mostOf_38 : decode cX1_mostOf 38 = .ok (.bipush 23, 2) := by decide +kernel
theorem dX1_mostOf_40 : decode cX1_mostOf 40 = .ok (.ireturn, 1) := by decide +kernel
theorem dX1_mostOf_41 : decode cX1_mostOf 41 = .ok (.bipush 99, 2) := by decide +kernel
theorem dX1_mostOf_43 : decode cX1_mostOf 43 = .ok (.ireturn, 1) := by decide +kernel
theorem dX1_mostOf_44 : decode cX1_mostOf 44 = .ok (.bipush 9, 2) := by decide +kernel
theorem dX1_mostOf_46 : decode cX1_mostOf 46 = .ok (.ireturn, 1) := by decide +kernel
theorem dX1_mostOf_47 : decode cX1_mostOf 47 = .ok (.bipush 30, 2) := by decide +kernel
theorem dX1_mostOf_49 : decode cX1_mostOf 49 = .ok (.ireturn, 1) := by decide +kernel
theorem dX2_init_0 : decode cX2_init 0 = .ok (.aload_n 0, 1) := by decide +kernel
theorem dX2_init_1 : decode cX2_init 1 = .ok (.invokespecial 3, 3) := by decide +kernel
theorem dX2_init_4 : decode cX2_init 4 = .ok (.aload_n 0, 1) := by decide +kernel
theorem dX2_init_5 : decode cX2_init 5 = .ok (.bipush 8, 2) := by decide +kernel
theorem dX2_init_7 : decode cX2_init 7 = .ok (.newarray .int, 2) := by decide +kernel
theorem dX2_init_9 : decode cX2_init 9 = .ok (.putfield 11, 3) := by decide +kernel
theorem dX2_init_12 : decode cX2_init 12 = .ok (.aload_n 0, 1) := by decide +kernel
theorem dX2_init_13 : decode cX2_init 13 = .ok (.bipush 48, 2) := by decide +kernel
theorem dX2_init_15 : decode cX2_init 15 = .ok (.newarray .int, 2) := by decide +kernel
theorem dX2_init_17 : decode cX2_init 17 = .ok (.putfield 17, 3) := by decide +kernel
theorem dX2_init_20 : decode cX2_init 20 = .ok (.aload_n 0, 1) := by decide +kernel
theorem dX2_init_21 : decode cX2_init 21 = .ok (.sipush 1000, 3) := by decide +kernel
theorem dX2_init_24 : decode cX2_init 24 = .ok (.newarray .int, 2) := by decide +kernel
theorem dX2_init_26 : decode cX2_init 26 = .ok (.putfield 20, 3) := by decide +kernel
theorem dX2_init_29 : decode cX2_init 29 = .ok (.aload_n 0, 1) := by decide +kernel
theorem dX2_init_30 : decode cX2_init 30 = .ok (.aload_n 1, 1) := by decide +kernel
theorem dX2_init_31 : decode cX2_init 31 = .ok (.putfield 23, 3) := by decide +kernel
theorem dX2_init_34 : decode cX2_init 34 = .ok (.return_, 1) := by decide +kernel
theorem dX2_held_0 : decode cX2_held 0 = .ok (.iload_n 0, 1) := by decide +kernel
theorem dX2_held_1 : decode cX2_held 1 = .ok (.ifCond .ge 7, 3) := by decide +kernel
theorem dX2_held_4 : decode cX2_held 4 = .ok (.iconst 0, 1) := by decide +kernel
theorem dX2_held_5 : decode cX2_held 5 = .ok (.goto 13, 3) := by decide +kernel
theorem dX2_held_8 : decode cX2_held 8 = .ok (.iload_n 0, 1) := by decide +kernel
theorem dX2_held_9 : decode cX2_held 9 = .ok (.iload_n 1, 1) := by decide +kernel
theorem dX2_held_10 : decode cX2_held 10 = .ok (.if_icmp .le 7, 3) := by decide +kernel
theorem dX2_held_13 : decode cX2_held 13 = .ok (.iload_n 1, 1) := by decide +kernel
theorem dX2_held_14 : decode cX2_held 14 = .ok (.goto 4, 3) := by decide +kernel
theorem dX2_held_17 : decode cX2_held 17 = .ok (.iload_n 0, 1) := by decide +kernel
theorem dX2_held_18 : decode cX2_held 18 = .ok (.ireturn, 1) := by decide +kernel
theorem dX2_askHabit_0 : decode cX2_askHabit 0 = .ok (.iload_n 3, 1) := by decide +kernel
theorem dX2_askHabit_1 : decode cX2_askHabit 1 = .ok (.bipush 6, 2) := by decide +kernel
theorem dX2_askHabit_3 : decode cX2_askHabit 3 = .ok (.imul, 1) := by decide +kernel
theorem dX2_askHabit_4 : decode cX2_askHabit 4 = .ok (.iload 4, 2) := by decide +kernel
theorem dX2_askHabit_6 : decode cX2_askHabit 6 = .ok (.iadd, 1) := by decide +kernel
theorem dX2_askHabit_7 : decode cX2_askHabit 7 = .ok (.istore 5, 2) := by decide +kernel
theorem dX2_askHabit_9 : decode cX2_askHabit 9 = .ok (.aload_n 0, 1) := by decide +kernel
theorem dX2_askHabit_10 : decode cX2_askHabit 10 = .ok (.getfield 11, 3) := by decide +kernel
theorem dX2_askHabit_13 : decode cX2_askHabit 13 = .ok (.iconst 0, 1) := by decide +kernel
theorem dX2_askHabit_14 : decode cX2_askHabit 14 = .ok (.aload_n 2, 1) := by decide +kernel
theorem dX2_askHabit_15 : decode cX2_askHabit 15 = .ok (.getfield 27, 3) := by decide +kernel
theorem dX2_askHabit_18 : decode cX2_askHabit 18 = .ok (.iload 5, 2) := by decide +kernel
theorem dX2_askHabit_20 : decode cX2_askHabit 20 = .ok (.iaload, 1) := by decide +kernel
theorem dX2_askHabit_21 : decode cX2_askHabit 21 = .ok (.iastore, 1) := by decide +kernel
theorem dX2_askHabit_22 : decode cX2_askHabit 22 = .ok (.aload_n 0, 1) := by decide +kernel
theorem dX2_askHabit_23 : decode cX2_askHabit 23 = .ok (.getfield 11, 3) := by decide +kernel
theorem dX2_askHabit_26 : decode cX2_askHabit 26 = .ok (.iconst 1, 1) := by decide +kernel
theorem dX2_askHabit_27 : decode cX2_askHabit 27 = .ok (.aload_n 1, 1) := by decide +kernel
theorem dX2_askHabit_28 : decode cX2_askHabit 28 = .ok (.getfield 32, 3) := by decide +kernel
theorem dX2_askHabit_31 : decode cX2_askHabit 31 = .ok (.aload_n 2, 1) := by decide +kernel
theorem dX2_askHabit_32 : decode cX2_askHabit 32 = .ok (.getfield 38, 3) := by decide +kernel
theorem dX2_askHabit_35 : decode cX2_askHabit 35 = .ok (.iload 5, 2) := by decide +kernel
theorem dX2_askHabit_37 : decode cX2_askHabit 37 = .ok (.iaload, 1) := by decide +kernel
theorem dX2_askHabit_38 : decode cX2_askHabit 38 = .ok (.isub, 1) := by decide +kernel
theorem dX2_askHabit_39 : decode cX2_askHabit 39 = .ok (.iastore, 1) := by decide +kernel
theorem dX2_askHabit_40 : decode cX2_askHabit 40 = .ok (.aload_n 0, 1) := by decide +kernel
theorem dX2_askHabit_41 : decode cX2_askHabit 41 = .ok (.getfield 11, 3) := by decide +kernel
theorem dX2_askHabit_44 : decode cX2_askHabit 44 = .ok (.iconst 2, 1) := by decide +kernel
theorem dX2_askHabit_45 : decode cX2_askHabit 45 = .ok (.iload_n 3, 1) := by decide +kernel
theorem dX2_askHabit_46 : decode cX2_askHabit 46 = .ok (.iastore, 1) := by decide +kernel
theorem dX2_askHabit_47 : decode cX2_askHabit 47 = .ok (.aload_n 0, 1) := by decide +kernel
theorem dX2_askHabit_48 : decode cX2_askHabit 48 = .ok (.getfield 11, 3) := by decide +kernel
theorem dX2_askHabit_51 : decode cX2_askHabit 51 = .ok (.iconst 3, 1) := by decide +kernel
theorem dX2_askHabit_52 : decode cX2_askHabit 52 = .ok (.iload 4, 2) := by decide +kernel
theorem dX2_askHabit_54 : decode cX2_askHabit 54 = .ok (.iastore, 1) := by decide +kernel
theorem dX2_askHabit_55 : decode cX2_askHabit 55 = .ok (.aload_n 0, 1) := by decide +kernel
theorem dX2_askHabit_56 : decode cX2_askHabit 56 = .ok (.getfield 11, 3) := by decide +kernel
theorem dX2_askHabit_59 : decode cX2_askHabit 59 = .ok (.iconst 4, 1) := by decide +kernel
theorem dX2_askHabit_60 : decode cX2_askHabit 60 = .ok (.aload_n 1, 1) := by decide +kernel
theorem dX2_askHabit_61 : decode cX2_askHabit 61 = .ok (.getfield 41, 3) := by decide +kernel
theorem dX2_askHabit_64 : decode cX2_askHabit 64 = .ok (.iload 4, 2) := by decide +kernel
theorem dX2_askHabit_66 : decode cX2_askHabit 66 = .ok (.iaload, 1) := by decide +kernel
theorem dX2_askHabit_67 : decode cX2_askHabit 67 = .ok (.iastore, 1) := by decide +kernel
theorem dX2_askHabit_68 : decode cX2_askHabit 68 = .ok (.aload_n 0, 1) := by decide +kernel
theorem dX2_askHabit_69 : decode cX2_askHabit 69 = .ok (.getfield 11, 3) := by decide +kernel
theorem dX2_askHabit_72 : decode cX2_askHabit 72 = .ok (.iconst 5, 1) := by decide +kernel
theorem dX2_askHabit_73 : decode cX2_askHabit 73 = .ok (.aload_n 2, 1) := by decide +kernel
theorem dX2_askHabit_74 : decode cX2_askHabit 74 = .ok (.getfield 44, 3) := by decide +kernel
theorem dX2_askHabit_77 : decode cX2_askHabit 77 = .ok (.iastore, 1) := by decide +kernel
theorem dX2_askHabit_78 : decode cX2_askHabit 78 = .ok (.return_, 1) := by decide +kernel
theorem dX2_needOf_0 : decode cX2_needOf 0 = .ok (.aload_n 0, 1) := by decide +kernel
theorem dX2_needOf_1 : decode cX2_needOf 1 = .ok (.aload_n 1, 1) := by decide +kernel
theorem dX2_needOf_2 : decode cX2_needOf 2 = .ok (.aload_n 2, 1) := by decide +kernel
theorem dX2_needOf_3 : decode cX2_needOf 3 = .ok (.iload_n 3, 1) := by decide +kernel
theorem dX2_needOf_4 : decode cX2_needOf 4 = .ok (.iload 4, 2) := by decide +kernel
theorem dX2_needOf_6 : decode cX2_needOf 6 = .ok (.invokevirtual 47, 3) := by decide +kernel
theorem dX2_needOf_9 : decode cX2_needOf 9 = .ok (.aload_n 0, 1) := by decide +kernel
theorem dX2_needOf_10 : decode cX2_needOf 10 = .ok (.getfield 11, 3) := by decide +kernel
theorem dX2_needOf_13 : decode cX2_needOf 13 = .ok (.bipush 6, 2) := by decide +kernel
theorem dX2_needOf_15 : decode cX2_needOf 15 = .ok (.aload_n 2, 1) := by decide +kernel
theorem dX2_needOf_16 : decode cX2_needOf 16 = .ok (.iload_n 3, 1) := by decide +kernel
theorem dX2_needOf_17 : decode cX2_needOf 17 = .ok (.invokevirtual 51, 3) := by decide +kernel
theorem dX2_needOf_20 : decode cX2_needOf 20 = .ok (.iastore, 1) := by decide +kernel
theorem dX2_needOf_21 : decode cX2_needOf 21 = .ok (.aload_n 0, 1) := by decide +kernel
theorem dX2_needOf_22 : decode cX2_needOf 22 = .ok (.getfield 11, 3) := by decide +kernel
theorem dX2_needOf_25 : decode cX2_needOf 25 = .ok (.bipush 7, 2) := by decide +kernel
theorem dX2_needOf_27 : decode cX2_needOf 27 = .ok (.aload_n 2, 1) := by decide +kernel
theorem dX2_needOf_28 : decode cX2_needOf 28 = .ok (.invokevirtual 55, 3) := by decide +kernel
theorem dX2_needOf_31 : decode cX2_needOf 31 = .ok (.iastore, 1) := by decide +kernel
theorem dX2_needOf_32 : decode cX2_needOf 32 = .ok (.aload_n 0, 1) := by decide +kernel
theorem dX2_needOf_33 : decode cX2_needOf 33 = .ok (.getfield 23, 3) := by decide +kernel
theorem dX2_needOf_36 : decode cX2_needOf 36 = .ok (.getfield 59, 3) := by decide +kernel
theorem dX2_needOf_39 : decode cX2_needOf 39 = .ok (.iconst 0, 1) := by decide +kernel
theorem dX2_needOf_40 : decode cX2_needOf 40 = .ok (.aaload, 1) := by decide +kernel
theorem dX2_needOf_41 : decode cX2_needOf 41 = .ok (.aload_n 0, 1) := by decide +kernel
theorem dX2_needOf_42 : decode cX2_needOf 42 = .ok (.getfield 11, 3) := by decide +kernel
theorem dX2_needOf_45 : decode cX2_needOf 45 = .ok (.aload_n 0, 1) := by decide +kernel
theorem dX2_needOf_46 : decode cX2_needOf 46 = .ok (.getfield 17, 3) := by decide +kernel
theorem dX2_needOf_49 : decode cX2_needOf 49 = .ok (.bipush 100, 2) := by decide +kernel
theorem dX2_needOf_51 : decode cX2_needOf 51 = .ok (.aload_n 0, 1) := by decide +kernel
theorem dX2_needOf_52 : decode cX2_needOf 52 = .ok (.getfield 11, 3) := by decide +kernel
theorem dX2_needOf_55 : decode cX2_needOf 55 = .ok (.iconst 0, 1) := by decide +kernel
theorem dX2_needOf_56 : decode cX2_needOf 56 = .ok (.iaload, 1) := by decide +kernel
theorem dX2_needOf_57 : decode cX2_needOf 57 = .ok (.isub, 1) := by decide +kernel
theorem dX2_needOf_58 : decode cX2_needOf 58 = .ok (.invokevirtual 65, 3) := by decide +kernel
theorem dX2_needOf_61 : decode cX2_needOf 61 = .ok (.sipush 999, 3) := by decide +kernel
theorem dX2_needOf_64 : decode cX2_needOf 64 = .ok (.invokestatic 69, 3) := by decide +kernel
theorem dX2_needOf_67 : decode cX2_needOf 67 = .ok (.ireturn, 1) := by decide +kernel
theorem dX2_lossOf_0 : decode cX2_lossOf 0 = .ok (.aload_n 0, 1) := by decide +kernel
theorem dX2_lossOf_1 : decode cX2_lossOf 1 = .ok (.aload_n 1, 1) := by decide +kernel
theorem dX2_lossOf_2 : decode cX2_lossOf 2 = .ok (.aload_n 2, 1) := by decide +kernel
theorem dX2_lossOf_3 : decode cX2_lossOf 3 = .ok (.iload_n 3, 1) := by decide +kernel
theorem dX2_lossOf_4 : decode cX2_lossOf 4 = .ok (.iload 4, 2) := by decide +kernel
theorem dX2_lossOf_6 : decode cX2_lossOf 6 = .ok (.invokevirtual 47, 3) := by decide +kernel
theorem dX2_lossOf_9 : decode cX2_lossOf 9 = .ok (.aload_n 0, 1) := by decide +kernel
theorem dX2_lossOf_10 : decode cX2_lossOf 10 = .ok (.getfield 23, 3) := by decide +kernel
theorem dX2_lossOf_13 : decode cX2_lossOf 13 = .ok (.getfield 59, 3) := by decide +kernel
theorem dX2_lossOf_16 : decode cX2_lossOf 16 = .ok (.iconst 1, 1) := by decide +kernel
theorem dX2_lossOf_17 : decode cX2_lossOf 17 = .ok (.aaload, 1) := by decide +kernel
theorem dX2_lossOf_18 : decode cX2_lossOf 18 = .ok (.aload_n 0, 1) := by decide +kernel
theorem dX2_lossOf_19 : decode cX2_lossOf 19 = .ok (.getfield 11, 3) := by decide +kernel
theorem dX2_lossOf_22 : decode cX2_lossOf 22 = .ok (.aload_n 0, 1) := by decide +kernel
theorem dX2_lossOf_23 : decode cX2_lossOf 23 = .ok (.getfield 17, 3) := by decide +kernel
theorem dX2_lossOf_26 : decode cX2_lossOf 26 = .ok (.iconst 1, 1) := by decide +kernel
theorem dX2_lossOf_27 : decode cX2_lossOf 27 = .ok (.invokevirtual 65, 3) := by decide +kernel
theorem dX2_lossOf_30 : decode cX2_lossOf 30 = .ok (.bipush 99, 2) := by decide +kernel
theorem dX2_lossOf_32 : decode cX2_lossOf 32 = .ok (.invokestatic 69, 3) := by decide +kernel
theorem dX2_lossOf_35 : decode cX2_lossOf 35 = .ok (.ireturn, 1) := by decide +kernel
theorem dX2_strengthOf_0 : decode cX2_strengthOf 0 = .ok (.iload_n 3, 1) := by decide +kernel
theorem dX2_strengthOf_1 : decode cX2_strengthOf 1 = .ok (.aload_n 2, 1) := by decide +kernel
theorem dX2_strengthOf_2 : decode cX2_strengthOf 2 = .ok (.getfield 73, 3) := by decide +kernel
theorem dX2_strengthOf_5 : decode cX2_strengthOf 5 = .ok (.invokestatic 76, 3) := by decide +kernel
theorem dX2_strengthOf_8 : decode cX2_strengthOf 8 = .ok (.ifCond .ne 5, 3) := by decide +kernel
theorem dX2_strengthOf_11 : decode cX2_strengthOf 11 = .ok (.iconst (-1), 1) := by decide +kernel
theorem dX2_strengthOf_12 : decode cX2_strengthOf 12 = .ok (.ireturn, 1) := by decide +kernel
theorem dX2_strengthOf_13 : decode cX2_strengthOf 13 = .ok (.aload_n 2, 1) := by decide +kernel
theorem dX2_strengthOf_14 : decode cX2_strengthOf 14 = .ok (.getfield 80, 3) := by decide +kernel
theorem dX2_strengthOf_17 : decode cX2_strengthOf 17 = .ok (.iload_n 3, 1) := by decide +kernel
theorem dX2_strengthOf_18 : decode cX2_strengthOf 18 = .ok (.iaload, 1) := by decide +kernel
theorem dX2_strengthOf_19 : decode cX2_strengthOf 19 = .ok (.istore 4, 2) := by decide +kernel
theorem dX2_strengthOf_21 : decode cX2_strengthOf 21 = .ok (.aload_n 0, 1) := by decide +kernel
theorem dX2_strengthOf_22 : decode cX2_strengthOf 22 = .ok (.getfield 11, 3) := by decide +kernel
theorem dX2_strengthOf_25 : decode cX2_strengthOf 25 = .ok (.iconst 0, 1) := by decide +kernel
theorem dX2_strengthOf_26 : decode cX2_strengthOf 26 = .ok (.iload 4, 2) := by decide +kernel
theorem dX2_strengthOf_28 : decode cX2_strengthOf 28 = .ok (.iconst (-1), 1) := by decide +kernel
theorem dX2_strengthOf_29 : decode cX2_strengthOf 29 = .ok (.if_icmp .ne 7, 3) := by decide +kernel
theorem dX2_strengthOf_32 : decode cX2_strengthOf 32 = .ok (.iconst 0, 1) := by decide +kernel
theorem dX2_strengthOf_33 : decode cX2_strengthOf 33 = .ok (.goto 4, 3) := by decide +kernel
theorem dX2_strengthOf_36 : decode cX2_strengthOf 36 = .ok (.iconst 1, 1) := by decide +kernel
theorem dX2_strengthOf_37 : decode cX2_strengthOf 37 = .ok (.iastore, 1) := by decide +kernel
theorem dX2_strengthOf_38 : decode cX2_strengthOf 38 = .ok (.aload_n 0, 1) := by decide +kernel
theorem dX2_strengthOf_39 : decode cX2_strengthOf 39 = .ok (.getfield 11, 3) := by decide +kernel
theorem dX2_strengthOf_42 : decode cX2_strengthOf 42 = .ok (.iconst 1, 1) := by decide +kernel
theorem dX2_strengthOf_43 : decode cX2_strengthOf 43 = .ok (.iload 4, 2) := by decide +kernel
theorem dX2_strengthOf_45 : decode cX2_strengthOf 45 = .ok (.iconst (-1), 1) := by decide +kernel
theorem dX2_strengthOf_46 : decode cX2_strengthOf 46 = .ok (.if_icmp .ne 7, 3) := by decide +kernel
theorem dX2_strengthOf_49 : decode cX2_strengthOf 49 = .ok (.iconst 0, 1) := by decide +kernel
theorem dX2_strengthOf_50 : decode cX2_strengthOf 50 = .ok (.goto 10, 3) := by decide +kernel
theorem dX2_strengthOf_53 : decode cX2_strengthOf 53 = .ok (.aload_n 1, 1) := by decide +kernel
theorem dX2_strengthOf_54 : decode cX2_strengthOf 54 = .ok (.getfield 41, 3) := by decide +kernel
theorem dX2_strengthOf_57 : decode cX2_strengthOf 57 = .ok (.iload 4, 2) := by decide +kernel
theorem dX2_strengthOf_59 : decode cX2_strengthOf 59 = .ok (.iaload, 1) := by decide +kernel
theorem dX2_strengthOf_60 : decode cX2_strengthOf 60 = .ok (.iastore, 1) := by decide +kernel
theorem dX2_strengthOf_61 : decode cX2_strengthOf 61 = .ok (.aload_n 0, 1) := by decide +kernel
theorem dX2_strengthOf_62 : decode cX2_strengthOf 62 = .ok (.getfield 11, 3) := by decide +kernel
theorem dX2_strengthOf_65 : decode cX2_strengthOf 65 = .ok (.iconst 2, 1) := by decide +kernel
theorem dX2_strengthOf_66 : decode cX2_strengthOf 66 = .ok (.iload 4, 2) := by decide +kernel
theorem dX2_strengthOf_68 : decode cX2_strengthOf 68 = .ok (.iconst (-1), 1) := by decide +kernel
theorem dX2_strengthOf_69 : decode cX2_strengthOf 69 = .ok (.if_icmp .ne 7, 3) := by decide +kernel
theorem dX2_strengthOf_72 : decode cX2_strengthOf 72 = .ok (.iconst 0, 1) := by decide +kernel
theorem dX2_strengthOf_73 : decode cX2_strengthOf 73 = .ok (.goto 10, 3) := by decide +kernel
theorem dX2_strengthOf_76 : decode cX2_strengthOf 76 = .ok (.aload_n 1, 1) := by decide +kernel
theorem dX2_strengthOf_77 : decode cX2_strengthOf 77 = .ok (.getfield 83, 3) := by decide +kernel
theorem dX2_strengthOf_80 : decode cX2_strengthOf 80 = .ok (.iload 4, 2) := by decide +kernel
theorem dX2_strengthOf_82 : decode cX2_strengthOf 82 = .ok (.iaload, 1) := by decide +kernel
theorem dX2_strengthOf_83 : decode cX2_strengthOf 83 = .ok (.iastore, 1) := by decide +kernel
theorem dX2_strengthOf_84 : decode cX2_strengthOf 84 = .ok (.aload_n 0, 1) := by decide +kernel
theorem dX2_strengthOf_85 : decode cX2_strengthOf 85 = .ok (.getfield 11, 3) := by decide +kernel
theorem dX2_strengthOf_88 : decode cX2_strengthOf 88 = .ok (.iconst 3, 1) := by decide +kernel
theorem dX2_strengthOf_89 : decode cX2_strengthOf 89 = .ok (.aload_n 1, 1) := by decide +kernel
theorem dX2_strengthOf_90 : decode cX2_strengthOf 90 = .ok (.getfield 32, 3) := by decide +kernel
theorem dX2_strengthOf_93 : decode cX2_strengthOf 93 = .ok (.aload_n 2, 1) := by decide +kernel
theorem dX2_strengthOf_94 : decode cX2_strengthOf 94 = .ok (.getfield 86, 3) := by decide +kernel
theorem dX2_strengthOf_97 : decode cX2_strengthOf 97 = .ok (.isub, 1) := by decide +kernel
theorem dX2_strengthOf_98 : decode cX2_strengthOf 98 = .ok (.sipush 365, 3) := by decide +kernel
theorem dX2_strengthOf_101 : decode cX2_strengthOf 101 = .ok (.idiv, 1) := by decide +kernel
theorem dX2_strengthOf_102 : decode cX2_strengthOf 102 = .ok (.iastore, 1) := by decide +kernel
theorem dX2_strengthOf_103 : decode cX2_strengthOf 103 = .ok (.aload_n 0, 1) := by decide +kernel
theorem dX2_strengthOf_104 : decode cX2_strengthOf 104 = .ok (.getfield 11, 3) := by decide +kernel
theorem dX2_strengthOf_107 : decode cX2_strengthOf 107 = .ok (.iconst 4, 1) := by decide +kernel
theorem dX2_strengthOf_108 : decode cX2_strengthOf 108 = .ok (.iload_n 3, 1) := by decide +kernel
theorem dX2_strengthOf_109 : decode cX2_strengthOf 109 = .ok (.iastore, 1) := by decide +kernel
theorem dX2_strengthOf_110 : decode cX2_strengthOf 110 = .ok (.aload_n 0, 1) := by decide +kernel
theorem dX2_strengthOf_111 : decode cX2_strengthOf 111 = .ok (.getfield 11, 3) := by decide +kernel
theorem dX2_strengthOf_114 : decode cX2_strengthOf 114 = .ok (.iconst 5, 1) := by decide +kernel
theorem dX2_strengthOf_115 : decode cX2_strengthOf 115 = .ok (.aload_n 2, 1) := by decide +kernel
theorem dX2_strengthOf_116 : decode cX2_strengthOf 116 = .ok (.getfield 73, 3) := by decide +kernel
theorem dX2_strengthOf_119 : decode cX2_strengthOf 119 = .ok (.iastore, 1) := by decide +kernel
theorem dX2_strengthOf_120 : decode cX2_strengthOf 120 = .ok (.aload_n 0, 1) := by decide +kernel
theorem dX2_strengthOf_121 : decode cX2_strengthOf 121 = .ok (.getfield 11, 3) := by decide +kernel
theorem dX2_strengthOf_124 : decode cX2_strengthOf 124 = .ok (.bipush 6, 2) := by decide +kernel
theorem dX2_strengthOf_126 : decode cX2_strengthOf 126 = .ok (.aload_n 2, 1) := by decide +kernel
theorem dX2_strengthOf_127 : decode cX2_strengthOf 127 = .ok (.getfield 44, 3) := by decide +kernel
theorem dX2_strengthOf_130 : decode cX2_strengthOf 130 = .ok (.iastore, 1) := by decide +kernel
theorem dX2_strengthOf_131 : decode cX2_strengthOf 131 = .ok (.aload_n 0, 1) := by decide +kernel
theorem dX2_strengthOf_132 : decode cX2_strengthOf 132 = .ok (.getfield 11, 3) := by decide +kernel
theorem dX2_strengthOf_135 : decode cX2_strengthOf 135 = .ok (.bipush 7, 2) := by decide +kernel
theorem dX2_strengthOf_137 : decode cX2_strengthOf 137 = .ok (.aload_n 2, 1) := by decide +kernel
theorem dX2_strengthOf_138 : decode cX2_strengthOf 138 = .ok (.iload_n 3, 1) := by decide +kernel
theorem dX2_strengthOf_139 : decode cX2_strengthOf 139 = .ok (.invokevirtual 89, 3) := by decide +kernel
theorem dX2_strengthOf_142 : decode cX2_strengthOf 142 = .ok (.iastore, 1) := by decide +kernel
theorem dX2_strengthOf_143 : decode cX2_strengthOf 143 = .ok (.aload_n 0, 1) := by decide +kernel
theorem dX2_strengthOf_144 : decode cX2_strengthOf 144 = .ok (.getfield 23, 3) := by decide +kernel
theorem dX2_strengthOf_147 : decode cX2_strengthOf 147 = .ok (.getfield 59, 3) := by decide +kernel
theorem dX2_strengthOf_150 : decode cX2_strengthOf 150 = .ok (.iconst 2, 1) := by decide +kernel
theorem dX2_strengthOf_151 : decode cX2_strengthOf 151 = .ok (.aaload, 1) := by decide +kernel
theorem dX2_strengthOf_152 : decode cX2_strengthOf 152 = .ok (.aload_n 0, 1) := by decide +kernel
theorem dX2_strengthOf_153 : decode cX2_strengthOf 153 = .ok (.getfield 11, 3) := by decide +kernel
theorem dX2_strengthOf_156 : decode cX2_strengthOf 156 = .ok (.aload_n 0, 1) := by decide +kernel
theorem dX2_strengthOf_157 : decode cX2_strengthOf 157 = .ok (.getfield 17, 3) := by decide +kernel
theorem dX2_strengthOf_160 : decode cX2_strengthOf 160 = .ok (.bipush 90, 2) := by decide +kernel
theorem dX2_strengthOf_162 : decode cX2_strengthOf 162 = .ok (.invokevirtual 65, 3) := by decide +kernel
theorem dX2_strengthOf_165 : decode cX2_strengthOf 165 = .ok (.sipush 999, 3) := by decide +kernel
theorem dX2_strengthOf_168 : decode cX2_strengthOf 168 = .ok (.invokestatic 69, 3) := by decide +kernel
theorem dX2_strengthOf_171 : decode cX2_strengthOf 171 = .ok (.ireturn, 1) := by decide +kernel
theorem dX2_weakestBelow_0 : decode cX2_weakestBelow 0 = .ok (.iconst (-1), 1) := by decide +kernel
theorem dX2_weakestBelow_1 : decode cX2_weakestBelow 1 = .ok (.istore 4, 2) := by decide +kernel
theorem dX2_weakestBelow_3 : decode cX2_weakestBelow 3 = .ok (.iload_n 3, 1) := by decide +kernel
theorem dX2_weakestBelow_4 : decode cX2_weakestBelow 4 = .ok (.istore 5, 2) := by decide +kernel
theorem dX2_weakestBelow_6 : decode cX2_weakestBelow 6 = .ok (.iconst 0, 1) := by decide +kernel
theorem dX2_weakestBelow_7 : decode cX2_weakestBelow 7 = .ok (.istore 6, 2) := by decide +kernel
theorem dX2_weakestBelow_9 : decode cX2_weakestBelow 9 = .ok (.iload 6, 2) := by decide +kernel
theorem dX2_weakestBelow_11 : decode cX2_weakestBelow 11 = .ok (.aload_n 2, 1) := by decide +kernel
theorem dX2_weakestBelow_12 : decode cX2_weakestBelow 12 = .ok (.getfield 73, 3) := by decide +kernel
theorem dX2_weakestBelow_15 : decode cX2_weakestBelow 15 = .ok (.if_icmp .ge 34, 3) := by decide +kernel
theorem dX2_weakestBelow_18 : decode cX2_weakestBelow 18 = .ok (.aload_n 0, 1) := by decide +kernel
theorem dX2_weakestBelow_19 : decode cX2_weakestBelow 19 = .ok (.aload_n 1, 1) := by decide +kernel
theorem dX2_weakestBelow_20 : decode cX2_weakestBelow 20 = .ok (.aload_n 2, 1) := by decide +kernel
theorem dX2_weakestBelow_21 : decode cX2_weakestBelow 21 = .ok (.iload 6, 2) := by decide +kernel
theorem dX2_weakestBelow_23 : decode cX2_weakestBelow 23 = .ok (.invokevirtual 92, 3) := by decide +kernel
theorem dX2_weakestBelow_26 : decode cX2_weakestBelow 26 = .ok (.istore 7, 2) := by decide +kernel
theorem dX2_weakestBelow_28 : decode cX2_weakestBelow 28 = .ok (.iload 7, 2) := by decide +kernel
theorem dX2_weakestBelow_30 : decode cX2_weakestBelow 30 = .ok (.iload 5, 2) := by decide +kernel
theorem dX2_weakestBelow_32 : decode cX2_weakestBelow 32 = .ok (.if_icmp .ge 11, 3) := by decide +kernel
theorem dX2_weakestBelow_35 : decode cX2_weakestBelow 35 = .ok (.iload 6, 2) := by decide +kernel
theorem dX2_weakestBelow_37 : decode cX2_weakestBelow 37 = .ok (.istore 4, 2) := by decide +kernel
theorem dX2_weakestBelow_39 : decode cX2_weakestBelow 39 = .ok (.iload 7, 2) := by decide +kernel
theorem dX2_weakestBelow_41 : decode cX2_weakestBelow 41 = .ok (.istore 5, 2) := by decide +kernel
theorem dX2_weakestBelow_43 : decode cX2_weakestBelow 43 = .ok (.iinc 6 1, 3) := by decide +kernel
theorem dX2_weakestBelow_46 : decode cX2_weakestBelow 46 = .ok (.goto (-37), 3) := by decide +kernel
theorem dX2_weakestBelow_49 : decode cX2_weakestBelow 49 = .ok (.iload 4, 2) := by decide +kernel
theorem dX2_weakestBelow_51 : decode cX2_weakestBelow 51 = .ok (.ireturn, 1) := by decide +kernel
theorem dX2_forget_0 : decode cX2_forget 0 = .ok (.iconst 0, 1) := by decide +kernel
theorem dX2_forget_1 : decode cX2_forget 1 = .ok (.istore_n 3, 1) := by decide +kernel
theorem dX2_forget_2 : decode cX2_forget 2 = .ok (.iload_n 3, 1) := by decide +kernel
theorem dX2_forget_3 : decode cX2_forget 3 = .ok (.aload_n 2, 1) := by decide +kernel
theorem dX2_forget_4 : decode cX2_forget 4 = .ok (.getfield 73, 3) := by decide +kernel
theorem dX2_forget_7 : decode cX2_forget 7 = .ok (.if_icmp .ge 82, 3) := by decide +kernel
theorem dX2_forget_10 : decode cX2_forget 10 = .ok (.iconst 0, 1) := by decide +kernel
theorem dX2_forget_11 : decode cX2_forget 11 = .ok (.istore 4, 2) := by decide +kernel
theorem dX2_forget_13 : decode cX2_forget 13 = .ok (.iload 4, 2) := by decide +kernel
theorem dX2_forget_15 : decode cX2_forget 15 = .ok (.bipush 6, 2) := by decide +kernel
theorem dX2_forget_17 : decode cX2_forget 17 = .ok (.if_icmp .ge 66, 3) := by decide +kernel
theorem dX2_forget_20 : decode cX2_forget 20 = .ok (.aload_n 2, 1) := by decide +kernel
theorem dX2_forget_21 : decode cX2_forget 21 = .ok (.getfield 80, 3) := by decide +kernel
theorem dX2_forget_24 : decode cX2_forget 24 = .ok (.iload_n 3, 1) := by decide +kernel
theorem dX2_forget_25 : decode cX2_forget 25 = .ok (.iaload, 1) := by decide +kernel
theorem dX2_forget_26 : decode cX2_forget 26 = .ok (.iconst (-1), 1) := by decide +kernel
theorem dX2_forget_27 : decode cX2_forget 27 = .ok (.if_icmp .ne 56, 3) := by decide +kernel
theorem dX2_forget_30 : decode cX2_forget 30 = .ok (.iload_n 3, 1) := by decide +kernel
theorem dX2_forget_31 : decode cX2_forget 31 = .ok (.bipush 6, 2) := by decide +kernel
theorem dX2_forget_33 : decode cX2_forget 33 = .ok (.imul, 1) := by decide +kernel
theorem dX2_forget_34 : decode cX2_forget 34 = .ok (.iload 4, 2) := by decide +kernel
theorem dX2_forget_36 : decode cX2_forget 36 = .ok (.iadd, 1) := by decide +kernel
theorem dX2_forget_37 : decode cX2_forget 37 = .ok (.istore 5, 2) := by decide +kernel
theorem dX2_forget_39 : decode cX2_forget 39 = .ok (.aload_n 2, 1) := by decide +kernel
theorem dX2_forget_40 : decode cX2_forget 40 = .ok (.getfield 27, 3) := by decide +kernel
theorem dX2_forget_43 : decode cX2_forget 43 = .ok (.iload 5, 2) := by decide +kernel
theorem dX2_forget_45 : decode cX2_forget 45 = .ok (.iaload, 1) := by decide +kernel
theorem dX2_forget_46 : decode cX2_forget 46 = .ok (.ifCond .le 31, 3) := by decide +kernel
theorem dX2_forget_49 : decode cX2_forget 49 = .ok (.aload_n 2, 1) := by decide +kernel
theorem dX2_forget_50 : decode cX2_forget 50 = .ok (.getfield 27, 3) := by decide +kernel
theorem dX2_forget_53 : decode cX2_forget 53 = .ok (.iload 5, 2) := by decide +kernel
theorem dX2_forget_55 : decode cX2_forget 55 = .ok (.iconst 0, 1) := by decide +kernel
theorem dX2_forget_56 : decode cX2_forget 56 = .ok (.aload_n 2, 1) := by decide +kernel
theorem dX2_forget_57 : decode cX2_forget 57 = .ok (.getfield 27, 3) := by decide +kernel
theorem dX2_forget_60 : decode cX2_forget 60 = .ok (.iload 5, 2) := by decide +kernel
theorem dX2_forget_62 : decode cX2_forget 62 = .ok (.iaload, 1) := by decide +kernel
theorem dX2_forget_63 : decode cX2_forget 63 = .ok (.aload_n 0, 1) := by decide +kernel
theorem dX2_forget_64 : decode cX2_forget 64 = .ok (.aload_n 1, 1) := by decide +kernel
theorem dX2_forget_65 : decode cX2_forget 65 = .ok (.aload_n 2, 1) := by decide +kernel
theorem dX2_forget_66 : decode cX2_forget 66 = .ok (.iload_n 3, 1) := by decide +kernel
theorem dX2_forget_67 : decode cX2_forget 67 = .ok (.iload 4, 2) := by decide +kernel
theorem dX2_forget_69 : decode cX2_forget 69 = .ok (.invokevirtual 96, 3) := by decide +kernel
theorem dX2_forget_72 : decode cX2_forget 72 = .ok (.isub, 1) := by decide +kernel
theorem dX2_forget_73 : decode cX2_forget 73 = .ok (.invokestatic 100, 3) := by decide +kernel
theorem dX2_forget_76 : decode cX2_forget 76 = .ok (.iastore, 1) := by decide +kernel
theorem dX2_forget_77 : decode cX2_forget 77 = .ok (.iinc 4 1, 3) := by decide +kernel
theorem dX2_forget_80 : decode cX2_forget 80 = .ok (.goto (-67), 3) := by decide +kernel
theorem dX2_forget_83 : decode cX2_forget 83 = .ok (.iinc 3 1, 3) := by decide +kernel
theorem dX2_forget_86 : decode cX2_forget 86 = .ok (.goto (-84), 3) := by decide +kernel
theorem dX2_forget_89 : decode cX2_forget 89 = .ok (.aload_n 2, 1) := by decide +kernel
theorem dX2_forget_90 : decode cX2_forget 90 = .ok (.iconst 0, 1) := by decide +kernel
theorem dX2_forget_91 : decode cX2_forget 91 = .ok (.aload_n 2, 1) := by decide +kernel
theorem dX2_forget_92 : decode cX2_forget 92 = .ok (.getfield 44, 3) := by decide +kernel
theorem dX2_forget_95 : decode cX2_forget 95 = .ok (.iconst 1, 1) := by decide +kernel
theorem dX2_forget_96 : decode cX2_forget 96 = .ok (.isub, 1) := by decide +kernel
theorem dX2_forget_97 : decode cX2_forget 97 = .ok (.invokestatic 100, 3) := by decide +kernel
theorem dX2_forget_100 : decode cX2_forget 100 = .ok (.putfield 44, 3) := by decide +kernel
theorem dX2_forget_103 : decode cX2_forget 103 = .ok (.return_, 1) := by decide +kernel
theorem dX2_findPasts_0 : decode cX2_findPasts 0 = .ok (.aload_n 0, 1) := by decide +kernel
theorem dX2_findPasts_1 : decode cX2_findPasts 1 = .ok (.iconst 0, 1) := by decide +kernel
theorem dX2_findPasts_2 : decode cX2_findPasts 2 = .ok (.putfield 105, 3) := by decide +kernel
theorem dX2_findPasts_5 : decode cX2_findPasts 5 = .ok (.aload_n 0, 1) := by decide +kernel
theorem dX2_findPasts_6 : decode cX2_findPasts 6 = .ok (.iconst (-1), 1) := by decide +kernel
theorem dX2_findPasts_7 : decode cX2_findPasts 7 = .ok (.putfield 108, 3) := by decide +kernel
theorem dX2_findPasts_10 : decode cX2_findPasts 10 = .ok (.aload_n 0, 1) := by decide +kernel
theorem dX2_findPasts_11 : decode cX2_findPasts 11 = .ok (.iconst (-1), 1) := by decide +kernel
theorem dX2_findPasts_12 : decode cX2_findPasts 12 = .ok (.putfield 111, 3) := by decide +kernel
theorem dX2_findPasts_15 : decode cX2_findPasts 15 = .ok (.aload_n 0, 1) := by decide +kernel
theorem dX2_findPasts_16 : decode cX2_findPasts 16 = .ok (.getfield 20, 3) := by decide +kernel
theorem dX2_findPasts_19 : decode cX2_findPasts 19 = .ok (.iconst 0, 1) := by decide +kernel
theorem dX2_findPasts_20 : decode cX2_findPasts 20 = .ok (.invokestatic 114, 3) := by decide +kernel
theorem dX2_findPasts_23 : decode cX2_findPasts 23 = .ok (.iconst 0, 1) := by decide +kernel
theorem dX2_findPasts_24 : decode cX2_findPasts 24 = .ok (.istore 4, 2) := by decide +kernel
theorem dX2_findPasts_26 : decode cX2_findPasts 26 = .ok (.iload 4, 2) := by decide +kernel
theorem dX2_findPasts_28 : decode cX2_findPasts 28 = .ok (.bipush 6, 2) := by decide +kernel
theorem dX2_findPasts_30 : decode cX2_findPasts 30 = .ok (.if_icmp .ge 116, 3) := by decide +kernel
theorem dX2_findPasts_33 : decode cX2_findPasts 33 = .ok (.iload_n 3, 1) := by decide +kernel
theorem dX2_findPasts_34 : decode cX2_findPasts 34 = .ok (.bipush 6, 2) := by decide +kernel
theorem dX2_findPasts_36 : decode cX2_findPasts 36 = .ok (.imul, 1) := by decide +kernel
theorem dX2_findPasts_37 : decode cX2_findPasts 37 = .ok (.iload 4, 2) := by decide +kernel
theorem dX2_findPasts_39 : decode cX2_findPasts 39 = .ok (.iadd, 1) := by decide +kernel
theorem dX2_findPasts_40 : decode cX2_findPasts 40 = .ok (.istore 5, 2) := by decide +kernel
theorem dX2_findPasts_42 : decode cX2_findPasts 42 = .ok (.aload_n 2, 1) := by decide +kernel
theorem dX2_findPasts_43 : decode cX2_findPasts 43 = .ok (.getfield 38, 3) := by decide +kernel
theorem dX2_findPasts_46 : decode cX2_findPasts 46 = .ok (.iload 5, 2) := by decide +kernel
theorem dX2_findPasts_48 : decode cX2_findPasts 48 = .ok (.aload_n 1, 1) := by decide +kernel
theorem dX2_findPasts_49 : decode cX2_findPasts 49 = .ok (.getfield 32, 3) := by decide +kernel
theorem dX2_findPasts_52 : decode cX2_findPasts 52 = .ok (.iastore, 1) := by decide +kernel
theorem dX2_findPasts_53 : decode cX2_findPasts 53 = .ok (.iconst 1, 1) := by decide +kernel
theorem dX2_findPasts_54 : decode cX2_findPasts 54 = .ok (.istore 6, 2) := by decide +kernel
theorem dX2_findPasts_56 : decode cX2_findPasts 56 = .ok (.iload 6, 2) := by decide +kernel
theorem dX2_findPasts_58 : decode cX2_findPasts 58 = .ok (.bipush 99, 2) := by decide +kernel
theorem dX2_findPasts_60 : decode cX2_findPasts 60 = .ok (.if_icmp .gt 80, 3) := by decide +kernel
theorem dX2_findPasts_63 : decode cX2_findPasts 63 = .ok (.aload_n 2, 1) := by decide +kernel
theorem dX2_findPasts_64 : decode cX2_findPasts 64 = .ok (.getfield 27, 3) := by decide +kernel
theorem dX2_findPasts_67 : decode cX2_findPasts 67 = .ok (.iload 5, 2) := by decide +kernel
theorem dX2_findPasts_69 : decode cX2_findPasts 69 = .ok (.iload 6, 2) := by decide +kernel
theorem dX2_findPasts_71 : decode cX2_findPasts 71 = .ok (.iastore, 1) := by decide +kernel
theorem dX2_findPasts_72 : decode cX2_findPasts 72 = .ok (.aload_n 0, 1) := by decide +kernel
theorem dX2_findPasts_73 : decode cX2_findPasts 73 = .ok (.aload_n 1, 1) := by decide +kernel
theorem dX2_findPasts_74 : decode cX2_findPasts 74 = .ok (.aload_n 2, 1) := by decide +kernel
theorem dX2_findPasts_75 : decode cX2_findPasts 75 = .ok (.iload_n 3, 1) := by decide +kernel
theorem dX2_findPasts_76 : decode cX2_findPasts 76 = .ok (.iload 4, 2) := by decide +kernel
theorem dX2_findPasts_78 : decode cX2_findPasts 78 = .ok (.invokevirtual 120, 3) := by decide +kernel
theorem dX2_findPasts_81 : decode cX2_findPasts 81 = .ok (.istore 7, 2) := by decide +kernel
theorem dX2_findPasts_83 : decode cX2_findPasts 83 = .ok (.aload_n 0, 1) := by decide +kernel
theorem dX2_findPasts_84 : decode cX2_findPasts 84 = .ok (.iload 4, 2) := by decide +kernel
theorem dX2_findPasts_86 : decode cX2_findPasts 86 = .ok (.iload 7, 2) := by decide +kernel
theorem dX2_findPasts_88 : decode cX2_findPasts 88 = .ok (.invokevirtual 123, 3) := by decide +kernel
theorem dX2_findPasts_91 : decode cX2_findPasts 91 = .ok (.ifCond .eq 43, 3) := by decide +kernel
theorem dX2_findPasts_94 : decode cX2_findPasts 94 = .ok (.aload_n 0, 1) := by decide +kernel
theorem dX2_findPasts_95 : decode cX2_findPasts 95 = .ok (.getfield 105, 3) := by decide +kernel
theorem dX2_findPasts_98 : decode cX2_findPasts 98 = .ok (.ifCond .ne 15, 3) := by decide +kernel
theorem dX2_findPasts_101 : decode cX2_findPasts 101 = .ok (.aload_n 0, 1) := by decide +kernel
theorem dX2_findPasts_102 : decode cX2_findPasts 102 = .ok (.iload 4, 2) := by decide +kernel
theorem dX2_findPasts_104 : decode cX2_findPasts 104 = .ok (.putfield 108, 3) := by decide +kernel
theorem dX2_findPasts_107 : decode cX2_findPasts 107 = .ok (.aload_n 0, 1) := by decide +kernel
theorem dX2_findPasts_108 : decode cX2_findPasts 108 = .ok (.iload 6, 2) := by decide +kernel
theorem dX2_findPasts_110 : decode cX2_findPasts 110 = .ok (.putfield 111, 3) := by decide +kernel
theorem dX2_findPasts_113 : decode cX2_findPasts 113 = .ok (.aload_n 0, 1) := by decide +kernel
theorem dX2_findPasts_114 : decode cX2_findPasts 114 = .ok (.dup, 1) := by decide +kernel
theorem dX2_findPasts_115 : decode cX2_findPasts 115 = .ok (.getfield 105, 3) := by decide +kernel
theorem dX2_findPasts_118 : decode cX2_findPasts 118 = .ok (.iconst 1, 1) := by decide +kernel
theorem dX2_findPasts_119 : decode cX2_findPasts 119 = .ok (.iadd, 1) := by decide +kernel
theorem dX2_findPasts_120 : decode cX2_findPasts 120 = .ok (.putfield 105, 3) := by decide +kernel
theorem dX2_findPasts_123 : decode cX2_findPasts 123 = .ok (.aload_n 0, 1) := by decide +kernel
theorem dX2_findPasts_124 : decode cX2_findPasts 124 = .ok (.getfield 20, 3) := by decide +kernel
theorem dX2_findPasts_127 : decode cX2_findPasts 127 = .ok (.iload 7, 2) := by decide +kernel
theorem dX2_findPasts_129 : decode cX2_findPasts 129 = .ok (.dup2, 1) := by decide +kernel
theorem dX2_findPasts_130 : decode cX2_findPasts 130 = .ok (.iaload, 1) := by decide +kernel
theorem dX2_findPasts_131 : decode cX2_findPasts 131 = .ok (.iconst 1, 1) := by decide +kernel
theorem dX2_findPasts_132 : decode cX2_findPasts 132 = .ok (.iadd, 1) := by decide +kernel
theorem dX2_findPasts_133 : decode cX2_findPasts 133 = .ok (.iastore, 1) := by decide +kernel
theorem dX2_findPasts_134 : decode cX2_findPasts 134 = .ok (.iinc 6 1, 3) := by decide +kernel
theorem dX2_findPasts_137 : decode cX2_findPasts 137 = .ok (.goto (-81), 3) := by decide +kernel
theorem dX2_findPasts_140 : decode cX2_findPasts 140 = .ok (.iinc 4 1, 3) := by decide +kernel
theorem dX2_findPasts_143 : decode cX2_findPasts 143 = .ok (.goto (-117), 3) := by decide +kernel
theorem dX2_findPasts_146 : decode cX2_findPasts 146 = .ok (.return_, 1) := by decide +kernel
theorem dX2_agreesWithTold_0 : decode cX2_agreesWithTold 0 = .ok (.iconst 0, 1) := by decide +kernel
theorem dX2_agreesWithTold_1 : decode cX2_agreesWithTold 1 = .ok (.istore_n 3, 1) := by decide +kernel
theorem dX2_agreesWithTold_2 : decode cX2_agreesWithTold 2 = .ok (.iload_n 3, 1) := by decide +kernel
theorem dX2_agreesWithTold_3 : decode cX2_agreesWithTold 3 = .ok (.aload_n 0, 1) := by decide +kernel
theorem dX2_agreesWithTold_4 : decode cX2_agreesWithTold 4 = .ok (.getfield 23, 3) := by decide +kernel
theorem dX2_agreesWithTold_7 : decode cX2_agreesWithTold 7 = .ok (.getfield 126, 3) := by decide +kernel
theorem dX2_agreesWithTold_10 : decode cX2_agreesWithTold 10 = .ok (.if_icmp .ge 45, 3) := by decide +kernel
theorem dX2_agreesWithTold_13 : decode cX2_agreesWithTold 13 = .ok (.iload_n 2, 1) := by decide +kernel
theorem dX2_agreesWithTold_14 : decode cX2_agreesWithTold 14 = .ok (.aload_n 0, 1) := by decide +kernel
theorem dX2_agreesWithTold_15 : decode cX2_agreesWithTold 15 = .ok (.getfield 23, 3) := by decide +kernel
theorem dX2_agreesWithTold_18 : decode cX2_agreesWithTold 18 = .ok (.getfield 129, 3) := by decide +kernel
theorem dX2_agreesWithTold_21 : decode cX2_agreesWithTold 21 = .ok (.iload_n 3, 1) := by decide +kernel
theorem dX2_agreesWithTold_22 : decode cX2_agreesWithTold 22 = .ok (.iaload, 1) := by decide +kernel
theorem dX2_agreesWithTold_23 : decode cX2_agreesWithTold 23 = .ok (.if_icmp .gt 7, 3) := by decide +kernel
theorem dX2_agreesWithTold_26 : decode cX2_agreesWithTold 26 = .ok (.iload_n 1, 1) := by decide +kernel
theorem dX2_agreesWithTold_27 : decode cX2_agreesWithTold 27 = .ok (.goto 4, 3) := by decide +kernel
theorem dX2_agreesWithTold_30 : decode cX2_agreesWithTold 30 = .ok (.iconst (-1), 1) := by decide +kernel
theorem dX2_agreesWithTold_31 : decode cX2_agreesWithTold 31 = .ok (.istore 4, 2) := by decide +kernel
theorem dX2_agreesWithTold_33 : decode cX2_agreesWithTold 33 = .ok (.iload 4, 2) := by decide +kernel
theorem dX2_agreesWithTold_35 : decode cX2_agreesWithTold 35 = .ok (.aload_n 0, 1) := by decide +kernel
theorem dX2_agreesWithTold_36 : decode cX2_agreesWithTold 36 = .ok (.getfield 23, 3) := by decide +kernel
theorem dX2_agreesWithTold_39 : decode cX2_agreesWithTold 39 = .ok (.getfield 132, 3) := by decide +kernel
theorem dX2_agreesWithTold_42 : decode cX2_agreesWithTold 42 = .ok (.iload_n 3, 1) := by decide +kernel
theorem dX2_agreesWithTold_43 : decode cX2_agreesWithTold 43 = .ok (.iaload, 1) := by decide +kernel
theorem dX2_agreesWithTold_44 : decode cX2_agreesWithTold 44 = .ok (.if_icmp .eq 5, 3) := by decide +kernel
theorem dX2_agreesWithTold_47 : decode cX2_agreesWithTold 47 = .ok (.iconst 0, 1) := by decide +kernel
theorem dX2_agreesWithTold_48 : decode cX2_agreesWithTold 48 = .ok (.ireturn, 1) := by decide +kernel
theorem dX2_agreesWithTold_49 : decode cX2_agreesWithTold 49 = .ok (.iinc 3 1, 3) := by decide +kernel
theorem dX2_agreesWithTold_52 : decode cX2_agreesWithTold 52 = .ok (.goto (-50), 3) := by decide +kernel
theorem dX2_agreesWithTold_55 : decode cX2_agreesWithTold 55 = .ok (.iconst 1, 1) := by decide +kernel
theorem dX2_agreesWithTold_56 : decode cX2_agreesWithTold 56 = .ok (.ireturn, 1) := by decide +kernel
theorem dX2_tellingForce_0 : decode cX2_tellingForce 0 = .ok (.aload_n 0, 1) := by decide +kernel
theorem dX2_tellingForce_1 : decode cX2_tellingForce 1 = .ok (.getfield 105, 3) := by decide +kernel
theorem dX2_tellingForce_4 : decode cX2_tellingForce 4 = .ok (.iconst 2, 1) := by decide +kernel
theorem dX2_tellingForce_5 : decode cX2_tellingForce 5 = .ok (.if_icmp .ge 5, 3) := by decide +kernel
theorem dX2_tellingForce_8 : decode cX2_tellingForce 8 = .ok (.iconst (-1), 1) := by decide +kernel
theorem dX2_tellingForce_9 : decode cX2_tellingForce 9 = .ok (.ireturn, 1) := by decide +kernel
theorem dX2_tellingForce_10 : decode cX2_tellingForce 10 = .ok (.iconst (-1), 1) := by decide +kernel
theorem dX2_tellingForce_11 : decode cX2_tellingForce 11 = .ok (.istore_n 1, 1) := by decide +kernel
theorem dX2_tellingForce_12 : decode cX2_tellingForce 12 = .ok (.aload_n 0, 1) := by decide +kernel
theorem dX2_tellingForce_13 : decode cX2_tellingForce 13 = .ok (.getfield 105, 3) := by decide +kernel
theorem dX2_tellingForce_16 : decode cX2_tellingForce 16 = .ok (.iconst 1, 1) := by decide +kernel
theorem dX2_tellingForce_17 : decode cX2_tellingForce 17 = .ok (.iadd, 1) := by decide +kernel
theorem dX2_tellingForce_18 : decode cX2_tellingForce 18 = .ok (.istore_n 2, 1) := by decide +kernel
theorem dX2_tellingForce_19 : decode cX2_tellingForce 19 = .ok (.iconst 0, 1) := by decide +kernel
theorem dX2_tellingForce_20 : decode cX2_tellingForce 20 = .ok (.istore_n 3, 1) := by decide +kernel
theorem dX2_tellingForce_21 : decode cX2_tellingForce 21 = .ok (.iconst 0, 1) := by decide +kernel
theorem dX2_tellingForce_22 : decode cX2_tellingForce 22 = .ok (.istore 4, 2) := by decide +kernel
theorem dX2_tellingForce_24 : decode cX2_tellingForce 24 = .ok (.iload 4, 2) := by decide +kernel
theorem dX2_tellingForce_26 : decode cX2_tellingForce 26 = .ok (.bipush 100, 2) := by decide +kernel
theorem dX2_tellingForce_28 : decode cX2_tellingForce 28 = .ok (.if_icmp .ge 43, 3) := by decide +kernel
theorem dX2_tellingForce_31 : decode cX2_tellingForce 31 = .ok (.iload_n 3, 1) := by decide +kernel
theorem dX2_tellingForce_32 : decode cX2_tellingForce 32 = .ok (.aload_n 0, 1) := by decide +kernel
theorem dX2_tellingForce_33 : decode cX2_tellingForce 33 = .ok (.getfield 20, 3) := by decide +kernel
theorem dX2_tellingForce_36 : decode cX2_tellingForce 36 = .ok (.iload 4, 2) := by decide +kernel
theorem dX2_tellingForce_38 : decode cX2_tellingForce 38 = .ok (.iaload, 1) := by decide +kernel
theorem dX2_tellingForce_39 : decode cX2_tellingForce 39 = .ok (.iadd, 1) := by decide +kernel
theorem dX2_tellingForce_40 : decode cX2_tellingForce 40 = .ok (.istore_n 3, 1) := by decide +kernel
theorem dX2_tellingForce_41 : decode cX2_tellingForce 41 = .ok (.iload_n 3, 1) := by decide +kernel
theorem dX2_tellingForce_42 : decode cX2_tellingForce 42 = .ok (.aload_n 0, 1) := by decide +kernel
theorem dX2_tellingForce_43 : decode cX2_tellingForce 43 = .ok (.getfield 105, 3) := by decide +kernel
theorem dX2_tellingForce_46 : decode cX2_tellingForce 46 = .ok (.iload_n 3, 1) := by decide +kernel
theorem dX2_tellingForce_47 : decode cX2_tellingForce 47 = .ok (.isub, 1) := by decide +kernel
theorem dX2_tellingForce_48 : decode cX2_tellingForce 48 = .ok (.invokestatic 100, 3) := by decide +kernel
theorem dX2_tellingForce_51 : decode cX2_tellingForce 51 = .ok (.istore 5, 2) := by decide +kernel
theorem dX2_tellingForce_53 : decode cX2_tellingForce 53 = .ok (.iload 5, 2) := by decide +kernel
theorem dX2_tellingForce_55 : decode cX2_tellingForce 55 = .ok (.iload_n 2, 1) := by decide +kernel
theorem dX2_tellingForce_56 : decode cX2_tellingForce 56 = .ok (.if_icmp .ge 9, 3) := by decide +kernel
theorem dX2_tellingForce_59 : decode cX2_tellingForce 59 = .ok (.iload 4, 2) := by decide +kernel
theorem dX2_tellingForce_61 : decode cX2_tellingForce 61 = .ok (.istore_n 1, 1) := by decide +kernel
theorem dX2_tellingForce_62 : decode cX2_tellingForce 62 = .ok (.iload 5, 2) := by decide +kernel
theorem dX2_tellingForce_64 : decode cX2_tellingForce 64 = .ok (.istore_n 2, 1) := by decide +kernel
theorem dX2_tellingForce_65 : decode cX2_tellingForce 65 = .ok (.iinc 4 1, 3) := by decide +kernel
theorem dX2_tellingForce_68 : decode cX2_tellingForce 68 = .ok (.goto (-44), 3) := by decide +kernel
theorem dX2_tellingForce_71 : decode cX2_tellingForce 71 = .ok (.iload_n 1, 1) := by decide +kernel
theorem dX2_tellingForce_72 : decode cX2_tellingForce 72 = .ok (.ireturn, 1) := by decide +kernel
theorem dX3_init_0 : decode cX3_init 0 = .ok (.aload_n 0, 1) := by decide +kernel
theorem dX3_init_1 : decode cX3_init 1 = .ok (.invokespecial 5, 3) := by decide +kernel
theorem dX3_init_4 : decode cX3_init 4 = .ok (.aload_n 0, 1) := by decide +kernel
theorem dX3_init_5 : decode cX3_init 5 = .ok (.sipush 400, 3) := by decide +kernel
theorem dX3_init_8 : decode cX3_init 8 = .ok (.newarray .int, 2) := by decide +kernel
theorem dX3_init_10 : decode cX3_init 10 = .ok (.putfield 11, 3) := by decide +kernel
theorem dX3_init_13 : decode cX3_init 13 = .ok (.return_, 1) := by decide +kernel
theorem dX3_copyFrom_0 : decode cX3_copyFrom 0 = .ok (.aload_n 0, 1) := by decide +kernel
theorem dX3_copyFrom_1 : decode cX3_copyFrom 1 = .ok (.aload_n 1, 1) := by decide +kernel
theorem dX3_copyFrom_2 : decode cX3_copyFrom 2 = .ok (.getfield 15, 3) := by decide +kernel
theorem dX3_copyFrom_5 : decode cX3_copyFrom 5 = .ok (.putfield 15, 3) := by decide +kernel
theorem dX3_copyFrom_8 : decode cX3_copyFrom 8 = .ok (.aload_n 0, 1) := by decide +kernel
theorem dX3_copyFrom_9 : decode cX3_copyFrom 9 = .ok (.aload_n 1, 1) := by decide +kernel
theorem dX3_copyFrom_10 : decode cX3_copyFrom 10 = .ok (.getfield 19, 3) := by decide +kernel
theorem dX3_copyFrom_13 : decode cX3_copyFrom 13 = .ok (.putfield 19, 3) := by decide +kernel
theorem dX3_copyFrom_16 : decode cX3_copyFrom 16 = .ok (.aload_n 1, 1) := by decide +kernel
theorem dX3_copyFrom_17 : decode cX3_copyFrom 17 = .ok (.getfield 11, 3) := by decide +kernel
theorem dX3_copyFrom_20 : decode cX3_copyFrom 20 = .ok (.iconst 0, 1) := by decide +kernel
theorem dX3_copyFrom_21 : decode cX3_copyFrom 21 = .ok (.aload_n 0, 1) := by decide +kernel
theorem dX3_copyFrom_22 : decode cX3_copyFrom 22 = .ok (.getfield 11, 3) := by decide +kernel
theorem dX3_copyFrom_25 : decode cX3_copyFrom 25 = .ok (.iconst 0, 1) := by decide +kernel
theorem dX3_copyFrom_26 : decode cX3_copyFrom 26 = .ok (.sipush 400, 3) := by decide +kernel
theorem dX3_copyFrom_29 : decode cX3_copyFrom 29 = .ok (.invokestatic 22, 3) := by decide +kernel
theorem dX3_copyFrom_32 : decode cX3_copyFrom 32 = .ok (.return_, 1) := by decide +kernel
theorem dX3_answer_0 : decode cX3_answer 0 = .ok (.iconst 2, 1) := by decide +kernel
theorem dX3_answer_1 : decode cX3_answer 1 = .ok (.istore 4, 2) := by decide +kernel
theorem dX3_answer_3 : decode cX3_answer 3 = .ok (.iconst 0, 1) := by decide +kernel
theorem dX3_answer_4 : decode cX3_answer 4 = .ok (.istore 5, 2) := by decide +kernel
theorem dX3_answer_6 : decode cX3_answer 6 = .ok (.iload 5, 2) := by decide +kernel
theorem dX3_answer_8 : decode cX3_answer 8 = .ok (.aload_n 0, 1) := by decide +kernel
theorem dX3_answer_9 : decode cX3_answer 9 = .ok (.getfield 19, 3) := by decide +kernel
theorem dX3_answer_12 : decode cX3_answer 12 = .ok (.if_icmp .ge 335, 3) := by decide +kernel
theorem dX3_answer_15 : decode cX3_answer 15 = .ok (.iload 4, 2) := by decide +kernel
theorem dX3_answer_17 : decode cX3_answer 17 = .ok (.iconst 2, 1) := by decide +kernel
theorem dX3_answer_18 : decode cX3_answer 18 = .ok (.if_icmp .lt 10, 3) := by decide +kernel
theorem dX3_answer_21 : decode cX3_answer 21 = .ok (.iload 4, 2) := by decide +kernel
theorem dX3_answer_23 : decode cX3_answer 23 = .ok (.aload_n 2, 1) := by decide +kernel
theorem dX3_answer_24 : decode cX3_answer 24 = .ok (.arraylength, 1) := by decide +kernel
theorem dX3_answer_25 : decode cX3_answer 25 = .ok (.if_icmp .lt 5, 3) := by decide +kernel
theorem dX3_answer_28 : decode cX3_answer 28 = .ok (.iload_n 3, 1) := by decide +kernel
theorem dX3_answer_29 : decode cX3_answer 29 = .ok (.ireturn, 1) := by decide +kernel
theorem dX3_answer_30 : decode cX3_answer 30 = .ok (.aload_n 0, 1) := by decide +kernel
theorem dX3_answer_31 : decode cX3_answer 31 = .ok (.getfield 11, 3) := by decide +kernel
theorem dX3_answer_34 : decode cX3_answer 34 = .ok (.iload 5, 2) := by decide +kernel
theorem dX3_answer_36 : decode cX3_answer 36 = .ok (.iaload, 1) := by decide +kernel
theorem dX3_answer_37 : decode cX3_answer 37 = .ok (.istore 6, 2) := by decide +kernel
theorem dX3_answer_39 : decode cX3_answer 39 = .ok (.iload 6, 2) := by decide +kernel
theorem dX3_answer_41 : decode cX3_answer 41 = .ok (.ifCond .lt 15, 3) := by decide +kernel
theorem dX3_answer_44 : decode cX3_answer 44 = .ok (.aload_n 2, 1) := by decide +kernel
theorem dX3_answer_45 : decode cX3_answer 45 = .ok (.iload 4, 2) := by decide +kernel
theorem dX3_answer_47 : decode cX3_answer 47 = .ok (.iinc 4 1, 3) := by decide +kernel
theorem dX3_answer_50 : decode cX3_answer 50 = .ok (.iload 6, 2) := by decide +kernel
theorem dX3_answer_52 : decode cX3_answer 52 = .ok (.iastore, 1) := by decide +kernel
theorem dX3_answer_53 : decode cX3_answer 53 = .ok (.goto 288, 3) := by decide +kernel
theorem dX3_answer_56 : decode cX3_answer 56 = .ok (.iload 6, 2) := by decide +kernel
theorem dX3_answer_58 : decode cX3_answer 58 = .ok (.bipush (-8), 2) := by decide +kernel
theorem dX3_answer_60 : decode cX3_answer 60 = .ok (.if_icmp .lt 19, 3) := by decide +kernel
theorem dX3_answer_63 : decode cX3_answer 63 = .ok (.aload_n 2, 1) := by decide +kernel
theorem dX3_answer_64 : decode cX3_answer 64 = .ok (.iload 4, 2) := by decide +kernel
theorem dX3_answer_66 : decode cX3_answer 66 = .ok (.iinc 4 1, 3) := by decide +kernel
theorem dX3_answer_69 : decode cX3_answer 69 = .ok (.aload_n 1, 1) := by decide +kernel
theorem dX3_answer_70 : decode cX3_answer 70 = .ok (.iconst (-1), 1) := by decide +kernel
theorem dX3_answer_71 : decode cX3_answer 71 = .ok (.iload 6, 2) := by decide +kernel
theorem dX3_answer_73 : decode cX3_answer 73 = .ok (.isub, 1) := by decide +kernel
theorem dX3_answer_74 : decode cX3_answer 74 = .ok (.iaload, 1) := by decide +kernel
theorem dX3_answer_75 : decode cX3_answer 75 = .ok (.iastore, 1) := by decide +kernel
theorem dX3_answer_76 : decode cX3_answer 76 = .ok (.goto 265, 3) := by decide +kernel
theorem dX3_answer_79 : decode cX3_answer 79 = .ok (.iload 6, 2) := by decide +kernel
theorem dX3_answer_81 : decode cX3_answer 81 = .ok (.bipush (-18), 2) := by decide +kernel
theorem dX3_answer_83 : decode cX3_answer 83 = .ok (.if_icmp .ne 20, 3) := by decide +kernel
theorem dX3_answer_86 : decode cX3_answer 86 = .ok (.aload_n 2, 1) := by decide +kernel
theorem dX3_answer_87 : decode cX3_answer 87 = .ok (.iload 4, 2) := by decide +kernel
theorem dX3_answer_89 : decode cX3_answer 89 = .ok (.iconst 1, 1) := by decide +kernel
theorem dX3_answer_90 : decode cX3_answer 90 = .ok (.isub, 1) := by decide +kernel
theorem dX3_answer_91 : decode cX3_answer 91 = .ok (.iconst 1, 1) := by decide +kernel
theorem dX3_answer_92 : decode cX3_answer 92 = .ok (.aload_n 2, 1) := by decide +kernel
theorem dX3_answer_93 : decode cX3_answer 93 = .ok (.iload 4, 2) := by decide +kernel
theorem dX3_answer_95 : decode cX3_answer 95 = .ok (.iconst 1, 1) := by decide +kernel
theorem dX3_answer_96 : decode cX3_answer 96 = .ok (.isub, 1) := by decide +kernel
theorem dX3_answer_97 : decode cX3_answer 97 = .ok (.iaload, 1) := by decide +kernel
theorem dX3_answer_98 : decode cX3_answer 98 = .ok (.isub, 1) := by decide +kernel
theorem dX3_answer_99 : decode cX3_answer 99 = .ok (.iastore, 1) := by decide +kernel
theorem dX3_answer_100 : decode cX3_answer 100 = .ok (.goto 241, 3) := by decide +kernel
theorem dX3_answer_103 : decode cX3_answer 103 = .ok (.iload 6, 2) := by decide +kernel
theorem dX3_answer_105 : decode cX3_answer 105 = .ok (.bipush (-21), 2) := by decide +kernel
theorem dX3_answer_107 : decode cX3_answer 107 = .ok (.if_icmp .ne 10, 3) := by decide +kernel
theorem dX3_answer_110 : decode cX3_answer 110 = .ok (.aload_n 2, 1) := by decide +kernel
theorem dX3_answer_111 : decode cX3_answer 111 = .ok (.iload 4, 2) := by decide +kernel
theorem dX3_answer_113 : decode cX3_answer 113 = .ok (.iconst 1, 1) := by decide +kernel
theorem dX3_answer_114 : decode cX3_answer 114 = .ok (.isub, 1) := by decide +kernel
theorem dX3_answer_115 : decode cX3_answer 115 = .ok (.iaload, 1) := by decide +kernel
theorem dX3_answer_116 : decode cX3_answer 116 = .ok (.ireturn, 1) := by decide +kernel
theorem dX3_answer_117 : decode cX3_answer 117 = .ok (.iload 6, 2) := by decide +kernel
theorem dX3_answer_119 : decode cX3_answer 119 = .ok (.bipush (-22), 2) := by decide +kernel
theorem dX3_answer_121 : decode cX3_answer 121 = .ok (.if_icmp .ne 25, 3) := by decide +kernel
theorem dX3_answer_124 : decode cX3_answer 124 = .ok (.aload_n 2, 1) := by decide +kernel
theorem dX3_answer_125 : decode cX3_answer 125 = .ok (.iload 4, 2) := by decide +kernel
theorem dX3_answer_127 : decode cX3_answer 127 = .ok (.iconst 1, 1) := by decide +kernel
theorem dX3_answer_128 : decode cX3_answer 128 = .ok (.isub, 1) := by decide +kernel
theorem dX3_answer_129 : decode cX3_answer 129 = .ok (.iaload, 1) := by decide +kernel
theorem dX3_answer_130 : decode cX3_answer 130 = .ok (.ifCond .eq 10, 3) := by decide +kernel
theorem dX3_answer_133 : decode cX3_answer 133 = .ok (.aload_n 2, 1) := by decide +kernel
theorem dX3_answer_134 : decode cX3_answer 134 = .ok (.iload 4, 2) := by decide +kernel
theorem dX3_answer_136 : decode cX3_answer 136 = .ok (.iconst 2, 1) := by decide +kernel
theorem dX3_answer_137 : decode cX3_answer 137 = .ok (.isub, 1) := by decide +kernel
theorem dX3_answer_138 : decode cX3_answer 138 = .ok (.iaload, 1) := by decide +kernel
theorem dX3_answer_139 : decode cX3_answer 139 = .ok (.ireturn, 1) := by decide +kernel
theorem dX3_answer_140 : decode cX3_answer 140 = .ok (.iinc 4 (-2), 3) := by decide +kernel
theorem dX3_answer_143 : decode cX3_answer 143 = .ok (.goto 198, 3) := by decide +kernel
theorem dX3_answer_146 : decode cX3_answer 146 = .ok (.iinc 4 (-1), 3) := by decide +kernel
theorem dX3_answer_149 : decode cX3_answer 149 = .ok (.aload_n 2, 1) := by decide +kernel
theorem dX3_answer_150 : decode cX3_answer 150 = .ok (.iload 4, 2) := by decide +kernel
theorem dX3_answer_152 : decode cX3_answer 152 = .ok (.iconst 1, 1) := by decide +kernel
theorem dX3_answer_153 : decode cX3_answer 153 = .ok (.isub, 1) := by decide +kernel
theorem dX3_answer_154 : decode cX3_answer 154 = .ok (.iaload, 1) := by decide +kernel
theorem dX3_answer_155 : decode cX3_answer 155 = .ok (.istore 7, 2) := by decide +kernel
theorem dX3_answer_157 : decode cX3_answer 157 = .ok (.aload_n 2, 1) := by decide +kernel
theorem dX3_answer_158 : decode cX3_answer 158 = .ok (.iload 4, 2) := by decide +kernel
theorem dX3_answer_160 : decode cX3_answer 160 = .ok (.iaload, 1) := by decide +kernel
theorem dX3_answer_161 : decode cX3_answer 161 = .ok (.istore 8, 2) := by decide +kernel
theorem dX3_answer_163 : decode cX3_answer 163 = .ok (.iload 6, 2) := by decide +kernel
theorem dX3_answer_165 : decode cX3_answer 165 = .ok (.tableswitch 161 (-19) (-11) #[151, 161, 134, 117, 100, 81, 71, 61, 51], 51) := by decide +kernel
theorem dX3_answer_216 : decode cX3_answer 216 = .ok (.iload 7, 2) := by decide +kernel
theorem dX3_answer_218 : decode cX3_answer 218 = .ok (.iload 8, 2) := by decide +kernel
theorem dX3_answer_220 : decode cX3_answer 220 = .ok (.iadd, 1) := by decide +kernel
theorem dX3_answer_221 : decode cX3_answer 221 = .ok (.istore 7, 2) := by decide +kernel
theorem dX3_answer_223 : decode cX3_answer 223 = .ok (.goto 110, 3) := by decide +kernel
theorem dX3_answer_226 : decode cX3_answer 226 = .ok (.iload 7, 2) := by decide +kernel
theorem dX3_answer_228 : decode cX3_answer 228 = .ok (.iload 8, 2) := by decide +kernel
theorem dX3_answer_230 : decode cX3_answer 230 = .ok (.isub, 1) := by decide +kernel
theorem dX3_answer_231 : decode cX3_answer 231 = .ok (.istore 7, 2) := by decide +kernel
theorem dX3_answer_233 : decode cX3_answer 233 = .ok (.goto 100, 3) := by decide +kernel
theorem dX3_answer_236 : decode cX3_answer 236 = .ok (.iload 7, 2) := by decide +kernel
theorem dX3_answer_238 : decode cX3_answer 238 = .ok (.iload 8, 2) := by decide +kernel
theorem dX3_answer_240 : decode cX3_answer 240 = .ok (.imul, 1) := by decide +kernel
theorem dX3_answer_241 : decode cX3_answer 241 = .ok (.istore 7, 2) := by decide +kernel
theorem dX3_answer_243 : decode cX3_answer 243 = .ok (.goto 90, 3) := by decide +kernel
theorem dX3_answer_246 : decode cX3_answer 246 = .ok (.iload 8, 2) := by decide +kernel
theorem dX3_answer_248 : decode cX3_answer 248 = .ok (.ifCond .eq 11, 3) := by decide +kernel
theorem dX3_answer_251 : decode cX3_answer 251 = .ok (.iload 7, 2) := by decide +kernel
theorem dX3_answer_253 : decode cX3_answer 253 = .ok (.iload 8, 2) := by decide +kernel
theorem dX3_answer_255 : decode cX3_answer 255 = .ok (.idiv, 1) := by decide +kernel
theorem dX3_answer_256 : decode cX3_answer 256 = .ok (.goto 4, 3) := by decide +kernel
theorem dX3_answer_259 : decode cX3_answer 259 = .ok (.iconst 0, 1) := by decide +kernel
theorem dX3_answer_260 : decode cX3_answer 260 = .ok (.istore 7, 2) := by decide +kernel
theorem dX3_answer_262 : decode cX3_answer 262 = .ok (.goto 71, 3) := by decide +kernel
theorem dX3_answer_265 : decode cX3_answer 265 = .ok (.iload 7, 2) := by decide +kernel
theorem dX3_answer_267 : decode cX3_answer 267 = .ok (.iload 8, 2) := by decide +kernel
theorem dX3_answer_269 : decode cX3_answer 269 = .ok (.if_icmp .ge 7, 3) := by decide +kernel
theorem dX3_answer_272 : decode cX3_answer 272 = .ok (.iconst 1, 1) := by decide +kernel
theorem dX3_answer_273 : decode cX3_answer 273 = .ok (.goto 4, 3) := by decide +kernel
theorem dX3_answer_276 : decode cX3_answer 276 = .ok (.iconst 0, 1) := by decide +kernel
theorem dX3_answer_277 : decode cX3_answer 277 = .ok (.istore 7, 2) := by decide +kernel
theorem dX3_answer_279 : decode cX3_answer 279 = .ok (.goto 54, 3) := by decide +kernel
theorem dX3_answer_282 : decode cX3_answer 282 = .ok (.iload 7, 2) := by decide +kernel
theorem dX3_answer_284 : decode cX3_answer 284 = .ok (.iload 8, 2) := by decide +kernel
theorem dX3_answer_286 : decode cX3_answer 286 = .ok (.if_icmp .ne 7, 3) := by decide +kernel
theorem dX3_answer_289 : decode cX3_answer 289 = .ok (.iconst 1, 1) := by decide +kernel
theorem dX3_answer_290 : decode cX3_answer 290 = .ok (.goto 4, 3) := by decide +kernel
theorem dX3_answer_293 : decode cX3_answer 293 = .ok (.iconst 0, 1) := by decide +kernel
theorem dX3_answer_294 : decode cX3_answer 294 = .ok (.istore 7, 2) := by decide +kernel
theorem dX3_answer_296 : decode cX3_answer 296 = .ok (.goto 37, 3) := by decide +kernel
theorem dX3_answer_299 : decode cX3_answer 299 = .ok (.iload 7, 2) := by decide +kernel
theorem dX3_answer_301 : decode cX3_answer 301 = .ok (.iload 8, 2) := by decide +kernel
theorem dX3_answer_303 : decode cX3_answer 303 = .ok (.if_icmp .le 7, 3) := by decide +kernel
theorem dX3_answer_306 : decode cX3_answer 306 = .ok (.iconst 1, 1) := by decide +kernel
theorem dX3_answer_307 : decode cX3_answer 307 = .ok (.goto 4, 3) := by decide +kernel
theorem dX3_answer_310 : decode cX3_answer 310 = .ok (.iconst 0, 1) := by decide +kernel
theorem dX3_answer_311 : decode cX3_answer 311 = .ok (.istore 7, 2) := by decide +kernel
theorem dX3_answer_313 : decode cX3_answer 313 = .ok (.goto 20, 3) := by decide +kernel
theorem dX3_answer_316 : decode cX3_answer 316 = .ok (.iload 7, 2) := by decide +kernel
theorem dX3_answer_318 : decode cX3_answer 318 = .ok (.iload 8, 2) := by decide +kernel
theorem dX3_answer_320 : decode cX3_answer 320 = .ok (.iand, 1) := by decide +kernel
theorem dX3_answer_321 : decode cX3_answer 321 = .ok (.istore 7, 2) := by decide +kernel
theorem dX3_answer_323 : decode cX3_answer 323 = .ok (.goto 10, 3) := by decide +kernel
theorem dX3_answer_326 : decode cX3_answer 326 = .ok (.iload 7, 2) := by decide +kernel
theorem dX3_answer_328 : decode cX3_answer 328 = .ok (.iload 8, 2) := by decide +kernel
theorem dX3_answer_330 : decode cX3_answer 330 = .ok (.ior, 1) := by decide +kernel
theorem dX3_answer_331 : decode cX3_answer 331 = .ok (.istore 7, 2) := by decide +kernel
theorem dX3_answer_333 : decode cX3_answer 333 = .ok (.aload_n 2, 1) := by decide +kernel
theorem dX3_answer_334 : decode cX3_answer 334 = .ok (.iload 4, 2) := by decide +kernel
theorem dX3_answer_336 : decode cX3_answer 336 = .ok (.iconst 1, 1) := by decide +kernel
theorem dX3_answer_337 : decode cX3_answer 337 = .ok (.isub, 1) := by decide +kernel
theorem dX3_answer_338 : decode cX3_answer 338 = .ok (.iload 7, 2) := by decide +kernel
theorem dX3_answer_340 : decode cX3_answer 340 = .ok (.iastore, 1) := by decide +kernel
theorem dX3_answer_341 : decode cX3_answer 341 = .ok (.iinc 5 1, 3) := by decide +kernel
theorem dX3_answer_344 : decode cX3_answer 344 = .ok (.goto (-338), 3) := by decide +kernel
theorem dX3_answer_347 : decode cX3_answer 347 = .ok (.iload_n 3, 1) := by decide +kernel
theorem dX3_answer_348 : decode cX3_answer 348 = .ok (.ireturn, 1) := by decide +kernel
theorem dX3_readAll_0 : decode cX3_readAll 0 = .ok (.aload_n 0, 1) := by decide +kernel
theorem dX3_readAll_1 : decode cX3_readAll 1 = .ok (.iconst 0, 1) := by decide +kernel
theorem dX3_readAll_2 : decode cX3_readAll 2 = .ok (.putfield 15, 3) := by decide +kernel
theorem dX3_readAll_5 : decode cX3_readAll 5 = .ok (.aload_n 0, 1) := by decide +kernel
theorem dX3_readAll_6 : decode cX3_readAll 6 = .ok (.iconst 0, 1) := by decide +kernel
theorem dX3_readAll_7 : decode cX3_readAll 7 = .ok (.putfield 19, 3) := by decide +kernel
theorem dX3_readAll_10 : decode cX3_readAll 10 = .ok (.iconst 0, 1) := by decide +kernel
theorem dX3_readAll_11 : decode cX3_readAll 11 = .ok (.istore_n 2, 1) := by decide +kernel
theorem dX3_readAll_12 : decode cX3_readAll 12 = .ok (.iload_n 2, 1) := by decide +kernel
theorem dX3_readAll_13 : decode cX3_readAll 13 = .ok (.sipush 400, 3) := by decide +kernel
theorem dX3_readAll_16 : decode cX3_readAll 16 = .ok (.if_icmp .gt 26, 3) := by decide +kernel
theorem dX3_readAll_19 : decode cX3_readAll 19 = .ok (.aload_n 1, 1) := by decide +kernel
theorem dX3_readAll_20 : decode cX3_readAll 20 = .ok (.invokevirtual 28, 3) := by decide +kernel
theorem dX3_readAll_23 : decode cX3_readAll 23 = .ok (.ifCond .ne 19, 3) := by decide +kernel
theorem dX3_readAll_26 : decode cX3_readAll 26 = .ok (.aload_n 0, 1) := by decide +kernel
theorem dX3_readAll_27 : decode cX3_readAll 27 = .ok (.aload_n 1, 1) := by decide +kernel
theorem dX3_readAll_28 : decode cX3_readAll 28 = .ok (.invokevirtual 34, 3) := by decide +kernel
theorem dX3_readAll_31 : decode cX3_readAll 31 = .ok (.ifCond .ne 5, 3) := by decide +kernel
theorem dX3_readAll_34 : decode cX3_readAll 34 = .ok (.iconst 0, 1) := by decide +kernel
theorem dX3_readAll_35 : decode cX3_readAll 35 = .ok (.ireturn, 1) := by decide +kernel
theorem dX3_readAll_36 : decode cX3_readAll 36 = .ok (.iinc 2 1, 3) := by decide +kernel
theorem dX3_readAll_39 : decode cX3_readAll 39 = .ok (.goto (-27), 3) := by decide +kernel
theorem dX3_readAll_42 : decode cX3_readAll 42 = .ok (.iconst 1, 1) := by decide +kernel
theorem dX3_readAll_43 : decode cX3_readAll 43 = .ok (.ireturn, 1) := by decide +kernel
theorem dX3_readLine_0 : decode cX3_readLine 0 = .ok (.aload_n 1, 1) := by decide +kernel
theorem dX3_readLine_1 : decode cX3_readLine 1 = .ok (.iconst 0, 1) := by decide +kernel
theorem dX3_readLine_2 : decode cX3_readLine 2 = .ok (.invokevirtual 38, 3) := by decide +kernel
theorem dX3_readLine_5 : decode cX3_readLine 5 = .ok (.ifCond .ne 9, 3) := by decide +kernel
theorem dX3_readLine_8 : decode cX3_readLine 8 = .ok (.aload_n 1, 1) := by decide +kernel
theorem dX3_readLine_9 : decode cX3_readLine 9 = .ok (.iconst 1, 1) := by decide +kernel
theorem dX3_readLine_10 : decode cX3_readLine 10 = .ok (.invokevirtual 42, 3) := by decide +kernel
theorem dX3_readLine_13 : decode cX3_readLine 13 = .ok (.ireturn, 1) := by decide +kernel
theorem dX3_readLine_14 : decode cX3_readLine 14 = .ok (.aload_n 0, 1) := by decide +kernel
theorem dX3_readLine_15 : decode cX3_readLine 15 = .ok (.getfield 15, 3) := by decide +kernel
theorem dX3_readLine_18 : decode cX3_readLine 18 = .ok (.bipush 16, 2) := by decide +kernel
theorem dX3_readLine_20 : decode cX3_readLine 20 = .ok (.if_icmp .lt 9, 3) := by decide +kernel
theorem dX3_readLine_23 : decode cX3_readLine 23 = .ok (.aload_n 1, 1) := by decide +kernel
theorem dX3_readLine_24 : decode cX3_readLine 24 = .ok (.iconst 3, 1) := by decide +kernel
theorem dX3_readLine_25 : decode cX3_readLine 25 = .ok (.invokevirtual 42, 3) := by decide +kernel
theorem dX3_readLine_28 : decode cX3_readLine 28 = .ok (.ireturn, 1) := by decide +kernel
theorem dX3_readLine_29 : decode cX3_readLine 29 = .ok (.aload_n 1, 1) := by decide +kernel
theorem dX3_readLine_30 : decode cX3_readLine 30 = .ok (.invokevirtual 45, 3) := by decide +kernel
theorem dX3_readLine_33 : decode cX3_readLine 33 = .ok (.aload_n 0, 1) := by decide +kernel
theorem dX3_readLine_34 : decode cX3_readLine 34 = .ok (.aload_n 1, 1) := by decide +kernel
theorem dX3_readLine_35 : decode cX3_readLine 35 = .ok (.invokevirtual 48, 3) := by decide +kernel
theorem dX3_readLine_38 : decode cX3_readLine 38 = .ok (.ifCond .ne 5, 3) := by decide +kernel
theorem dX3_readLine_41 : decode cX3_readLine 41 = .ok (.iconst 0, 1) := by decide +kernel
theorem dX3_readLine_42 : decode cX3_readLine 42 = .ok (.ireturn, 1) := by decide +kernel
theorem dX3_readLine_43 : decode cX3_readLine 43 = .ok (.aload_n 1, 1) := by decide +kernel
theorem dX3_readLine_44 : decode cX3_readLine 44 = .ok (.iconst 1, 1) := by decide +kernel
theorem dX3_readLine_45 : decode cX3_readLine 45 = .ok (.invokevirtual 38, 3) := by decide +kernel
theorem dX3_readLine_48 : decode cX3_readLine 48 = .ok (.istore_n 2, 1) := by decide +kernel
theorem dX3_readLine_49 : decode cX3_readLine 49 = .ok (.iload_n 2, 1) := by decide +kernel
theorem dX3_readLine_50 : decode cX3_readLine 50 = .ok (.ifCond .eq 19, 3) := by decide +kernel
theorem dX3_readLine_53 : decode cX3_readLine 53 = .ok (.aload_n 1, 1) := by decide +kernel
theorem dX3_readLine_54 : decode cX3_readLine 54 = .ok (.invokevirtual 45, 3) := by decide +kernel
theorem dX3_readLine_57 : decode cX3_readLine 57 = .ok (.aload_n 0, 1) := by decide +kernel
theorem dX3_readLine_58 : decode cX3_readLine 58 = .ok (.aload_n 1, 1) := by decide +kernel
theorem dX3_readLine_59 : decode cX3_readLine 59 = .ok (.iconst 0, 1) := by decide +kernel
theorem dX3_readLine_60 : decode cX3_readLine 60 = .ok (.iconst 0, 1) := by decide +kernel
theorem dX3_readLine_61 : decode cX3_readLine 61 = .ok (.invokevirtual 51, 3) := by decide +kernel
theorem dX3_readLine_64 : decode cX3_readLine 64 = .ok (.ifCond .ne 5, 3) := by decide +kernel
theorem dX3_readLine_67 : decode cX3_readLine 67 = .ok (.iconst 0, 1) := by decide +kernel
theorem dX3_readLine_68 : decode cX3_readLine 68 = .ok (.ireturn, 1) := by decide +kernel
theorem dX3_readLine_69 : decode cX3_readLine 69 = .ok (.aload_n 0, 1) := by decide +kernel
theorem dX3_readLine_70 : decode cX3_readLine 70 = .ok (.dup, 1) := by decide +kernel
theorem dX3_readLine_71 : decode cX3_readLine 71 = .ok (.getfield 15, 3) := by decide +kernel
theorem dX3_readLine_74 : decode cX3_readLine 74 = .ok (.iconst 1, 1) := by decide +kernel
theorem dX3_readLine_75 : decode cX3_readLine 75 = .ok (.iadd, 1) := by decide +kernel
theorem dX3_readLine_76 : decode cX3_readLine 76 = .ok (.putfield 15, 3) := by decide +kernel
theorem dX3_readLine_79 : decode cX3_readLine 79 = .ok (.aload_n 0, 1) := by decide +kernel
theorem dX3_readLine_80 : decode cX3_readLine 80 = .ok (.iload_n 2, 1) := by decide +kernel
theorem dX3_readLine_81 : decode cX3_readLine 81 = .ok (.ifCond .eq 8, 3) := by decide +kernel
theorem dX3_readLine_84 : decode cX3_readLine 84 = .ok (.bipush (-22), 2) := by decide +kernel
theorem dX3_readLine_86 : decode cX3_readLine 86 = .ok (.goto 5, 3) := by decide +kernel
theorem dX3_readLine_89 : decode cX3_readLine 89 = .ok (.bipush (-21), 2) := by decide +kernel
theorem dX3_readLine_91 : decode cX3_readLine 91 = .ok (.invokevirtual 55, 3) := by decide +kernel
theorem dX3_readLine_94 : decode cX3_readLine 94 = .ok (.ifCond .eq 17, 3) := by decide +kernel
theorem dX3_readLine_97 : decode cX3_readLine 97 = .ok (.aload_n 1, 1) := by decide +kernel
theorem dX3_readLine_98 : decode cX3_readLine 98 = .ok (.iconst 1, 1) := by decide +kernel
theorem dX3_readLine_99 : decode cX3_readLine 99 = .ok (.bipush 59, 2) := by decide +kernel
theorem dX3_readLine_101 : decode cX3_readLine 101 = .ok (.invokevirtual 58, 3) := by decide +kernel
theorem dX3_readLine_104 : decode cX3_readLine 104 = .ok (.ifCond .eq 7, 3) := by decide +kernel
theorem dX3_readLine_107 : decode cX3_readLine 107 = .ok (.iconst 1, 1) := by decide +kernel
theorem dX3_readLine_108 : decode cX3_readLine 108 = .ok (.goto 4, 3) := by decide +kernel
theorem dX3_readLine_111 : decode cX3_readLine 111 = .ok (.iconst 0, 1) := by decide +kernel
theorem dX3_readLine_112 : decode cX3_readLine 112 = .ok (.ireturn, 1) := by decide +kernel
theorem dX3_readCheck_0 : decode cX3_readCheck 0 = .ok (.iload_n 2, 1) := by decide +kernel
theorem dX3_readCheck_1 : decode cX3_readCheck 1 = .ok (.iconst 2, 1) := by decide +kernel
theorem dX3_readCheck_2 : decode cX3_readCheck 2 = .ok (.if_icmp .ge 96, 3) := by decide +kernel
theorem dX3_readCheck_5 : decode cX3_readCheck 5 = .ok (.aload_n 0, 1) := by decide +kernel
theorem dX3_readCheck_6 : decode cX3_readCheck 6 = .ok (.aload_n 1, 1) := by decide +kernel
theorem dX3_readCheck_7 : decode cX3_readCheck 7 = .ok (.iload_n 2, 1) := by decide +kernel
theorem dX3_readCheck_8 : decode cX3_readCheck 8 = .ok (.iconst 1, 1) := by decide +kernel
theorem dX3_readCheck_9 : decode cX3_readCheck 9 = .ok (.iadd, 1) := by decide +kernel
theorem dX3_readCheck_10 : decode cX3_readCheck 10 = .ok (.iload_n 3, 1) := by decide +kernel
theorem dX3_readCheck_11 : decode cX3_readCheck 11 = .ok (.invokevirtual 51, 3) := by decide +kernel
theorem dX3_readCheck_14 : decode cX3_readCheck 14 = .ok (.istore 4, 2) := by decide +kernel
theorem dX3_readCheck_16 : decode cX3_readCheck 16 = .ok (.iconst 0, 1) := by decide +kernel
theorem dX3_readCheck_17 : decode cX3_readCheck 17 = .ok (.istore 5, 2) := by decide +kernel
theorem dX3_readCheck_19 : decode cX3_readCheck 19 = .ok (.iload 5, 2) := by decide +kernel
theorem dX3_readCheck_21 : decode cX3_readCheck 21 = .ok (.sipush 400, 3) := by decide +kernel
theorem dX3_readCheck_24 : decode cX3_readCheck 24 = .ok (.if_icmp .ge 71, 3) := by decide +kernel
theorem dX3_readCheck_27 : decode cX3_readCheck 27 = .ok (.iload 4, 2) := by decide +kernel
theorem dX3_readCheck_29 : decode cX3_readCheck 29 = .ok (.ifCond .eq 66, 3) := by decide +kernel
theorem dX3_readCheck_32 : decode cX3_readCheck 32 = .ok (.aload_n 1, 1) := by decide +kernel
theorem dX3_readCheck_33 : decode cX3_readCheck 33 = .ok (.iload_n 2, 1) := by decide +kernel
theorem dX3_readCheck_34 : decode cX3_readCheck 34 = .ok (.ifCond .ne 7, 3) := by decide +kernel
theorem dX3_readCheck_37 : decode cX3_readCheck 37 = .ok (.iconst 2, 1) := by decide +kernel
theorem dX3_readCheck_38 : decode cX3_readCheck 38 = .ok (.goto 4, 3) := by decide +kernel
theorem dX3_readCheck_41 : decode cX3_readCheck 41 = .ok (.iconst 3, 1) := by decide +kernel
theorem dX3_readCheck_42 : decode cX3_readCheck 42 = .ok (.invokevirtual 38, 3) := by decide +kernel
theorem dX3_readCheck_45 : decode cX3_readCheck 45 = .ok (.ifCond .eq 50, 3) := by decide +kernel
theorem dX3_readCheck_48 : decode cX3_readCheck 48 = .ok (.aload_n 1, 1) := by decide +kernel
theorem dX3_readCheck_49 : decode cX3_readCheck 49 = .ok (.invokevirtual 45, 3) := by decide +kernel
theorem dX3_readCheck_52 : decode cX3_readCheck 52 = .ok (.aload_n 0, 1) := by decide +kernel
theorem dX3_readCheck_53 : decode cX3_readCheck 53 = .ok (.aload_n 1, 1) := by decide +kernel
theorem dX3_readCheck_54 : decode cX3_readCheck 54 = .ok (.iload_n 2, 1) := by decide +kernel
theorem dX3_readCheck_55 : decode cX3_readCheck 55 = .ok (.iconst 1, 1) := by decide +kernel
theorem dX3_readCheck_56 : decode cX3_readCheck 56 = .ok (.iadd, 1) := by decide +kernel
theorem dX3_readCheck_57 : decode cX3_readCheck 57 = .ok (.iload_n 3, 1) := by decide +kernel
theorem dX3_readCheck_58 : decode cX3_readCheck 58 = .ok (.invokevirtual 51, 3) := by decide +kernel
theorem dX3_readCheck_61 : decode cX3_readCheck 61 = .ok (.ifCond .eq 25, 3) := by decide +kernel
theorem dX3_readCheck_64 : decode cX3_readCheck 64 = .ok (.aload_n 0, 1) := by decide +kernel
theorem dX3_readCheck_65 : decode cX3_readCheck 65 = .ok (.iload_n 2, 1) := by decide +kernel
theorem dX3_readCheck_66 : decode cX3_readCheck 66 = .ok (.ifCond .ne 8, 3) := by decide +kernel
theorem dX3_readCheck_69 : decode cX3_readCheck 69 = .ok (.bipush (-20), 2) := by decide +kernel
theorem dX3_readCheck_71 : decode cX3_readCheck 71 = .ok (.goto 5, 3) := by decide +kernel
theorem dX3_readCheck_74 : decode cX3_readCheck 74 = .ok (.bipush (-19), 2) := by decide +kernel
theorem dX3_readCheck_76 : decode cX3_readCheck 76 = .ok (.invokevirtual 55, 3) := by decide +kernel
theorem dX3_readCheck_79 : decode cX3_readCheck 79 = .ok (.ifCond .eq 7, 3) := by decide +kernel
theorem dX3_readCheck_82 : decode cX3_readCheck 82 = .ok (.iconst 1, 1) := by decide +kernel
theorem dX3_readCheck_83 : decode cX3_readCheck 83 = .ok (.goto 4, 3) := by decide +kernel
theorem dX3_readCheck_86 : decode cX3_readCheck 86 = .ok (.iconst 0, 1) := by decide +kernel
theorem dX3_readCheck_87 : decode cX3_readCheck 87 = .ok (.istore 4, 2) := by decide +kernel
theorem dX3_readCheck_89 : decode cX3_readCheck 89 = .ok (.iinc 5 1, 3) := by decide +kernel
theorem dX3_readCheck_92 : decode cX3_readCheck 92 = .ok (.goto (-73), 3) := by decide +kernel
theorem dX3_readCheck_95 : decode cX3_readCheck 95 = .ok (.iload 4, 2) := by decide +kernel
theorem dX3_readCheck_97 : decode cX3_readCheck 97 = .ok (.ireturn, 1) := by decide +kernel
theorem dX3_readCheck_98 : decode cX3_readCheck 98 = .ok (.aload_n 1, 1) := by decide +kernel
theorem dX3_readCheck_99 : decode cX3_readCheck 99 = .ok (.iconst 4, 1) := by decide +kernel
theorem dX3_readCheck_100 : decode cX3_readCheck 100 = .ok (.invokevirtual 38, 3) := by decide +kernel
theorem dX3_readCheck_103 : decode cX3_readCheck 103 = .ok (.istore 4, 2) := by decide +kernel
theorem dX3_readCheck_105 : decode cX3_readCheck 105 = .ok (.iload 4, 2) := by decide +kernel
theorem dX3_readCheck_107 : decode cX3_readCheck 107 = .ok (.ifCond .ne 12, 3) := by decide +kernel
theorem dX3_readCheck_110 : decode cX3_readCheck 110 = .ok (.aload_n 1, 1) := by decide +kernel
theorem dX3_readCheck_111 : decode cX3_readCheck 111 = .ok (.bipush 40, 2) := by decide +kernel
theorem dX3_readCheck_113 : decode cX3_readCheck 113 = .ok (.invokevirtual 62, 3) := by decide +kernel
theorem dX3_readCheck_116 : decode cX3_readCheck 116 = .ok (.ifCond .eq 79, 3) := by decide +kernel
theorem dX3_readCheck_119 : decode cX3_readCheck 119 = .ok (.iload_n 3, 1) := by decide +kernel
theorem dX3_readCheck_120 : decode cX3_readCheck 120 = .ok (.bipush 8, 2) := by decide +kernel
theorem dX3_readCheck_122 : decode cX3_readCheck 122 = .ok (.if_icmp .lt 9, 3) := by decide +kernel
theorem dX3_readCheck_125 : decode cX3_readCheck 125 = .ok (.aload_n 1, 1) := by decide +kernel
theorem dX3_readCheck_126 : decode cX3_readCheck 126 = .ok (.iconst 3, 1) := by decide +kernel
theorem dX3_readCheck_127 : decode cX3_readCheck 127 = .ok (.invokevirtual 42, 3) := by decide +kernel
theorem dX3_readCheck_130 : decode cX3_readCheck 130 = .ok (.ireturn, 1) := by decide +kernel
theorem dX3_readCheck_131 : decode cX3_readCheck 131 = .ok (.aload_n 1, 1) := by decide +kernel
theorem dX3_readCheck_132 : decode cX3_readCheck 132 = .ok (.invokevirtual 45, 3) := by decide +kernel
theorem dX3_readCheck_135 : decode cX3_readCheck 135 = .ok (.iload 4, 2) := by decide +kernel
theorem dX3_readCheck_137 : decode cX3_readCheck 137 = .ok (.ifCond .eq 30, 3) := by decide +kernel
theorem dX3_readCheck_140 : decode cX3_readCheck 140 = .ok (.aload_n 0, 1) := by decide +kernel
theorem dX3_readCheck_141 : decode cX3_readCheck 141 = .ok (.aload_n 1, 1) := by decide +kernel
theorem dX3_readCheck_142 : decode cX3_readCheck 142 = .ok (.iconst 2, 1) := by decide +kernel
theorem dX3_readCheck_143 : decode cX3_readCheck 143 = .ok (.iload_n 3, 1) := by decide +kernel
theorem dX3_readCheck_144 : decode cX3_readCheck 144 = .ok (.iconst 1, 1) := by decide +kernel
theorem dX3_readCheck_145 : decode cX3_readCheck 145 = .ok (.iadd, 1) := by decide +kernel
theorem dX3_readCheck_146 : decode cX3_readCheck 146 = .ok (.invokevirtual 51, 3) := by decide +kernel
theorem dX3_readCheck_149 : decode cX3_readCheck 149 = .ok (.ifCond .eq 16, 3) := by decide +kernel
theorem dX3_readCheck_152 : decode cX3_readCheck 152 = .ok (.aload_n 0, 1) := by decide +kernel
theorem dX3_readCheck_153 : decode cX3_readCheck 153 = .ok (.bipush (-18), 2) := by decide +kernel
theorem dX3_readCheck_155 : decode cX3_readCheck 155 = .ok (.invokevirtual 55, 3) := by decide +kernel
theorem dX3_readCheck_158 : decode cX3_readCheck 158 = .ok (.ifCond .eq 7, 3) := by decide +kernel
theorem dX3_readCheck_161 : decode cX3_readCheck 161 = .ok (.iconst 1, 1) := by decide +kernel
theorem dX3_readCheck_162 : decode cX3_readCheck 162 = .ok (.goto 4, 3) := by decide +kernel
theorem dX3_readCheck_165 : decode cX3_readCheck 165 = .ok (.iconst 0, 1) := by decide +kernel
theorem dX3_readCheck_166 : decode cX3_readCheck 166 = .ok (.ireturn, 1) := by decide +kernel
theorem dX3_readCheck_167 : decode cX3_readCheck 167 = .ok (.aload_n 0, 1) := by decide +kernel
theorem dX3_readCheck_168 : decode cX3_readCheck 168 = .ok (.aload_n 1, 1) := by decide +kernel
theorem dX3_readCheck_169 : decode cX3_readCheck 169 = .ok (.iconst 0, 1) := by decide +kernel
theorem dX3_readCheck_170 : decode cX3_readCheck 170 = .ok (.iload_n 3, 1) := by decide +kernel
theorem dX3_readCheck_171 : decode cX3_readCheck 171 = .ok (.iconst 1, 1) := by decide +kernel
theorem dX3_readCheck_172 : decode cX3_readCheck 172 = .ok (.iadd, 1) := by decide +kernel
theorem dX3_readCheck_173 : decode cX3_readCheck 173 = .ok (.invokevirtual 51, 3) := by decide +kernel
theorem dX3_readCheck_176 : decode cX3_readCheck 176 = .ok (.ifCond .eq 17, 3) := by decide +kernel
theorem dX3_readCheck_179 : decode cX3_readCheck 179 = .ok (.aload_n 1, 1) := by decide +kernel
theorem dX3_readCheck_180 : decode cX3_readCheck 180 = .ok (.iconst 1, 1) := by decide +kernel
theorem dX3_readCheck_181 : decode cX3_readCheck 181 = .ok (.bipush 41, 2) := by decide +kernel
theorem dX3_readCheck_183 : decode cX3_readCheck 183 = .ok (.invokevirtual 58, 3) := by decide +kernel
theorem dX3_readCheck_186 : decode cX3_readCheck 186 = .ok (.ifCond .eq 7, 3) := by decide +kernel
theorem dX3_readCheck_189 : decode cX3_readCheck 189 = .ok (.iconst 1, 1) := by decide +kernel
theorem dX3_readCheck_190 : decode cX3_readCheck 190 = .ok (.goto 4, 3) := by decide +kernel
theorem dX3_readCheck_193 : decode cX3_readCheck 193 = .ok (.iconst 0, 1) := by decide +kernel
theorem dX3_readCheck_194 : decode cX3_readCheck 194 = .ok (.ireturn, 1) := by decide +kernel
theorem dX3_readCheck_195 : decode cX3_readCheck 195 = .ok (.aload_n 0, 1) := by decide +kernel
theorem dX3_readCheck_196 : decode cX3_readCheck 196 = .ok (.aload_n 1, 1) := by decide +kernel
theorem dX3_readCheck_197 : decode cX3_readCheck 197 = .ok (.invokevirtual 48, 3) := by decide +kernel
theorem dX3_readCheck_200 : decode cX3_readCheck 200 = .ok (.ifCond .ne 5, 3) := by decide +kernel
theorem dX3_readCheck_203 : decode cX3_readCheck 203 = .ok (.iconst 0, 1) := by decide +kernel
theorem dX3_readCheck_204 : decode cX3_readCheck 204 = .ok (.ireturn, 1) := by decide +kernel
theorem dX3_readCheck_205 : decode cX3_readCheck 205 = .ok (.aload_n 1, 1) := by decide +kernel
theorem dX3_readCheck_206 : decode cX3_readCheck 206 = .ok (.bipush 60, 2) := by decide +kernel
theorem dX3_readCheck_208 : decode cX3_readCheck 208 = .ok (.invokevirtual 62, 3) := by decide +kernel
theorem dX3_readCheck_211 : decode cX3_readCheck 211 = .ok (.ifCond .eq 8, 3) := by decide +kernel
theorem dX3_readCheck_214 : decode cX3_readCheck 214 = .ok (.bipush (-15), 2) := by decide +kernel
theorem dX3_readCheck_216 : decode cX3_readCheck 216 = .ok (.goto 32, 3) := by decide +kernel
theorem dX3_readCheck_219 : decode cX3_readCheck 219 = .ok (.aload_n 1, 1) := by decide +kernel
theorem dX3_readCheck_220 : decode cX3_readCheck 220 = .ok (.bipush 61, 2) := by decide +kernel
theorem dX3_readCheck_222 : decode cX3_readCheck 222 = .ok (.invokevirtual 62, 3) := by decide +kernel
theorem dX3_readCheck_225 : decode cX3_readCheck 225 = .ok (.ifCond .eq 8, 3) := by decide +kernel
theorem dX3_readCheck_228 : decode cX3_readCheck 228 = .ok (.bipush (-16), 2) := by decide +kernel
theorem dX3_readCheck_230 : decode cX3_readCheck 230 = .ok (.goto 18, 3) := by decide +kernel
theorem dX3_readCheck_233 : decode cX3_readCheck 233 = .ok (.aload_n 1, 1) := by decide +kernel
theorem dX3_readCheck_234 : decode cX3_readCheck 234 = .ok (.bipush 62, 2) := by decide +kernel
theorem dX3_readCheck_236 : decode cX3_readCheck 236 = .ok (.invokevirtual 62, 3) := by decide +kernel
theorem dX3_readCheck_239 : decode cX3_readCheck 239 = .ok (.ifCond .eq 8, 3) := by decide +kernel
theorem dX3_readCheck_242 : decode cX3_readCheck 242 = .ok (.bipush (-17), 2) := by decide +kernel
theorem dX3_readCheck_244 : decode cX3_readCheck 244 = .ok (.goto 4, 3) := by decide +kernel
theorem dX3_readCheck_247 : decode cX3_readCheck 247 = .ok (.iconst 0, 1) := by decide +kernel
theorem dX3_readCheck_248 : decode cX3_readCheck 248 = .ok (.istore 5, 2) := by decide +kernel
theorem dX3_readCheck_250 : decode cX3_readCheck 250 = .ok (.iload 5, 2) := by decide +kernel
theorem dX3_readCheck_252 : decode cX3_readCheck 252 = .ok (.ifCond .ne 9, 3) := by decide +kernel
theorem dX3_readCheck_255 : decode cX3_readCheck 255 = .ok (.aload_n 1, 1) := by decide +kernel
theorem dX3_readCheck_256 : decode cX3_readCheck 256 = .ok (.iconst 1, 1) := by decide +kernel
theorem dX3_readCheck_257 : decode cX3_readCheck 257 = .ok (.invokevirtual 42, 3) := by decide +kernel
theorem dX3_readCheck_260 : decode cX3_readCheck 260 = .ok (.ireturn, 1) := by decide +kernel
theorem dX3_readCheck_261 : decode cX3_readCheck 261 = .ok (.aload_n 1, 1) := by decide +kernel
theorem dX3_readCheck_262 : decode cX3_readCheck 262 = .ok (.invokevirtual 45, 3) := by decide +kernel
theorem dX3_readCheck_265 : decode cX3_readCheck 265 = .ok (.aload_n 0, 1) := by decide +kernel
theorem dX3_readCheck_266 : decode cX3_readCheck 266 = .ok (.aload_n 1, 1) := by decide +kernel
theorem dX3_readCheck_267 : decode cX3_readCheck 267 = .ok (.invokevirtual 48, 3) := by decide +kernel
theorem dX3_readCheck_270 : decode cX3_readCheck 270 = .ok (.ifCond .eq 16, 3) := by decide +kernel
theorem dX3_readCheck_273 : decode cX3_readCheck 273 = .ok (.aload_n 0, 1) := by decide +kernel
theorem dX3_readCheck_274 : decode cX3_readCheck 274 = .ok (.iload 5, 2) := by decide +kernel
theorem dX3_readCheck_276 : decode cX3_readCheck 276 = .ok (.invokevirtual 55, 3) := by decide +kernel
theorem dX3_readCheck_279 : decode cX3_readCheck 279 = .ok (.ifCond .eq 7, 3) := by decide +kernel
theorem dX3_readCheck_282 : decode cX3_readCheck 282 = .ok (.iconst 1, 1) := by decide +kernel
theorem dX3_readCheck_283 : decode cX3_readCheck 283 = .ok (.goto 4, 3) := by decide +kernel
theorem dX3_readCheck_286 : decode cX3_readCheck 286 = .ok (.iconst 0, 1) := by decide +kernel
theorem dX3_readCheck_287 : decode cX3_readCheck 287 = .ok (.ireturn, 1) := by decide +kernel
theorem dX3_readSum_0 : decode cX3_readSum 0 = .ok (.aload_n 0, 1) := by decide +kernel
theorem dX3_readSum_1 : decode cX3_readSum 1 = .ok (.aload_n 1, 1) := by decide +kernel
theorem dX3_readSum_2 : decode cX3_readSum 2 = .ok (.invokevirtual 65, 3) := by decide +kernel
theorem dX3_readSum_5 : decode cX3_readSum 5 = .ok (.istore_n 2, 1) := by decide +kernel
theorem dX3_readSum_6 : decode cX3_readSum 6 = .ok (.iconst 0, 1) := by decide +kernel
theorem dX3_readSum_7 : decode cX3_readSum 7 = .ok (.istore_n 3, 1) := by decide +kernel
theorem dX3_readSum_8 : decode cX3_readSum 8 = .ok (.iload_n 3, 1) := by decide +kernel
theorem dX3_readSum_9 : decode cX3_readSum 9 = .ok (.sipush 400, 3) := by decide +kernel
theorem dX3_readSum_12 : decode cX3_readSum 12 = .ok (.if_icmp .ge 76, 3) := by decide +kernel
theorem dX3_readSum_15 : decode cX3_readSum 15 = .ok (.iload_n 2, 1) := by decide +kernel
theorem dX3_readSum_16 : decode cX3_readSum 16 = .ok (.ifCond .eq 72, 3) := by decide +kernel
theorem dX3_readSum_19 : decode cX3_readSum 19 = .ok (.aload_n 1, 1) := by decide +kernel
theorem dX3_readSum_20 : decode cX3_readSum 20 = .ok (.bipush 43, 2) := by decide +kernel
theorem dX3_readSum_22 : decode cX3_readSum 22 = .ok (.invokevirtual 62, 3) := by decide +kernel
theorem dX3_readSum_25 : decode cX3_readSum 25 = .ok (.ifCond .ne 12, 3) := by decide +kernel
theorem dX3_readSum_28 : decode cX3_readSum 28 = .ok (.aload_n 1, 1) := by decide +kernel
theorem dX3_readSum_29 : decode cX3_readSum 29 = .ok (.bipush 45, 2) := by decide +kernel
theorem dX3_readSum_31 : decode cX3_readSum 31 = .ok (.invokevirtual 62, 3) := by decide +kernel
theorem dX3_readSum_34 : decode cX3_readSum 34 = .ok (.ifCond .eq 54, 3) := by decide +kernel
theorem dX3_readSum_37 : decode cX3_readSum 37 = .ok (.aload_n 1, 1) := by decide +kernel
theorem dX3_readSum_38 : decode cX3_readSum 38 = .ok (.bipush 43, 2) := by decide +kernel
theorem dX3_readSum_40 : decode cX3_readSum 40 = .ok (.invokevirtual 62, 3) := by decide +kernel
theorem dX3_readSum_43 : decode cX3_readSum 43 = .ok (.ifCond .eq 8, 3) := by decide +kernel
theorem dX3_readSum_46 : decode cX3_readSum 46 = .ok (.bipush (-11), 2) := by decide +kernel
theorem dX3_readSum_48 : decode cX3_readSum 48 = .ok (.goto 5, 3) := by decide +kernel
theorem dX3_readSum_51 : decode cX3_readSum 51 = .ok (.bipush (-12), 2) := by decide +kernel
theorem dX3_readSum_53 : decode cX3_readSum 53 = .ok (.istore 4, 2) := by decide +kernel
theorem dX3_readSum_55 : decode cX3_readSum 55 = .ok (.aload_n 1, 1) := by decide +kernel
theorem dX3_readSum_56 : decode cX3_readSum 56 = .ok (.invokevirtual 45, 3) := by decide +kernel
theorem dX3_readSum_59 : decode cX3_readSum 59 = .ok (.aload_n 0, 1) := by decide +kernel
theorem dX3_readSum_60 : decode cX3_readSum 60 = .ok (.aload_n 1, 1) := by decide +kernel
theorem dX3_readSum_61 : decode cX3_readSum 61 = .ok (.invokevirtual 65, 3) := by decide +kernel
theorem dX3_readSum_64 : decode cX3_readSum 64 = .ok (.ifCond .eq 16, 3) := by decide +kernel
theorem dX3_readSum_67 : decode cX3_readSum 67 = .ok (.aload_n 0, 1) := by decide +kernel
theorem dX3_readSum_68 : decode cX3_readSum 68 = .ok (.iload 4, 2) := by decide +kernel
theorem dX3_readSum_70 : decode cX3_readSum 70 = .ok (.invokevirtual 55, 3) := by decide +kernel
theorem dX3_readSum_73 : decode cX3_readSum 73 = .ok (.ifCond .eq 7, 3) := by decide +kernel
theorem dX3_readSum_76 : decode cX3_readSum 76 = .ok (.iconst 1, 1) := by decide +kernel
theorem dX3_readSum_77 : decode cX3_readSum 77 = .ok (.goto 4, 3) := by decide +kernel
theorem dX3_readSum_80 : decode cX3_readSum 80 = .ok (.iconst 0, 1) := by decide +kernel
theorem dX3_readSum_81 : decode cX3_readSum 81 = .ok (.istore_n 2, 1) := by decide +kernel
theorem dX3_readSum_82 : decode cX3_readSum 82 = .ok (.iinc 3 1, 3) := by decide +kernel
theorem dX3_readSum_85 : decode cX3_readSum 85 = .ok (.goto (-77), 3) := by decide +kernel
theorem dX3_readSum_88 : decode cX3_readSum 88 = .ok (.iload_n 2, 1) := by decide +kernel
theorem dX3_readSum_89 : decode cX3_readSum 89 = .ok (.ireturn, 1) := by decide +kernel
theorem dX3_readProduct_0 : decode cX3_readProduct 0 = .ok (.aload_n 0, 1) := by decide +kernel
theorem dX3_readProduct_1 : decode cX3_readProduct 1 = .ok (.aload_n 1, 1) := by decide +kernel
theorem dX3_readProduct_2 : decode cX3_readProduct 2 = .ok (.invokevirtual 68, 3) := by decide +kernel
theorem dX3_readProduct_5 : decode cX3_readProduct 5 = .ok (.istore_n 2, 1) := by decide +kernel
theorem dX3_readProduct_6 : decode cX3_readProduct 6 = .ok (.iconst 0, 1) := by decide +kernel
theorem dX3_readProduct_7 : decode cX3_readProduct 7 = .ok (.istore_n 3, 1) := by decide +kernel
theorem dX3_readProduct_8 : decode cX3_readProduct 8 = .ok (.iload_n 3, 1) := by decide +kernel
theorem dX3_readProduct_9 : decode cX3_readProduct 9 = .ok (.sipush 400, 3) := by decide +kernel
theorem dX3_readProduct_12 : decode cX3_readProduct 12 = .ok (.if_icmp .ge 119, 3) := by decide +kernel
theorem dX3_readProduct_15 : decode cX3_readProduct 15 = .ok (.iload_n 2, 1) := by decide +kernel
theorem dX3_readProduct_16 : decode cX3_readProduct 16 = .ok (.ifCond .eq 115, 3) := by decide +kernel
theorem dX3_readProduct_19 : decode cX3_readProduct 19 = .ok (.aload_n 1, 1) := by decide +kernel
theorem dX3_readProduct_20 : decode cX3_readProduct 20 = .ok (.bipush 42, 2) := by decide +kernel
theorem dX3_readProduct_22 : decode cX3_readProduct 22 = .ok (.invokevirtual 62, 3) := by decide +kernel
theorem dX3_readProduct_25 : decode cX3_readProduct 25 = .ok (.ifCond .ne 12, 3) := by decide +kernel
theorem dX3_readProduct_28 : decode cX3_readProduct 28 = .ok (.aload_n 1, 1) := by decide +kernel
theorem dX3_readProduct_29 : decode cX3_readProduct 29 = .ok (.bipush 47, 2) := by decide +kernel
theorem dX3_readProduct_31 : decode cX3_readProduct 31 = .ok (.invokevirtual 62, 3) := by decide +kernel
theorem dX3_readProduct_34 : decode cX3_readProduct 34 = .ok (.ifCond .eq 97, 3) := by decide +kernel
theorem dX3_readProduct_37 : decode cX3_readProduct 37 = .ok (.aload_n 1, 1) := by decide +kernel
theorem dX3_readProduct_38 : decode cX3_readProduct 38 = .ok (.bipush 47, 2) := by decide +kernel
theorem dX3_readProduct_40 : decode cX3_readProduct 40 = .ok (.invokevirtual 62, 3) := by decide +kernel
theorem dX3_readProduct_43 : decode cX3_readProduct 43 = .ok (.istore 4, 2) := by decide +kernel
theorem dX3_readProduct_45 : decode cX3_readProduct 45 = .ok (.aload_n 1, 1) := by decide +kernel
theorem dX3_readProduct_46 : decode cX3_readProduct 46 = .ok (.invokevirtual 45, 3) := by decide +kernel
theorem dX3_readProduct_49 : decode cX3_readProduct 49 = .ok (.iload 4, 2) := by decide +kernel
theorem dX3_readProduct_51 : decode cX3_readProduct 51 = .ok (.ifCond .eq 23, 3) := by decide +kernel
theorem dX3_readProduct_54 : decode cX3_readProduct 54 = .ok (.aload_n 1, 1) := by decide +kernel
theorem dX3_readProduct_55 : decode cX3_readProduct 55 = .ok (.invokevirtual 71, 3) := by decide +kernel
theorem dX3_readProduct_58 : decode cX3_readProduct 58 = .ok (.ifCond .eq 16, 3) := by decide +kernel
theorem dX3_readProduct_61 : decode cX3_readProduct 61 = .ok (.aload_n 1, 1) := by decide +kernel
theorem dX3_readProduct_62 : decode cX3_readProduct 62 = .ok (.invokevirtual 74, 3) := by decide +kernel
theorem dX3_readProduct_65 : decode cX3_readProduct 65 = .ok (.ifCond .ne 9, 3) := by decide +kernel
theorem dX3_readProduct_68 : decode cX3_readProduct 68 = .ok (.aload_n 1, 1) := by decide +kernel
theorem dX3_readProduct_69 : decode cX3_readProduct 69 = .ok (.iconst 2, 1) := by decide +kernel
theorem dX3_readProduct_70 : decode cX3_readProduct 70 = .ok (.invokevirtual 42, 3) := by decide +kernel
theorem dX3_readProduct_73 : decode cX3_readProduct 73 = .ok (.ireturn, 1) := by decide +kernel
theorem dX3_readProduct_74 : decode cX3_readProduct 74 = .ok (.iload 4, 2) := by decide +kernel
theorem dX3_readProduct_76 : decode cX3_readProduct 76 = .ok (.ifCond .eq 16, 3) := by decide +kernel
theorem dX3_readProduct_79 : decode cX3_readProduct 79 = .ok (.aload_n 1, 1) := by decide +kernel
theorem dX3_readProduct_80 : decode cX3_readProduct 80 = .ok (.invokevirtual 71, 3) := by decide +kernel
theorem dX3_readProduct_83 : decode cX3_readProduct 83 = .ok (.ifCond .ne 9, 3) := by decide +kernel
theorem dX3_readProduct_86 : decode cX3_readProduct 86 = .ok (.aload_n 1, 1) := by decide +kernel
theorem dX3_readProduct_87 : decode cX3_readProduct 87 = .ok (.iconst 1, 1) := by decide +kernel
theorem dX3_readProduct_88 : decode cX3_readProduct 88 = .ok (.invokevirtual 42, 3) := by decide +kernel
theorem dX3_readProduct_91 : decode cX3_readProduct 91 = .ok (.ireturn, 1) := by decide +kernel
theorem dX3_readProduct_92 : decode cX3_readProduct 92 = .ok (.aload_n 0, 1) := by decide +kernel
theorem dX3_readProduct_93 : decode cX3_readProduct 93 = .ok (.aload_n 1, 1) := by decide +kernel
theorem dX3_readProduct_94 : decode cX3_readProduct 94 = .ok (.invokevirtual 68, 3) := by decide +kernel
theorem dX3_readProduct_97 : decode cX3_readProduct 97 = .ok (.ifCond .eq 26, 3) := by decide +kernel
theorem dX3_readProduct_100 : decode cX3_readProduct 100 = .ok (.aload_n 0, 1) := by decide +kernel
theorem dX3_readProduct_101 : decode cX3_readProduct 101 = .ok (.iload 4, 2) := by decide +kernel
theorem dX3_readProduct_103 : decode cX3_readProduct 103 = .ok (.ifCond .eq 8, 3) := by decide +kernel
theorem dX3_readProduct_106 : decode cX3_readProduct 106 = .ok (.bipush (-14), 2) := by decide +kernel
theorem dX3_readProduct_108 : decode cX3_readProduct 108 = .ok (.goto 5, 3) := by decide +kernel
theorem dX3_readProduct_111 : decode cX3_readProduct 111 = .ok (.bipush (-13), 2) := by decide +kernel
theorem dX3_readProduct_113 : decode cX3_readProduct 113 = .ok (.invokevirtual 55, 3) := by decide +kernel
theorem dX3_readProduct_116 : decode cX3_readProduct 116 = .ok (.ifCond .eq 7, 3) := by decide +kernel
theorem dX3_readProduct_119 : decode cX3_readProduct 119 = .ok (.iconst 1, 1) := by decide +kernel
theorem dX3_readProduct_120 : decode cX3_readProduct 120 = .ok (.goto 4, 3) := by decide +kernel
theorem dX3_readProduct_123 : decode cX3_readProduct 123 = .ok (.iconst 0, 1) := by decide +kernel
theorem dX3_readProduct_124 : decode cX3_readProduct 124 = .ok (.istore_n 2, 1) := by decide +kernel
theorem dX3_readProduct_125 : decode cX3_readProduct 125 = .ok (.iinc 3 1, 3) := by decide +kernel
theorem dX3_readProduct_128 : decode cX3_readProduct 128 = .ok (.goto (-120), 3) := by decide +kernel
theorem dX3_readProduct_131 : decode cX3_readProduct 131 = .ok (.iload_n 2, 1) := by decide +kernel
theorem dX3_readProduct_132 : decode cX3_readProduct 132 = .ok (.ireturn, 1) := by decide +kernel
theorem dX3_readUnit_0 : decode cX3_readUnit 0 = .ok (.aload_n 1, 1) := by decide +kernel
theorem dX3_readUnit_1 : decode cX3_readUnit 1 = .ok (.invokevirtual 74, 3) := by decide +kernel
theorem dX3_readUnit_4 : decode cX3_readUnit 4 = .ok (.istore_n 2, 1) := by decide +kernel
theorem dX3_readUnit_5 : decode cX3_readUnit 5 = .ok (.aload_n 1, 1) := by decide +kernel
theorem dX3_readUnit_6 : decode cX3_readUnit 6 = .ok (.iconst 5, 1) := by decide +kernel
theorem dX3_readUnit_7 : decode cX3_readUnit 7 = .ok (.invokevirtual 78, 3) := by decide +kernel
theorem dX3_readUnit_10 : decode cX3_readUnit 10 = .ok (.ifCond .eq 10, 3) := by decide +kernel
theorem dX3_readUnit_13 : decode cX3_readUnit 13 = .ok (.iconst 4, 1) := by decide +kernel
theorem dX3_readUnit_14 : decode cX3_readUnit 14 = .ok (.iload_n 2, 1) := by decide +kernel
theorem dX3_readUnit_15 : decode cX3_readUnit 15 = .ok (.isub, 1) := by decide +kernel
theorem dX3_readUnit_16 : decode cX3_readUnit 16 = .ok (.istore_n 2, 1) := by decide +kernel
theorem dX3_readUnit_17 : decode cX3_readUnit 17 = .ok (.goto 16, 3) := by decide +kernel
theorem dX3_readUnit_20 : decode cX3_readUnit 20 = .ok (.aload_n 1, 1) := by decide +kernel
theorem dX3_readUnit_21 : decode cX3_readUnit 21 = .ok (.invokevirtual 71, 3) := by decide +kernel
theorem dX3_readUnit_24 : decode cX3_readUnit 24 = .ok (.ifCond .ne 9, 3) := by decide +kernel
theorem dX3_readUnit_27 : decode cX3_readUnit 27 = .ok (.aload_n 1, 1) := by decide +kernel
theorem dX3_readUnit_28 : decode cX3_readUnit 28 = .ok (.iconst 1, 1) := by decide +kernel
theorem dX3_readUnit_29 : decode cX3_readUnit 29 = .ok (.invokevirtual 42, 3) := by decide +kernel
theorem dX3_readUnit_32 : decode cX3_readUnit 32 = .ok (.ireturn, 1) := by decide +kernel
theorem dX3_readUnit_33 : decode cX3_readUnit 33 = .ok (.aload_n 1, 1) := by decide +kernel
theorem dX3_readUnit_34 : decode cX3_readUnit 34 = .ok (.invokevirtual 45, 3) := by decide +kernel
theorem dX3_readUnit_37 : decode cX3_readUnit 37 = .ok (.aload_n 0, 1) := by decide +kernel
theorem dX3_readUnit_38 : decode cX3_readUnit 38 = .ok (.iload_n 2, 1) := by decide +kernel
theorem dX3_readUnit_39 : decode cX3_readUnit 39 = .ok (.invokevirtual 55, 3) := by decide +kernel
theorem dX3_readUnit_42 : decode cX3_readUnit 42 = .ok (.ireturn, 1) := by decide +kernel
theorem dX3_put_0 : decode cX3_put 0 = .ok (.aload_n 0, 1) := by decide +kernel
theorem dX3_put_1 : decode cX3_put 1 = .ok (.getfield 19, 3) := by decide +kernel
theorem dX3_put_4 : decode cX3_put 4 = .ok (.sipush 400, 3) := by decide +kernel
theorem dX3_put_7 : decode cX3_put 7 = .ok (.if_icmp .ge 23, 3) := by decide +kernel
theorem dX3_put_10 : decode cX3_put 10 = .ok (.aload_n 0, 1) := by decide +kernel
theorem dX3_put_11 : decode cX3_put 11 = .ok (.getfield 11, 3) := by decide +kernel
theorem dX3_put_14 : decode cX3_put 14 = .ok (.aload_n 0, 1) := by decide +kernel
theorem dX3_put_15 : decode cX3_put 15 = .ok (.getfield 19, 3) := by decide +kernel
theorem dX3_put_18 : decode cX3_put 18 = .ok (.iload_n 1, 1) := by decide +kernel
theorem dX3_put_19 : decode cX3_put 19 = .ok (.iastore, 1) := by decide +kernel
theorem dX3_put_20 : decode cX3_put 20 = .ok (.aload_n 0, 1) := by decide +kernel
theorem dX3_put_21 : decode cX3_put 21 = .ok (.dup, 1) := by decide +kernel
theorem dX3_put_22 : decode cX3_put 22 = .ok (.getfield 19, 3) := by decide +kernel
theorem dX3_put_25 : decode cX3_put 25 = .ok (.iconst 1, 1) := by decide +kernel
theorem dX3_put_26 : decode cX3_put 26 = .ok (.iadd, 1) := by decide +kernel
theorem dX3_put_27 : decode cX3_put 27 = .ok (.putfield 19, 3) := by decide +kernel
theorem dX3_put_30 : decode cX3_put 30 = .ok (.iconst 1, 1) := by decide +kernel
theorem dX3_put_31 : decode cX3_put 31 = .ok (.ireturn, 1) := by decide +kernel
theorem dX4_init_0 : decode cX4_init 0 = .ok (.aload_n 0, 1) := by decide +kernel
theorem dX4_init_1 : decode cX4_init 1 = .ok (.invokespecial 3, 3) := by decide +kernel
theorem dX4_init_4 : decode cX4_init 4 = .ok (.aload_n 0, 1) := by decide +kernel
theorem dX4_init_5 : decode cX4_init 5 = .ok (.iconst 3, 1) := by decide +kernel
theorem dX4_init_6 : decode cX4_init 6 = .ok (.anewarray 9, 3) := by decide +kernel
theorem dX4_init_9 : decode cX4_init 9 = .ok (.putfield 11, 3) := by decide +kernel
theorem dX4_init_12 : decode cX4_init 12 = .ok (.aload_n 0, 1) := by decide +kernel
theorem dX4_init_13 : decode cX4_init 13 = .ok (.new 17, 3) := by decide +kernel
theorem dX4_init_16 : decode cX4_init 16 = .ok (.dup, 1) := by decide +kernel
theorem dX4_init_17 : decode cX4_init 17 = .ok (.invokespecial 19, 3) := by decide +kernel
theorem dX4_init_20 : decode cX4_init 20 = .ok (.putfield 20, 3) := by decide +kernel
theorem dX4_init_23 : decode cX4_init 23 = .ok (.aload_n 0, 1) := by decide +kernel
theorem dX4_init_24 : decode cX4_init 24 = .ok (.bipush 28, 2) := by decide +kernel
theorem dX4_init_26 : decode cX4_init 26 = .ok (.newarray .int, 2) := by decide +kernel
theorem dX4_init_28 : decode cX4_init 28 = .ok (.putfield 24, 3) := by decide +kernel
theorem dX4_init_31 : decode cX4_init 31 = .ok (.aload_n 0, 1) := by decide +kernel
theorem dX4_init_32 : decode cX4_init 32 = .ok (.iconst 4, 1) := by decide +kernel
theorem dX4_init_33 : decode cX4_init 33 = .ok (.newarray .int, 2) := by decide +kernel
theorem dX4_init_35 : decode cX4_init 35 = .ok (.putfield 28, 3) := by decide +kernel
theorem dX4_init_38 : decode cX4_init 38 = .ok (.aload_n 0, 1) := by decide +kernel
theorem dX4_init_39 : decode cX4_init 39 = .ok (.bipush 6, 2) := by decide +kernel
theorem dX4_init_41 : decode cX4_init 41 = .ok (.newarray .int, 2) := by decide +kernel
theorem dX4_init_43 : decode cX4_init 43 = .ok (.putfield 31, 3) := by decide +kernel
theorem dX4_init_46 : decode cX4_init 46 = .ok (.aload_n 0, 1) := by decide +kernel
theorem dX4_init_47 : decode cX4_init 47 = .ok (.bipush 6, 2) := by decide +kernel
theorem dX4_init_49 : decode cX4_init 49 = .ok (.newarray .int, 2) := by decide +kernel
theorem dX4_init_51 : decode cX4_init 51 = .ok (.putfield 34, 3) := by decide +kernel
theorem dX4_init_54 : decode cX4_init 54 = .ok (.aload_n 0, 1) := by decide +kernel
theorem dX4_init_55 : decode cX4_init 55 = .ok (.bipush 7, 2) := by decide +kernel
theorem dX4_init_57 : decode cX4_init 57 = .ok (.newarray .int, 2) := by decide +kernel
theorem dX4_init_59 : decode cX4_init 59 = .ok (.putfield 37, 3) := by decide +kernel
theorem dX4_init_62 : decode cX4_init 62 = .ok (.iconst 0, 1) := by decide +kernel
theorem dX4_init_63 : decode cX4_init 63 = .ok (.istore_n 1, 1) := by decide +kernel
theorem dX4_init_64 : decode cX4_init 64 = .ok (.iload_n 1, 1) := by decide +kernel
theorem dX4_init_65 : decode cX4_init 65 = .ok (.iconst 3, 1) := by decide +kernel
theorem dX4_init_66 : decode cX4_init 66 = .ok (.if_icmp .ge 22, 3) := by decide +kernel
theorem dX4_init_69 : decode cX4_init 69 = .ok (.aload_n 0, 1) := by decide +kernel
theorem dX4_init_70 : decode cX4_init 70 = .ok (.getfield 11, 3) := by decide +kernel
theorem dX4_init_73 : decode cX4_init 73 = .ok (.iload_n 1, 1) := by decide +kernel
theorem dX4_init_74 : decode cX4_init 74 = .ok (.new 9, 3) := by decide +kernel
theorem dX4_init_77 : decode cX4_init 77 = .ok (.dup, 1) := by decide +kernel
theorem dX4_init_78 : decode cX4_init 78 = .ok (.invokespecial 40, 3) := by decide +kernel
theorem dX4_init_81 : decode cX4_init 81 = .ok (.aastore, 1) := by decide +kernel
theorem dX4_init_82 : decode cX4_init 82 = .ok (.iinc 1 1, 3) := by decide +kernel
theorem dX4_init_85 : decode cX4_init 85 = .ok (.goto (-21), 3) := by decide +kernel
theorem dX4_init_88 : decode cX4_init 88 = .ok (.return_, 1) := by decide +kernel
theorem dX4_copyFrom_0 : decode cX4_copyFrom 0 = .ok (.iconst 0, 1) := by decide +kernel
theorem dX4_copyFrom_1 : decode cX4_copyFrom 1 = .ok (.istore_n 2, 1) := by decide +kernel
theorem dX4_copyFrom_2 : decode cX4_copyFrom 2 = .ok (.iload_n 2, 1) := by decide +kernel
theorem dX4_copyFrom_3 : decode cX4_copyFrom 3 = .ok (.iconst 3, 1) := by decide +kernel
theorem dX4_copyFrom_4 : decode cX4_copyFrom 4 = .ok (.if_icmp .ge 24, 3) := by decide +kernel
theorem dX4_copyFrom_7 : decode cX4_copyFrom 7 = .ok (.aload_n 0, 1) := by decide +kernel
theorem dX4_copyFrom_8 : decode cX4_copyFrom 8 = .ok (.getfield 11, 3) := by decide +kernel
theorem dX4_copyFrom_11 : decode cX4_copyFrom 11 = .ok (.iload_n 2, 1) := by decide +kernel
theorem dX4_copyFrom_12 : decode cX4_copyFrom 12 = .ok (.aaload, 1) := by decide +kernel
theorem dX4_copyFrom_13 : decode cX4_copyFrom 13 = .ok (.aload_n 1, 1) := by decide +kernel
theorem dX4_copyFrom_14 : decode cX4_copyFrom 14 = .ok (.getfield 11, 3) := by decide +kernel
theorem dX4_copyFrom_17 : decode cX4_copyFrom 17 = .ok (.iload_n 2, 1) := by decide +kernel
theorem dX4_copyFrom_18 : decode cX4_copyFrom 18 = .ok (.aaload, 1) := by decide +kernel
theorem dX4_copyFrom_19 : decode cX4_copyFrom 19 = .ok (.invokevirtual 41, 3) := by decide +kernel
theorem dX4_copyFrom_22 : decode cX4_copyFrom 22 = .ok (.iinc 2 1, 3) := by decide +kernel
theorem dX4_copyFrom_25 : decode cX4_copyFrom 25 = .ok (.goto (-23), 3) := by decide +kernel
theorem dX4_copyFrom_28 : decode cX4_copyFrom 28 = .ok (.aload_n 0, 1) := by decide +kernel
theorem dX4_copyFrom_29 : decode cX4_copyFrom 29 = .ok (.getfield 20, 3) := by decide +kernel
theorem dX4_copyFrom_32 : decode cX4_copyFrom 32 = .ok (.aload_n 1, 1) := by decide +kernel
theorem dX4_copyFrom_33 : decode cX4_copyFrom 33 = .ok (.getfield 20, 3) := by decide +kernel
theorem dX4_copyFrom_36 : decode cX4_copyFrom 36 = .ok (.invokevirtual 45, 3) := by decide +kernel
theorem dX4_copyFrom_39 : decode cX4_copyFrom 39 = .ok (.aload_n 1, 1) := by decide +kernel
theorem dX4_copyFrom_40 : decode cX4_copyFrom 40 = .ok (.getfield 24, 3) := by decide +kernel
theorem dX4_copyFrom_43 : decode cX4_copyFrom 43 = .ok (.iconst 0, 1) := by decide +kernel
theorem dX4_copyFrom_44 : decode cX4_copyFrom 44 = .ok (.aload_n 0, 1) := by decide +kernel
theorem dX4_copyFrom_45 : decode cX4_copyFrom 45 = .ok (.getfield 24, 3) := by decide +kernel
theorem dX4_copyFrom_48 : decode cX4_copyFrom 48 = .ok (.iconst 0, 1) := by decide +kernel
theorem dX4_copyFrom_49 : decode cX4_copyFrom 49 = .ok (.bipush 28, 2) := by decide +kernel
theorem dX4_copyFrom_51 : decode cX4_copyFrom 51 = .ok (.invokestatic 48, 3) := by decide +kernel
theorem dX4_copyFrom_54 : decode cX4_copyFrom 54 = .ok (.aload_n 1, 1) := by decide +kernel
theorem dX4_copyFrom_55 : decode cX4_copyFrom 55 = .ok (.getfield 28, 3) := by decide +kernel
theorem dX4_copyFrom_58 : decode cX4_copyFrom 58 = .ok (.iconst 0, 1) := by decide +kernel
theorem dX4_copyFrom_59 : decode cX4_copyFrom 59 = .ok (.aload_n 0, 1) := by decide +kernel
theorem dX4_copyFrom_60 : decode cX4_copyFrom 60 = .ok (.getfield 28, 3) := by decide +kernel
theorem dX4_copyFrom_63 : decode cX4_copyFrom 63 = .ok (.iconst 0, 1) := by decide +kernel
theorem dX4_copyFrom_64 : decode cX4_copyFrom 64 = .ok (.iconst 4, 1) := by decide +kernel
theorem dX4_copyFrom_65 : decode cX4_copyFrom 65 = .ok (.invokestatic 48, 3) := by decide +kernel
theorem dX4_copyFrom_68 : decode cX4_copyFrom 68 = .ok (.aload_n 1, 1) := by decide +kernel
theorem dX4_copyFrom_69 : decode cX4_copyFrom 69 = .ok (.getfield 31, 3) := by decide +kernel
theorem dX4_copyFrom_72 : decode cX4_copyFrom 72 = .ok (.iconst 0, 1) := by decide +kernel
theorem dX4_copyFrom_73 : decode cX4_copyFrom 73 = .ok (.aload_n 0, 1) := by decide +kernel
theorem dX4_copyFrom_74 : decode cX4_copyFrom 74 = .ok (.getfield 31, 3) := by decide +kernel
theorem dX4_copyFrom_77 : decode cX4_copyFrom 77 = .ok (.iconst 0, 1) := by decide +kernel
theorem dX4_copyFrom_78 : decode cX4_copyFrom 78 = .ok (.bipush 6, 2) := by decide +kernel
theorem dX4_copyFrom_80 : decode cX4_copyFrom 80 = .ok (.invokestatic 48, 3) := by decide +kernel
theorem dX4_copyFrom_83 : decode cX4_copyFrom 83 = .ok (.aload_n 1, 1) := by decide +kernel
theorem dX4_copyFrom_84 : decode cX4_copyFrom 84 = .ok (.getfield 34, 3) := by decide +kernel
theorem dX4_copyFrom_87 : decode cX4_copyFrom 87 = .ok (.iconst 0, 1) := by decide +kernel
theorem dX4_copyFrom_88 : decode cX4_copyFrom 88 = .ok (.aload_n 0, 1) := by decide +kernel
theorem dX4_copyFrom_89 : decode cX4_copyFrom 89 = .ok (.getfield 34, 3) := by decide +kernel
theorem dX4_copyFrom_92 : decode cX4_copyFrom 92 = .ok (.iconst 0, 1) := by decide +kernel
theorem dX4_copyFrom_93 : decode cX4_copyFrom 93 = .ok (.bipush 6, 2) := by decide +kernel
theorem dX4_copyFrom_95 : decode cX4_copyFrom 95 = .ok (.invokestatic 48, 3) := by decide +kernel
theorem dX4_copyFrom_98 : decode cX4_copyFrom 98 = .ok (.aload_n 0, 1) := by decide +kernel
theorem dX4_copyFrom_99 : decode cX4_copyFrom 99 = .ok (.aload_n 1, 1) := by decide +kernel
theorem dX4_copyFrom_100 : decode cX4_copyFrom 100 = .ok (.getfield 54, 3) := by decide +kernel
theorem dX4_copyFrom_103 : decode cX4_copyFrom 103 = .ok (.putfield 54, 3) := by decide +kernel
theorem dX4_copyFrom_106 : decode cX4_copyFrom 106 = .ok (.aload_n 1, 1) := by decide +kernel
theorem dX4_copyFrom_107 : decode cX4_copyFrom 107 = .ok (.getfield 37, 3) := by decide +kernel
theorem dX4_copyFrom_110 : decode cX4_copyFrom 110 = .ok (.iconst 0, 1) := by decide +kernel
theorem dX4_copyFrom_111 : decode cX4_copyFrom 111 = .ok (.aload_n 0, 1) := by decide +kernel
theorem dX4_copyFrom_112 : decode cX4_copyFrom 112 = .ok (.getfield 37, 3) := by decide +kernel
theorem dX4_copyFrom_115 : decode cX4_copyFrom 115 = .ok (.iconst 0, 1) := by decide +kernel
theorem dX4_copyFrom_116 : decode cX4_copyFrom 116 = .ok (.bipush 7, 2) := by decide +kernel
theorem dX4_copyFrom_118 : decode cX4_copyFrom 118 = .ok (.invokestatic 48, 3) := by decide +kernel
theorem dX4_copyFrom_121 : decode cX4_copyFrom 121 = .ok (.aload_n 0, 1) := by decide +kernel
theorem dX4_copyFrom_122 : decode cX4_copyFrom 122 = .ok (.aload_n 1, 1) := by decide +kernel
theorem dX4_copyFrom_123 : decode cX4_copyFrom 123 = .ok (.getfield 58, 3) := by decide +kernel
theorem dX4_copyFrom_126 : decode cX4_copyFrom 126 = .ok (.putfield 58, 3) := by decide +kernel
theorem dX4_copyFrom_129 : decode cX4_copyFrom 129 = .ok (.return_, 1) := by decide +kernel
theorem dX4_readLetters_0 : decode cX4_readLetters 0 = .ok (.iconst 0, 1) := by decide +kernel
theorem dX4_readLetters_1 : decode cX4_readLetters 1 = .ok (.istore_n 3, 1) := by decide +kernel
theorem dX4_readLetters_2 : decode cX4_readLetters 2 = .ok (.iconst 0, 1) := by decide +kernel
theorem dX4_readLetters_3 : decode cX4_readLetters 3 = .ok (.istore 4, 2) := by decide +kernel
theorem dX4_readLetters_5 : decode cX4_readLetters 5 = .ok (.iload 4, 2) := by decide +kernel
theorem dX4_readLetters_7 : decode cX4_readLetters 7 = .ok (.aload_n 2, 1) := by decide +kernel
theorem dX4_readLetters_8 : decode cX4_readLetters 8 = .ok (.getfield 61, 3) := by decide +kernel
theorem dX4_readLetters_11 : decode cX4_readLetters 11 = .ok (.if_icmp .ge 75, 3) := by decide +kernel
theorem dX4_readLetters_14 : decode cX4_readLetters 14 = .ok (.aload_n 2, 1) := by decide +kernel
theorem dX4_readLetters_15 : decode cX4_readLetters 15 = .ok (.getfield 66, 3) := by decide +kernel
theorem dX4_readLetters_18 : decode cX4_readLetters 18 = .ok (.iload 4, 2) := by decide +kernel
theorem dX4_readLetters_20 : decode cX4_readLetters 20 = .ok (.iaload, 1) := by decide +kernel
theorem dX4_readLetters_21 : decode cX4_readLetters 21 = .ok (.invokestatic 69, 3) := by decide +kernel
theorem dX4_readLetters_24 : decode cX4_readLetters 24 = .ok (.ifCond .ne 56, 3) := by decide +kernel
theorem dX4_readLetters_27 : decode cX4_readLetters 27 = .ok (.aload_n 2, 1) := by decide +kernel
theorem dX4_readLetters_28 : decode cX4_readLetters 28 = .ok (.getfield 66, 3) := by decide +kernel
theorem dX4_readLetters_31 : decode cX4_readLetters 31 = .ok (.iload 4, 2) := by decide +kernel
theorem dX4_readLetters_33 : decode cX4_readLetters 33 = .ok (.iaload, 1) := by decide +kernel
theorem dX4_readLetters_34 : decode cX4_readLetters 34 = .ok (.invokestatic 73, 3) := by decide +kernel
theorem dX4_readLetters_37 : decode cX4_readLetters 37 = .ok (.iconst (-1), 1) := by decide +kernel
theorem dX4_readLetters_38 : decode cX4_readLetters 38 = .ok (.if_icmp .eq 7, 3) := by decide +kernel
theorem dX4_readLetters_41 : decode cX4_readLetters 41 = .ok (.iconst 1, 1) := by decide +kernel
theorem dX4_readLetters_42 : decode cX4_readLetters 42 = .ok (.goto 4, 3) := by decide +kernel
theorem dX4_readLetters_45 : decode cX4_readLetters 45 = .ok (.iconst 0, 1) := by decide +kernel
theorem dX4_readLetters_46 : decode cX4_readLetters 46 = .ok (.istore 5, 2) := by decide +kernel
theorem dX4_readLetters_48 : decode cX4_readLetters 48 = .ok (.iload 5, 2) := by decide +kernel
theorem dX4_readLetters_50 : decode cX4_readLetters 50 = .ok (.ifCond .eq 9, 3) := by decide +kernel
theorem dX4_readLetters_53 : decode cX4_readLetters 53 = .ok (.iload_n 3, 1) := by decide +kernel
theorem dX4_readLetters_54 : decode cX4_readLetters 54 = .ok (.bipush 7, 2) := by decide +kernel
theorem dX4_readLetters_56 : decode cX4_readLetters 56 = .ok (.if_icmp .lt 21, 3) := by decide +kernel
theorem dX4_readLetters_59 : decode cX4_readLetters 59 = .ok (.aload_n 2, 1) := by decide +kernel
theorem dX4_readLetters_60 : decode cX4_readLetters 60 = .ok (.iload 5, 2) := by decide +kernel
theorem dX4_readLetters_62 : decode cX4_readLetters 62 = .ok (.ifCond .eq 7, 3) := by decide +kernel
theorem dX4_readLetters_65 : decode cX4_readLetters 65 = .ok (.iconst 3, 1) := by decide +kernel
theorem dX4_readLetters_66 : decode cX4_readLetters 66 = .ok (.goto 4, 3) := by decide +kernel
theorem dX4_readLetters_69 : decode cX4_readLetters 69 = .ok (.iconst 1, 1) := by decide +kernel
theorem dX4_readLetters_70 : decode cX4_readLetters 70 = .ok (.iload 4, 2) := by decide +kernel
theorem dX4_readLetters_72 : decode cX4_readLetters 72 = .ok (.invokevirtual 77, 3) := by decide +kernel
theorem dX4_readLetters_75 : decode cX4_readLetters 75 = .ok (.iconst (-1), 1) := by decide +kernel
theorem dX4_readLetters_76 : decode cX4_readLetters 76 = .ok (.ireturn, 1) := by decide +kernel
theorem dX4_readLetters_77 : decode cX4_readLetters 77 = .ok (.iinc 3 1, 3) := by decide +kernel
theorem dX4_readLetters_80 : decode cX4_readLetters 80 = .ok (.iinc 4 1, 3) := by decide +kernel
theorem dX4_readLetters_83 : decode cX4_readLetters 83 = .ok (.goto (-78), 3) := by decide +kernel
theorem dX4_readLetters_86 : decode cX4_readLetters 86 = .ok (.aload_n 0, 1) := by decide +kernel
theorem dX4_readLetters_87 : decode cX4_readLetters 87 = .ok (.getfield 28, 3) := by decide +kernel
theorem dX4_readLetters_90 : decode cX4_readLetters 90 = .ok (.iload_n 1, 1) := by decide +kernel
theorem dX4_readLetters_91 : decode cX4_readLetters 91 = .ok (.iconst 0, 1) := by decide +kernel
theorem dX4_readLetters_92 : decode cX4_readLetters 92 = .ok (.iastore, 1) := by decide +kernel
theorem dX4_readLetters_93 : decode cX4_readLetters 93 = .ok (.iconst 0, 1) := by decide +kernel
theorem dX4_readLetters_94 : decode cX4_readLetters 94 = .ok (.istore 4, 2) := by decide +kernel
theorem dX4_readLetters_96 : decode cX4_readLetters 96 = .ok (.iload 4, 2) := by decide +kernel
theorem dX4_readLetters_98 : decode cX4_readLetters 98 = .ok (.aload_n 2, 1) := by decide +kernel
theorem dX4_readLetters_99 : decode cX4_readLetters 99 = .ok (.getfield 61, 3) := by decide +kernel
theorem dX4_readLetters_102 : decode cX4_readLetters 102 = .ok (.if_icmp .ge 58, 3) := by decide +kernel
theorem dX4_readLetters_105 : decode cX4_readLetters 105 = .ok (.aload_n 2, 1) := by decide +kernel
theorem dX4_readLetters_106 : decode cX4_readLetters 106 = .ok (.getfield 66, 3) := by decide +kernel
theorem dX4_readLetters_109 : decode cX4_readLetters 109 = .ok (.iload 4, 2) := by decide +kernel
theorem dX4_readLetters_111 : decode cX4_readLetters 111 = .ok (.iaload, 1) := by decide +kernel
theorem dX4_readLetters_112 : decode cX4_readLetters 112 = .ok (.invokestatic 69, 3) := by decide +kernel
theorem dX4_readLetters_115 : decode cX4_readLetters 115 = .ok (.ifCond .ne 39, 3) := by decide +kernel
theorem dX4_readLetters_118 : decode cX4_readLetters 118 = .ok (.aload_n 0, 1) := by decide +kernel
theorem dX4_readLetters_119 : decode cX4_readLetters 119 = .ok (.getfield 24, 3) := by decide +kernel
theorem dX4_readLetters_122 : decode cX4_readLetters 122 = .ok (.iload_n 1, 1) := by decide +kernel
theorem dX4_readLetters_123 : decode cX4_readLetters 123 = .ok (.bipush 7, 2) := by decide +kernel
theorem dX4_readLetters_125 : decode cX4_readLetters 125 = .ok (.imul, 1) := by decide +kernel
theorem dX4_readLetters_126 : decode cX4_readLetters 126 = .ok (.aload_n 0, 1) := by decide +kernel
theorem dX4_readLetters_127 : decode cX4_readLetters 127 = .ok (.getfield 28, 3) := by decide +kernel
theorem dX4_readLetters_130 : decode cX4_readLetters 130 = .ok (.iload_n 1, 1) := by decide +kernel
theorem dX4_readLetters_131 : decode cX4_readLetters 131 = .ok (.iaload, 1) := by decide +kernel
theorem dX4_readLetters_132 : decode cX4_readLetters 132 = .ok (.iadd, 1) := by decide +kernel
theorem dX4_readLetters_133 : decode cX4_readLetters 133 = .ok (.aload_n 2, 1) := by decide +kernel
theorem dX4_readLetters_134 : decode cX4_readLetters 134 = .ok (.getfield 66, 3) := by decide +kernel
theorem dX4_readLetters_137 : decode cX4_readLetters 137 = .ok (.iload 4, 2) := by decide +kernel
theorem dX4_readLetters_139 : decode cX4_readLetters 139 = .ok (.iaload, 1) := by decide +kernel
theorem dX4_readLetters_140 : decode cX4_readLetters 140 = .ok (.invokestatic 73, 3) := by decide +kernel
theorem dX4_readLetters_143 : decode cX4_readLetters 143 = .ok (.iastore, 1) := by decide +kernel
theorem dX4_readLetters_144 : decode cX4_readLetters 144 = .ok (.aload_n 0, 1) := by decide +kernel
theorem dX4_readLetters_145 : decode cX4_readLetters 145 = .ok (.getfield 28, 3) := by decide +kernel
theorem dX4_readLetters_148 : decode cX4_readLetters 148 = .ok (.iload_n 1, 1) := by decide +kernel
theorem dX4_readLetters_149 : decode cX4_readLetters 149 = .ok (.dup2, 1) := by decide +kernel
theorem dX4_readLetters_150 : decode cX4_readLetters 150 = .ok (.iaload, 1) := by decide +kernel
theorem dX4_readLetters_151 : decode cX4_readLetters 151 = .ok (.iconst 1, 1) := by decide +kernel
theorem dX4_readLetters_152 : decode cX4_readLetters 152 = .ok (.iadd, 1) := by decide +kernel
theorem dX4_readLetters_153 : decode cX4_readLetters 153 = .ok (.iastore, 1) := by decide +kernel
theorem dX4_readLetters_154 : decode cX4_readLetters 154 = .ok (.iinc 4 1, 3) := by decide +kernel
theorem dX4_readLetters_157 : decode cX4_readLetters 157 = .ok (.goto (-61), 3) := by decide +kernel
theorem dX4_readLetters_160 : decode cX4_readLetters 160 = .ok (.iload_n 3, 1) := by decide +kernel
theorem dX4_readLetters_161 : decode cX4_readLetters 161 = .ok (.ireturn, 1) := by decide +kernel
theorem dX4_letterFor_0 : decode cX4_letterFor 0 = .ok (.iload_n 0, 1) := by decide +kernel
theorem dX4_letterFor_1 : decode cX4_letterFor 1 = .ok (.lookupswitch 41 #[(111, 35), (116, 39), (117, 37)], 35) := by decide +kernel
theorem dX4_letterFor_36 : decode cX4_letterFor 36 = .ok (.iconst 0, 1) := by decide +kernel
theorem dX4_letterFor_37 : decode cX4_letterFor 37 = .ok (.ireturn, 1) := by decide +kernel
theorem dX4_letterFor_38 : decode cX4_letterFor 38 = .ok (.iconst 1, 1) := by decide +kernel
theorem dX4_letterFor_39 : decode cX4_letterFor 39 = .ok (.ireturn, 1) := by decide +kernel
theorem dX4_letterFor_40 : decode cX4_letterFor 40 = .ok (.iconst 2, 1) := by decide +kernel
theorem dX4_letterFor_41 : decode cX4_letterFor 41 = .ok (.ireturn, 1) := by decide +kernel
theorem dX4_letterFor_42 : decode cX4_letterFor 42 = .ok (.iconst (-1), 1) := by decide +kernel
theorem dX4_letterFor_43 : decode cX4_letterFor 43 = .ok (.ireturn, 1) := by decide +kernel
theorem dX4_countOf_0 : decode cX4_countOf 0 = .ok (.iconst 0, 1) := by decide +kernel
theorem dX4_countOf_1 : decode cX4_countOf 1 = .ok (.istore_n 3, 1) := by decide +kernel
theorem dX4_countOf_2 : decode cX4_countOf 2 = .ok (.iconst 0, 1) := by decide +kernel
theorem dX4_countOf_3 : decode cX4_countOf 3 = .ok (.istore 4, 2) := by decide +kernel
theorem dX4_countOf_5 : decode cX4_countOf 5 = .ok (.iload 4, 2) := by decide +kernel
theorem dX4_countOf_7 : decode cX4_countOf 7 = .ok (.aload_n 0, 1) := by decide +kernel
theorem dX4_countOf_8 : decode cX4_countOf 8 = .ok (.getfield 28, 3) := by decide +kernel
theorem dX4_countOf_11 : decode cX4_countOf 11 = .ok (.iload_n 1, 1) := by decide +kernel
theorem dX4_countOf_12 : decode cX4_countOf 12 = .ok (.iaload, 1) := by decide +kernel
theorem dX4_countOf_13 : decode cX4_countOf 13 = .ok (.if_icmp .ge 33, 3) := by decide +kernel
theorem dX4_countOf_16 : decode cX4_countOf 16 = .ok (.iload_n 3, 1) := by decide +kernel
theorem dX4_countOf_17 : decode cX4_countOf 17 = .ok (.aload_n 0, 1) := by decide +kernel
theorem dX4_countOf_18 : decode cX4_countOf 18 = .ok (.getfield 24, 3) := by decide +kernel
theorem dX4_countOf_21 : decode cX4_countOf 21 = .ok (.iload_n 1, 1) := by decide +kernel
theorem dX4_countOf_22 : decode cX4_countOf 22 = .ok (.bipush 7, 2) := by decide +kernel
theorem dX4_countOf_24 : decode cX4_countOf 24 = .ok (.imul, 1) := by decide +kernel
theorem dX4_countOf_25 : decode cX4_countOf 25 = .ok (.iload 4, 2) := by decide +kernel
theorem dX4_countOf_27 : decode cX4_countOf 27 = .ok (.iadd, 1) := by decide +kernel
theorem dX4_countOf_28 : decode cX4_countOf 28 = .ok (.iaload, 1) := by decide +kernel
theorem dX4_countOf_29 : decode cX4_countOf 29 = .ok (.iload_n 2, 1) := by decide +kernel
theorem dX4_countOf_30 : decode cX4_countOf 30 = .ok (.if_icmp .ne 7, 3) := by decide +kernel
theorem dX4_countOf_33 : decode cX4_countOf 33 = .ok (.iconst 1, 1) := by decide +kernel
theorem dX4_countOf_34 : decode cX4_countOf 34 = .ok (.goto 4, 3) := by decide +kernel
theorem dX4_countOf_37 : decode cX4_countOf 37 = .ok (.iconst 0, 1) := by decide +kernel
theorem dX4_countOf_38 : decode cX4_countOf 38 = .ok (.iadd, 1) := by decide +kernel
theorem dX4_countOf_39 : decode cX4_countOf 39 = .ok (.istore_n 3, 1) := by decide +kernel
theorem dX4_countOf_40 : decode cX4_countOf 40 = .ok (.iinc 4 1, 3) := by decide +kernel
theorem dX4_countOf_43 : decode cX4_countOf 43 = .ok (.goto (-38), 3) := by decide +kernel
theorem dX4_countOf_46 : decode cX4_countOf 46 = .ok (.iload_n 3, 1) := by decide +kernel
theorem dX4_countOf_47 : decode cX4_countOf 47 = .ok (.ireturn, 1) := by decide +kernel
theorem dX4_balanceOf_0 : decode cX4_balanceOf 0 = .ok (.aload_n 0, 1) := by decide +kernel
theorem dX4_balanceOf_1 : decode cX4_balanceOf 1 = .ok (.iload_n 1, 1) := by decide +kernel
theorem dX4_balanceOf_2 : decode cX4_balanceOf 2 = .ok (.iconst 0, 1) := by decide +kernel
theorem dX4_balanceOf_3 : decode cX4_balanceOf 3 = .ok (.invokevirtual 81, 3) := by decide +kernel
theorem dX4_balanceOf_6 : decode cX4_balanceOf 6 = .ok (.aload_n 0, 1) := by decide +kernel
theorem dX4_balanceOf_7 : decode cX4_balanceOf 7 = .ok (.iload_n 1, 1) := by decide +kernel
theorem dX4_balanceOf_8 : decode cX4_balanceOf 8 = .ok (.iconst 1, 1) := by decide +kernel
theorem dX4_balanceOf_9 : decode cX4_balanceOf 9 = .ok (.invokevirtual 81, 3) := by decide +kernel
theorem dX4_balanceOf_12 : decode cX4_balanceOf 12 = .ok (.isub, 1) := by decide +kernel
theorem dX4_balanceOf_13 : decode cX4_balanceOf 13 = .ok (.ireturn, 1) := by decide +kernel
theorem dX4_twistsOf_0 : decode cX4_twistsOf 0 = .ok (.aload_n 0, 1) := by decide +kernel
theorem dX4_twistsOf_1 : decode cX4_twistsOf 1 = .ok (.iload_n 1, 1) := by decide +kernel
theorem dX4_twistsOf_2 : decode cX4_twistsOf 2 = .ok (.iconst 2, 1) := by decide +kernel
theorem dX4_twistsOf_3 : decode cX4_twistsOf 3 = .ok (.invokevirtual 81, 3) := by decide +kernel
theorem dX4_twistsOf_6 : decode cX4_twistsOf 6 = .ok (.iconst 2, 1) := by decide +kernel
theorem dX4_twistsOf_7 : decode cX4_twistsOf 7 = .ok (.irem, 1) := by decide +kernel
theorem dX4_twistsOf_8 : decode cX4_twistsOf 8 = .ok (.ireturn, 1) := by decide +kernel
theorem dX4_marksDiffer_0 : decode cX4_marksDiffer 0 = .ok (.aload_n 0, 1) := by decide +kernel
theorem dX4_marksDiffer_1 : decode cX4_marksDiffer 1 = .ok (.iload_n 1, 1) := by decide +kernel
theorem dX4_marksDiffer_2 : decode cX4_marksDiffer 2 = .ok (.invokevirtual 85, 3) := by decide +kernel
theorem dX4_marksDiffer_5 : decode cX4_marksDiffer 5 = .ok (.aload_n 0, 1) := by decide +kernel
theorem dX4_marksDiffer_6 : decode cX4_marksDiffer 6 = .ok (.iload_n 2, 1) := by decide +kernel
theorem dX4_marksDiffer_7 : decode cX4_marksDiffer 7 = .ok (.invokevirtual 85, 3) := by decide +kernel
theorem dX4_marksDiffer_10 : decode cX4_marksDiffer 10 = .ok (.if_icmp .ne 16, 3) := by decide +kernel
theorem dX4_marksDiffer_13 : decode cX4_marksDiffer 13 = .ok (.aload_n 0, 1) := by decide +kernel
theorem dX4_marksDiffer_14 : decode cX4_marksDiffer 14 = .ok (.iload_n 1, 1) := by decide +kernel
theorem dX4_marksDiffer_15 : decode cX4_marksDiffer 15 = .ok (.invokevirtual 88, 3) := by decide +kernel
theorem dX4_marksDiffer_18 : decode cX4_marksDiffer 18 = .ok (.aload_n 0, 1) := by decide +kernel
theorem dX4_marksDiffer_19 : decode cX4_marksDiffer 19 = .ok (.iload_n 2, 1) := by decide +kernel
theorem dX4_marksDiffer_20 : decode cX4_marksDiffer 20 = .ok (.invokevirtual 88, 3) := by decide +kernel
theorem dX4_marksDiffer_23 : decode cX4_marksDiffer 23 = .ok (.if_icmp .eq 7, 3) := by decide +kernel
theorem dX4_marksDiffer_26 : decode cX4_marksDiffer 26 = .ok (.iconst 1, 1) := by decide +kernel
theorem dX4_marksDiffer_27 : decode cX4_marksDiffer 27 = .ok (.goto 4, 3) := by decide +kernel
theorem dX4_marksDiffer_30 : decode cX4_marksDiffer 30 = .ok (.iconst 0, 1) := by decide +kernel
theorem dX4_marksDiffer_31 : decode cX4_marksDiffer 31 = .ok (.ireturn, 1) := by decide +kernel
theorem dX4_letterOf_0 : decode cX4_letterOf 0 = .ok (.iload_n 2, 1) := by decide +kernel
theorem dX4_letterOf_1 : decode cX4_letterOf 1 = .ok (.bipush 10, 2) := by decide +kernel
theorem dX4_letterOf_3 : decode cX4_letterOf 3 = .ok (.if_icmp .lt 16, 3) := by decide +kernel
theorem dX4_letterOf_6 : decode cX4_letterOf 6 = .ok (.iload_n 2, 1) := by decide +kernel
theorem dX4_letterOf_7 : decode cX4_letterOf 7 = .ok (.bipush 10, 2) := by decide +kernel
theorem dX4_letterOf_9 : decode cX4_letterOf 9 = .ok (.isub, 1) := by decide +kernel
theorem dX4_letterOf_10 : decode cX4_letterOf 10 = .ok (.aload_n 0, 1) := by decide +kernel
theorem dX4_letterOf_11 : decode cX4_letterOf 11 = .ok (.getfield 28, 3) := by decide +kernel
theorem dX4_letterOf_14 : decode cX4_letterOf 14 = .ok (.iload_n 1, 1) := by decide +kernel
theorem dX4_letterOf_15 : decode cX4_letterOf 15 = .ok (.iaload, 1) := by decide +kernel
theorem dX4_letterOf_16 : decode cX4_letterOf 16 = .ok (.if_icmp .lt 6, 3) := by decide +kernel
theorem dX4_letterOf_19 : decode cX4_letterOf 19 = .ok (.bipush (-100), 2) := by decide +kernel
theorem dX4_letterOf_21 : decode cX4_letterOf 21 = .ok (.ireturn, 1) := by decide +kernel
theorem dX4_letterOf_22 : decode cX4_letterOf 22 = .ok (.aload_n 0, 1) := by decide +kernel
theorem dX4_letterOf_23 : decode cX4_letterOf 23 = .ok (.getfield 24, 3) := by decide +kernel
theorem dX4_letterOf_26 : decode cX4_letterOf 26 = .ok (.iload_n 1, 1) := by decide +kernel
theorem dX4_letterOf_27 : decode cX4_letterOf 27 = .ok (.bipush 7, 2) := by decide +kernel
theorem dX4_letterOf_29 : decode cX4_letterOf 29 = .ok (.imul, 1) := by decide +kernel
theorem dX4_letterOf_30 : decode cX4_letterOf 30 = .ok (.iload_n 2, 1) := by decide +kernel
theorem dX4_letterOf_31 : decode cX4_letterOf 31 = .ok (.iadd, 1) := by decide +kernel
theorem dX4_letterOf_32 : decode cX4_letterOf 32 = .ok (.bipush 10, 2) := by decide +kernel
theorem dX4_letterOf_34 : decode cX4_letterOf 34 = .ok (.isub, 1) := by decide +kernel
theorem dX4_letterOf_35 : decode cX4_letterOf 35 = .ok (.iaload, 1) := by decide +kernel
theorem dX4_letterOf_36 : decode cX4_letterOf 36 = .ok (.ireturn, 1) := by decide +kernel
theorem dX4_codeOf_0 : decode cX4_codeOf 0 = .ok (.iconst 0, 1) := by decide +kernel
theorem dX4_codeOf_1 : decode cX4_codeOf 1 = .ok (.istore_n 2, 1) := by decide +kernel
theorem dX4_codeOf_2 : decode cX4_codeOf 2 = .ok (.iconst 0, 1) := by decide +kernel
theorem dX4_codeOf_3 : decode cX4_codeOf 3 = .ok (.istore_n 3, 1) := by decide +kernel
theorem dX4_codeOf_4 : decode cX4_codeOf 4 = .ok (.iload_n 3, 1) := by decide +kernel
theorem dX4_codeOf_5 : decode cX4_codeOf 5 = .ok (.aload_n 0, 1) := by decide +kernel
theorem dX4_codeOf_6 : decode cX4_codeOf 6 = .ok (.getfield 28, 3) := by decide +kernel
theorem dX4_codeOf_9 : decode cX4_codeOf 9 = .ok (.iload_n 1, 1) := by decide +kernel
theorem dX4_codeOf_10 : decode cX4_codeOf 10 = .ok (.iaload, 1) := by decide +kernel
theorem dX4_codeOf_11 : decode cX4_codeOf 11 = .ok (.if_icmp .ge 25, 3) := by decide +kernel
theorem dX4_codeOf_14 : decode cX4_codeOf 14 = .ok (.iload_n 2, 1) := by decide +kernel
theorem dX4_codeOf_15 : decode cX4_codeOf 15 = .ok (.aload_n 0, 1) := by decide +kernel
theorem dX4_codeOf_16 : decode cX4_codeOf 16 = .ok (.getfield 24, 3) := by decide +kernel
theorem dX4_codeOf_19 : decode cX4_codeOf 19 = .ok (.iload_n 1, 1) := by decide +kernel
theorem dX4_codeOf_20 : decode cX4_codeOf 20 = .ok (.bipush 7, 2) := by decide +kernel
theorem dX4_codeOf_22 : decode cX4_codeOf 22 = .ok (.imul, 1) := by decide +kernel
theorem dX4_codeOf_23 : decode cX4_codeOf 23 = .ok (.iload_n 3, 1) := by decide +kernel
theorem dX4_codeOf_24 : decode cX4_codeOf 24 = .ok (.iadd, 1) := by decide +kernel
theorem dX4_codeOf_25 : decode cX4_codeOf 25 = .ok (.iaload, 1) := by decide +kernel
theorem dX4_codeOf_26 : decode cX4_codeOf 26 = .ok (.invokestatic 91, 3) := by decide +kernel
theorem dX4_codeOf_29 : decode cX4_codeOf 29 = .ok (.istore_n 2, 1) := by decide +kernel
theorem dX4_codeOf_30 : decode cX4_codeOf 30 = .ok (.iinc 3 1, 3) := by decide +kernel
theorem dX4_codeOf_33 : decode cX4_codeOf 33 = .ok (.goto (-29), 3) := by decide +kernel
theorem dX4_codeOf_36 : decode cX4_codeOf 36 = .ok (.iload_n 2, 1) := by decide +kernel
theorem dX4_codeOf_37 : decode cX4_codeOf 37 = .ok (.ireturn, 1) := by decide +kernel
theorem dX5_init_0 : decode cX5_init 0 = .ok (.aload_n 0, 1) := by decide +kernel
theorem dX5_init_1 : decode cX5_init 1 = .ok (.invokespecial 3, 3) := by decide +kernel
theorem dX5_init_4 : decode cX5_init 4 = .ok (.aload_n 0, 1) := by decide +kernel
theorem dX5_init_5 : decode cX5_init 5 = .ok (.sipush 3280, 3) := by decide +kernel
theorem dX5_init_8 : decode cX5_init 8 = .ok (.newarray .int, 2) := by decide +kernel
theorem dX5_init_10 : decode cX5_init 10 = .ok (.putfield 11, 3) := by decide +kernel
theorem dX5_init_13 : decode cX5_init 13 = .ok (.aload_n 0, 1) := by decide +kernel
theorem dX5_init_14 : decode cX5_init 14 = .ok (.sipush 3280, 3) := by decide +kernel
theorem dX5_init_17 : decode cX5_init 17 = .ok (.newarray .int, 2) := by decide +kernel
theorem dX5_init_19 : decode cX5_init 19 = .ok (.putfield 15, 3) := by decide +kernel
theorem dX5_init_22 : decode cX5_init 22 = .ok (.aload_n 0, 1) := by decide +kernel
theorem dX5_init_23 : decode cX5_init 23 = .ok (.bipush 7, 2) := by decide +kernel
theorem dX5_init_25 : decode cX5_init 25 = .ok (.newarray .int, 2) := by decide +kernel
theorem dX5_init_27 : decode cX5_init 27 = .ok (.putfield 18, 3) := by decide +kernel
theorem dX5_init_30 : decode cX5_init 30 = .ok (.return_, 1) := by decide +kernel
theorem dX5_behind_0 : decode cX5_behind 0 = .ok (.iload_n 0, 1) := by decide +kernel
theorem dX5_behind_1 : decode cX5_behind 1 = .ok (.iconst 3, 1) := by decide +kernel
theorem dX5_behind_2 : decode cX5_behind 2 = .ok (.imul, 1) := by decide +kernel
theorem dX5_behind_3 : decode cX5_behind 3 = .ok (.iload_n 1, 1) := by decide +kernel
theorem dX5_behind_4 : decode cX5_behind 4 = .ok (.iadd, 1) := by decide +kernel
theorem dX5_behind_5 : decode cX5_behind 5 = .ok (.iconst 1, 1) := by decide +kernel
theorem dX5_behind_6 : decode cX5_behind 6 = .ok (.iadd, 1) := by decide +kernel
theorem dX5_behind_7 : decode cX5_behind 7 = .ok (.ireturn, 1) := by decide +kernel
theorem dX5_fewest_0 : decode cX5_fewest 0 = .ok (.iload_n 1, 1) := by decide +kernel
theorem dX5_fewest_1 : decode cX5_fewest 1 = .ok (.sipush 3280, 3) := by decide +kernel
theorem dX5_fewest_4 : decode cX5_fewest 4 = .ok (.invokestatic 21, 3) := by decide +kernel
theorem dX5_fewest_7 : decode cX5_fewest 7 = .ok (.ifCond .eq 13, 3) := by decide +kernel
theorem dX5_fewest_10 : decode cX5_fewest 10 = .ok (.iload_n 2, 1) := by decide +kernel
theorem dX5_fewest_11 : decode cX5_fewest 11 = .ok (.sipush 3280, 3) := by decide +kernel
theorem dX5_fewest_14 : decode cX5_fewest 14 = .ok (.invokestatic 21, 3) := by decide +kernel
theorem dX5_fewest_17 : decode cX5_fewest 17 = .ok (.ifCond .ne 5, 3) := by decide +kernel
theorem dX5_fewest_20 : decode cX5_fewest 20 = .ok (.iconst (-1), 1) := by decide +kernel
theorem dX5_fewest_21 : decode cX5_fewest 21 = .ok (.ireturn, 1) := by decide +kernel
theorem dX5_fewest_22 : decode cX5_fewest 22 = .ok (.aload_n 0, 1) := by decide +kernel
theorem dX5_fewest_23 : decode cX5_fewest 23 = .ok (.getfield 11, 3) := by decide +kernel
theorem dX5_fewest_26 : decode cX5_fewest 26 = .ok (.iconst (-1), 1) := by decide +kernel
theorem dX5_fewest_27 : decode cX5_fewest 27 = .ok (.invokestatic 25, 3) := by decide +kernel
theorem dX5_fewest_30 : decode cX5_fewest 30 = .ok (.aload_n 0, 1) := by decide +kernel
theorem dX5_fewest_31 : decode cX5_fewest 31 = .ok (.getfield 11, 3) := by decide +kernel
theorem dX5_fewest_34 : decode cX5_fewest 34 = .ok (.iload_n 1, 1) := by decide +kernel
theorem dX5_fewest_35 : decode cX5_fewest 35 = .ok (.iconst 0, 1) := by decide +kernel
theorem dX5_fewest_36 : decode cX5_fewest 36 = .ok (.iastore, 1) := by decide +kernel
theorem dX5_fewest_37 : decode cX5_fewest 37 = .ok (.aload_n 0, 1) := by decide +kernel
theorem dX5_fewest_38 : decode cX5_fewest 38 = .ok (.getfield 15, 3) := by decide +kernel
theorem dX5_fewest_41 : decode cX5_fewest 41 = .ok (.iconst 0, 1) := by decide +kernel
theorem dX5_fewest_42 : decode cX5_fewest 42 = .ok (.iload_n 1, 1) := by decide +kernel
theorem dX5_fewest_43 : decode cX5_fewest 43 = .ok (.iastore, 1) := by decide +kernel
theorem dX5_fewest_44 : decode cX5_fewest 44 = .ok (.aload_n 0, 1) := by decide +kernel
theorem dX5_fewest_45 : decode cX5_fewest 45 = .ok (.iconst 1, 1) := by decide +kernel
theorem dX5_fewest_46 : decode cX5_fewest 46 = .ok (.putfield 31, 3) := by decide +kernel
theorem dX5_fewest_49 : decode cX5_fewest 49 = .ok (.iconst 0, 1) := by decide +kernel
theorem dX5_fewest_50 : decode cX5_fewest 50 = .ok (.istore_n 3, 1) := by decide +kernel
theorem dX5_fewest_51 : decode cX5_fewest 51 = .ok (.iload_n 3, 1) := by decide +kernel
theorem dX5_fewest_52 : decode cX5_fewest 52 = .ok (.sipush 3280, 3) := by decide +kernel
theorem dX5_fewest_55 : decode cX5_fewest 55 = .ok (.if_icmp .ge 67, 3) := by decide +kernel
theorem dX5_fewest_58 : decode cX5_fewest 58 = .ok (.iload_n 3, 1) := by decide +kernel
theorem dX5_fewest_59 : decode cX5_fewest 59 = .ok (.aload_n 0, 1) := by decide +kernel
theorem dX5_fewest_60 : decode cX5_fewest 60 = .ok (.getfield 31, 3) := by decide +kernel
theorem dX5_fewest_63 : decode cX5_fewest 63 = .ok (.if_icmp .ge 59, 3) := by decide +kernel
theorem dX5_fewest_66 : decode cX5_fewest 66 = .ok (.aload_n 0, 1) := by decide +kernel
theorem dX5_fewest_67 : decode cX5_fewest 67 = .ok (.getfield 11, 3) := by decide +kernel
theorem dX5_fewest_70 : decode cX5_fewest 70 = .ok (.iload_n 2, 1) := by decide +kernel
theorem dX5_fewest_71 : decode cX5_fewest 71 = .ok (.iaload, 1) := by decide +kernel
theorem dX5_fewest_72 : decode cX5_fewest 72 = .ok (.iconst (-1), 1) := by decide +kernel
theorem dX5_fewest_73 : decode cX5_fewest 73 = .ok (.if_icmp .ne 49, 3) := by decide +kernel
theorem dX5_fewest_76 : decode cX5_fewest 76 = .ok (.aload_n 0, 1) := by decide +kernel
theorem dX5_fewest_77 : decode cX5_fewest 77 = .ok (.getfield 11, 3) := by decide +kernel
theorem dX5_fewest_80 : decode cX5_fewest 80 = .ok (.aload_n 0, 1) := by decide +kernel
theorem dX5_fewest_81 : decode cX5_fewest 81 = .ok (.getfield 15, 3) := by decide +kernel
theorem dX5_fewest_84 : decode cX5_fewest 84 = .ok (.iload_n 3, 1) := by decide +kernel
theorem dX5_fewest_85 : decode cX5_fewest 85 = .ok (.iaload, 1) := by decide +kernel
theorem dX5_fewest_86 : decode cX5_fewest 86 = .ok (.iaload, 1) := by decide +kernel
theorem dX5_fewest_87 : decode cX5_fewest 87 = .ok (.istore 4, 2) := by decide +kernel
theorem dX5_fewest_89 : decode cX5_fewest 89 = .ok (.iload 4, 2) := by decide +kernel
theorem dX5_fewest_91 : decode cX5_fewest 91 = .ok (.bipush 12, 2) := by decide +kernel
theorem dX5_fewest_93 : decode cX5_fewest 93 = .ok (.if_icmp .lt 5, 3) := by decide +kernel
theorem dX5_fewest_96 : decode cX5_fewest 96 = .ok (.iconst (-1), 1) := by decide +kernel
theorem dX5_fewest_97 : decode cX5_fewest 97 = .ok (.ireturn, 1) := by decide +kernel
theorem dX5_fewest_98 : decode cX5_fewest 98 = .ok (.aload_n 0, 1) := by decide +kernel
theorem dX5_fewest_99 : decode cX5_fewest 99 = .ok (.aload_n 0, 1) := by decide +kernel
theorem dX5_fewest_100 : decode cX5_fewest 100 = .ok (.getfield 15, 3) := by decide +kernel
theorem dX5_fewest_103 : decode cX5_fewest 103 = .ok (.iload_n 3, 1) := by decide +kernel
theorem dX5_fewest_104 : decode cX5_fewest 104 = .ok (.iaload, 1) := by decide +kernel
theorem dX5_fewest_105 : decode cX5_fewest 105 = .ok (.invokevirtual 35, 3) := by decide +kernel
theorem dX5_fewest_108 : decode cX5_fewest 108 = .ok (.aload_n 0, 1) := by decide +kernel
theorem dX5_fewest_109 : decode cX5_fewest 109 = .ok (.iload 4, 2) := by decide +kernel
theorem dX5_fewest_111 : decode cX5_fewest 111 = .ok (.iconst 1, 1) := by decide +kernel
theorem dX5_fewest_112 : decode cX5_fewest 112 = .ok (.iadd, 1) := by decide +kernel
theorem dX5_fewest_113 : decode cX5_fewest 113 = .ok (.invokevirtual 39, 3) := by decide +kernel
theorem dX5_fewest_116 : decode cX5_fewest 116 = .ok (.iinc 3 1, 3) := by decide +kernel
theorem dX5_fewest_119 : decode cX5_fewest 119 = .ok (.goto (-68), 3) := by decide +kernel
theorem dX5_fewest_122 : decode cX5_fewest 122 = .ok (.aload_n 0, 1) := by decide +kernel
theorem dX5_fewest_123 : decode cX5_fewest 123 = .ok (.getfield 11, 3) := by decide +kernel
theorem dX5_fewest_126 : decode cX5_fewest 126 = .ok (.iload_n 2, 1) := by decide +kernel
theorem dX5_fewest_127 : decode cX5_fewest 127 = .ok (.iaload, 1) := by decide +kernel
theorem dX5_fewest_128 : decode cX5_fewest 128 = .ok (.ireturn, 1) := by decide +kernel
theorem dX5_spell_0 : decode cX5_spell 0 = .ok (.aload_n 0, 1) := by decide +kernel
theorem dX5_spell_1 : decode cX5_spell 1 = .ok (.iconst 0, 1) := by decide +kernel
theorem dX5_spell_2 : decode cX5_spell 2 = .ok (.putfield 42, 3) := by decide +kernel
theorem dX5_spell_5 : decode cX5_spell 5 = .ok (.iload_n 1, 1) := by decide +kernel
theorem dX5_spell_6 : decode cX5_spell 6 = .ok (.istore_n 2, 1) := by decide +kernel
theorem dX5_spell_7 : decode cX5_spell 7 = .ok (.iload_n 2, 1) := by decide +kernel
theorem dX5_spell_8 : decode cX5_spell 8 = .ok (.ifCond .le 31, 3) := by decide +kernel
theorem dX5_spell_11 : decode cX5_spell 11 = .ok (.aload_n 0, 1) := by decide +kernel
theorem dX5_spell_12 : decode cX5_spell 12 = .ok (.getfield 42, 3) := by decide +kernel
theorem dX5_spell_15 : decode cX5_spell 15 = .ok (.bipush 7, 2) := by decide +kernel
theorem dX5_spell_17 : decode cX5_spell 17 = .ok (.if_icmp .ge 22, 3) := by decide +kernel
theorem dX5_spell_20 : decode cX5_spell 20 = .ok (.aload_n 0, 1) := by decide +kernel
theorem dX5_spell_21 : decode cX5_spell 21 = .ok (.dup, 1) := by decide +kernel
theorem dX5_spell_22 : decode cX5_spell 22 = .ok (.getfield 42, 3) := by decide +kernel
theorem dX5_spell_25 : decode cX5_spell 25 = .ok (.iconst 1, 1) := by decide +kernel
theorem dX5_spell_26 : decode cX5_spell 26 = .ok (.iadd, 1) := by decide +kernel
theorem dX5_spell_27 : decode cX5_spell 27 = .ok (.putfield 42, 3) := by decide +kernel
theorem dX5_spell_30 : decode cX5_spell 30 = .ok (.iload_n 2, 1) := by decide +kernel
theorem dX5_spell_31 : decode cX5_spell 31 = .ok (.iconst 1, 1) := by decide +kernel
theorem dX5_spell_32 : decode cX5_spell 32 = .ok (.isub, 1) := by decide +kernel
theorem dX5_spell_33 : decode cX5_spell 33 = .ok (.iconst 3, 1) := by decide +kernel
theorem dX5_spell_34 : decode cX5_spell 34 = .ok (.idiv, 1) := by decide +kernel
theorem dX5_spell_35 : decode cX5_spell 35 = .ok (.istore_n 2, 1) := by decide +kernel
theorem dX5_spell_36 : decode cX5_spell 36 = .ok (.goto (-29), 3) := by decide +kernel
theorem dX5_spell_39 : decode cX5_spell 39 = .ok (.iload_n 1, 1) := by decide +kernel
theorem dX5_spell_40 : decode cX5_spell 40 = .ok (.istore_n 2, 1) := by decide +kernel
theorem dX5_spell_41 : decode cX5_spell 41 = .ok (.aload_n 0, 1) := by decide +kernel
theorem dX5_spell_42 : decode cX5_spell 42 = .ok (.getfield 42, 3) := by decide +kernel
theorem dX5_spell_45 : decode cX5_spell 45 = .ok (.iconst 1, 1) := by decide +kernel
theorem dX5_spell_46 : decode cX5_spell 46 = .ok (.isub, 1) := by decide +kernel
theorem dX5_spell_47 : decode cX5_spell 47 = .ok (.istore_n 3, 1) := by decide +kernel
theorem dX5_spell_48 : decode cX5_spell 48 = .ok (.iload_n 3, 1) := by decide +kernel
theorem dX5_spell_49 : decode cX5_spell 49 = .ok (.ifCond .lt 26, 3) := by decide +kernel
theorem dX5_spell_52 : decode cX5_spell 52 = .ok (.aload_n 0, 1) := by decide +kernel
theorem dX5_spell_53 : decode cX5_spell 53 = .ok (.getfield 18, 3) := by decide +kernel
theorem dX5_spell_56 : decode cX5_spell 56 = .ok (.iload_n 3, 1) := by decide +kernel
theorem dX5_spell_57 : decode cX5_spell 57 = .ok (.iload_n 2, 1) := by decide +kernel
theorem dX5_spell_58 : decode cX5_spell 58 = .ok (.iconst 1, 1) := by decide +kernel
theorem dX5_spell_59 : decode cX5_spell 59 = .ok (.isub, 1) := by decide +kernel
theorem dX5_spell_60 : decode cX5_spell 60 = .ok (.iconst 3, 1) := by decide +kernel
theorem dX5_spell_61 : decode cX5_spell 61 = .ok (.irem, 1) := by decide +kernel
theorem dX5_spell_62 : decode cX5_spell 62 = .ok (.iastore, 1) := by decide +kernel
theorem dX5_spell_63 : decode cX5_spell 63 = .ok (.iload_n 2, 1) := by decide +kernel
theorem dX5_spell_64 : decode cX5_spell 64 = .ok (.iconst 1, 1) := by decide +kernel
theorem dX5_spell_65 : decode cX5_spell 65 = .ok (.isub, 1) := by decide +kernel
theorem dX5_spell_66 : decode cX5_spell 66 = .ok (.iconst 3, 1) := by decide +kernel
theorem dX5_spell_67 : decode cX5_spell 67 = .ok (.idiv, 1) := by decide +kernel
theorem dX5_spell_68 : decode cX5_spell 68 = .ok (.istore_n 2, 1) := by decide +kernel
theorem dX5_spell_69 : decode cX5_spell 69 = .ok (.iinc 3 (-1), 3) := by decide +kernel
theorem dX5_spell_72 : decode cX5_spell 72 = .ok (.goto (-24), 3) := by decide +kernel
theorem dX5_spell_75 : decode cX5_spell 75 = .ok (.return_, 1) := by decide +kernel
theorem dX5_reachAll_0 : decode cX5_reachAll 0 = .ok (.iconst 0, 1) := by decide +kernel
theorem dX5_reachAll_1 : decode cX5_reachAll 1 = .ok (.istore_n 2, 1) := by decide +kernel
theorem dX5_reachAll_2 : decode cX5_reachAll 2 = .ok (.iload_n 2, 1) := by decide +kernel
theorem dX5_reachAll_3 : decode cX5_reachAll 3 = .ok (.iconst 1, 1) := by decide +kernel
theorem dX5_reachAll_4 : decode cX5_reachAll 4 = .ok (.iadd, 1) := by decide +kernel
theorem dX5_reachAll_5 : decode cX5_reachAll 5 = .ok (.aload_n 0, 1) := by decide +kernel
theorem dX5_reachAll_6 : decode cX5_reachAll 6 = .ok (.getfield 42, 3) := by decide +kernel
theorem dX5_reachAll_9 : decode cX5_reachAll 9 = .ok (.if_icmp .ge 82, 3) := by decide +kernel
theorem dX5_reachAll_12 : decode cX5_reachAll 12 = .ok (.aload_n 0, 1) := by decide +kernel
theorem dX5_reachAll_13 : decode cX5_reachAll 13 = .ok (.getfield 18, 3) := by decide +kernel
theorem dX5_reachAll_16 : decode cX5_reachAll 16 = .ok (.iload_n 2, 1) := by decide +kernel
theorem dX5_reachAll_17 : decode cX5_reachAll 17 = .ok (.iaload, 1) := by decide +kernel
theorem dX5_reachAll_18 : decode cX5_reachAll 18 = .ok (.istore_n 3, 1) := by decide +kernel
theorem dX5_reachAll_19 : decode cX5_reachAll 19 = .ok (.aload_n 0, 1) := by decide +kernel
theorem dX5_reachAll_20 : decode cX5_reachAll 20 = .ok (.getfield 18, 3) := by decide +kernel
theorem dX5_reachAll_23 : decode cX5_reachAll 23 = .ok (.iload_n 2, 1) := by decide +kernel
theorem dX5_reachAll_24 : decode cX5_reachAll 24 = .ok (.iconst 1, 1) := by decide +kernel
theorem dX5_reachAll_25 : decode cX5_reachAll 25 = .ok (.iadd, 1) := by decide +kernel
theorem dX5_reachAll_26 : decode cX5_reachAll 26 = .ok (.iaload, 1) := by decide +kernel
theorem dX5_reachAll_27 : decode cX5_reachAll 27 = .ok (.istore 4, 2) := by decide +kernel
theorem dX5_reachAll_29 : decode cX5_reachAll 29 = .ok (.iload_n 3, 1) := by decide +kernel
theorem dX5_reachAll_30 : decode cX5_reachAll 30 = .ok (.iload 4, 2) := by decide +kernel
theorem dX5_reachAll_32 : decode cX5_reachAll 32 = .ok (.iadd, 1) := by decide +kernel
theorem dX5_reachAll_33 : decode cX5_reachAll 33 = .ok (.iconst 1, 1) := by decide +kernel
theorem dX5_reachAll_34 : decode cX5_reachAll 34 = .ok (.if_icmp .eq 14, 3) := by decide +kernel
theorem dX5_reachAll_37 : decode cX5_reachAll 37 = .ok (.iload_n 3, 1) := by decide +kernel
theorem dX5_reachAll_38 : decode cX5_reachAll 38 = .ok (.iconst 2, 1) := by decide +kernel
theorem dX5_reachAll_39 : decode cX5_reachAll 39 = .ok (.if_icmp .ne 23, 3) := by decide +kernel
theorem dX5_reachAll_42 : decode cX5_reachAll 42 = .ok (.iload 4, 2) := by decide +kernel
theorem dX5_reachAll_44 : decode cX5_reachAll 44 = .ok (.iconst 2, 1) := by decide +kernel
theorem dX5_reachAll_45 : decode cX5_reachAll 45 = .ok (.if_icmp .ne 17, 3) := by decide +kernel
theorem dX5_reachAll_48 : decode cX5_reachAll 48 = .ok (.aload_n 0, 1) := by decide +kernel
theorem dX5_reachAll_49 : decode cX5_reachAll 49 = .ok (.iload_n 1, 1) := by decide +kernel
theorem dX5_reachAll_50 : decode cX5_reachAll 50 = .ok (.iload_n 2, 1) := by decide +kernel
theorem dX5_reachAll_51 : decode cX5_reachAll 51 = .ok (.iconst (-1), 1) := by decide +kernel
theorem dX5_reachAll_52 : decode cX5_reachAll 52 = .ok (.iconst (-1), 1) := by decide +kernel
theorem dX5_reachAll_53 : decode cX5_reachAll 53 = .ok (.iload_n 2, 1) := by decide +kernel
theorem dX5_reachAll_54 : decode cX5_reachAll 54 = .ok (.iconst 2, 1) := by decide +kernel
theorem dX5_reachAll_55 : decode cX5_reachAll 55 = .ok (.iadd, 1) := by decide +kernel
theorem dX5_reachAll_56 : decode cX5_reachAll 56 = .ok (.invokevirtual 45, 3) := by decide +kernel
theorem dX5_reachAll_59 : decode cX5_reachAll 59 = .ok (.goto 26, 3) := by decide +kernel
theorem dX5_reachAll_62 : decode cX5_reachAll 62 = .ok (.iload_n 3, 1) := by decide +kernel
theorem dX5_reachAll_63 : decode cX5_reachAll 63 = .ok (.iconst 2, 1) := by decide +kernel
theorem dX5_reachAll_64 : decode cX5_reachAll 64 = .ok (.if_icmp .eq 9, 3) := by decide +kernel
theorem dX5_reachAll_67 : decode cX5_reachAll 67 = .ok (.iload 4, 2) := by decide +kernel
theorem dX5_reachAll_69 : decode cX5_reachAll 69 = .ok (.iconst 2, 1) := by decide +kernel
theorem dX5_reachAll_70 : decode cX5_reachAll 70 = .ok (.if_icmp .ne 15, 3) := by decide +kernel
theorem dX5_reachAll_73 : decode cX5_reachAll 73 = .ok (.aload_n 0, 1) := by decide +kernel
theorem dX5_reachAll_74 : decode cX5_reachAll 74 = .ok (.iload_n 1, 1) := by decide +kernel
theorem dX5_reachAll_75 : decode cX5_reachAll 75 = .ok (.iload_n 2, 1) := by decide +kernel
theorem dX5_reachAll_76 : decode cX5_reachAll 76 = .ok (.iload 4, 2) := by decide +kernel
theorem dX5_reachAll_78 : decode cX5_reachAll 78 = .ok (.iload_n 3, 1) := by decide +kernel
theorem dX5_reachAll_79 : decode cX5_reachAll 79 = .ok (.iload_n 2, 1) := by decide +kernel
theorem dX5_reachAll_80 : decode cX5_reachAll 80 = .ok (.iconst 2, 1) := by decide +kernel
theorem dX5_reachAll_81 : decode cX5_reachAll 81 = .ok (.iadd, 1) := by decide +kernel
theorem dX5_reachAll_82 : decode cX5_reachAll 82 = .ok (.invokevirtual 45, 3) := by decide +kernel
theorem dX5_reachAll_85 : decode cX5_reachAll 85 = .ok (.iinc 2 1, 3) := by decide +kernel
theorem dX5_reachAll_88 : decode cX5_reachAll 88 = .ok (.goto (-86), 3) := by decide +kernel
theorem dX5_reachAll_91 : decode cX5_reachAll 91 = .ok (.iconst 0, 1) := by decide +kernel
theorem dX5_reachAll_92 : decode cX5_reachAll 92 = .ok (.istore_n 2, 1) := by decide +kernel
theorem dX5_reachAll_93 : decode cX5_reachAll 93 = .ok (.iload_n 2, 1) := by decide +kernel
theorem dX5_reachAll_94 : decode cX5_reachAll 94 = .ok (.aload_n 0, 1) := by decide +kernel
theorem dX5_reachAll_95 : decode cX5_reachAll 95 = .ok (.getfield 42, 3) := by decide +kernel
theorem dX5_reachAll_98 : decode cX5_reachAll 98 = .ok (.if_icmp .gt 47, 3) := by decide +kernel
theorem dX5_reachAll_101 : decode cX5_reachAll 101 = .ok (.aload_n 0, 1) := by decide +kernel
theorem dX5_reachAll_102 : decode cX5_reachAll 102 = .ok (.getfield 42, 3) := by decide +kernel
theorem dX5_reachAll_105 : decode cX5_reachAll 105 = .ok (.iconst 2, 1) := by decide +kernel
theorem dX5_reachAll_106 : decode cX5_reachAll 106 = .ok (.iadd, 1) := by decide +kernel
theorem dX5_reachAll_107 : decode cX5_reachAll 107 = .ok (.bipush 7, 2) := by decide +kernel
theorem dX5_reachAll_109 : decode cX5_reachAll 109 = .ok (.if_icmp .gt 36, 3) := by decide +kernel
theorem dX5_reachAll_112 : decode cX5_reachAll 112 = .ok (.aload_n 0, 1) := by decide +kernel
theorem dX5_reachAll_113 : decode cX5_reachAll 113 = .ok (.iload_n 1, 1) := by decide +kernel
theorem dX5_reachAll_114 : decode cX5_reachAll 114 = .ok (.iload_n 2, 1) := by decide +kernel
theorem dX5_reachAll_115 : decode cX5_reachAll 115 = .ok (.iconst 0, 1) := by decide +kernel
theorem dX5_reachAll_116 : decode cX5_reachAll 116 = .ok (.iconst 1, 1) := by decide +kernel
theorem dX5_reachAll_117 : decode cX5_reachAll 117 = .ok (.iload_n 2, 1) := by decide +kernel
theorem dX5_reachAll_118 : decode cX5_reachAll 118 = .ok (.invokevirtual 45, 3) := by decide +kernel
theorem dX5_reachAll_121 : decode cX5_reachAll 121 = .ok (.aload_n 0, 1) := by decide +kernel
theorem dX5_reachAll_122 : decode cX5_reachAll 122 = .ok (.iload_n 1, 1) := by decide +kernel
theorem dX5_reachAll_123 : decode cX5_reachAll 123 = .ok (.iload_n 2, 1) := by decide +kernel
theorem dX5_reachAll_124 : decode cX5_reachAll 124 = .ok (.iconst 1, 1) := by decide +kernel
theorem dX5_reachAll_125 : decode cX5_reachAll 125 = .ok (.iconst 0, 1) := by decide +kernel
theorem dX5_reachAll_126 : decode cX5_reachAll 126 = .ok (.iload_n 2, 1) := by decide +kernel
theorem dX5_reachAll_127 : decode cX5_reachAll 127 = .ok (.invokevirtual 45, 3) := by decide +kernel
theorem dX5_reachAll_130 : decode cX5_reachAll 130 = .ok (.aload_n 0, 1) := by decide +kernel
theorem dX5_reachAll_131 : decode cX5_reachAll 131 = .ok (.iload_n 1, 1) := by decide +kernel
theorem dX5_reachAll_132 : decode cX5_reachAll 132 = .ok (.iload_n 2, 1) := by decide +kernel
theorem dX5_reachAll_133 : decode cX5_reachAll 133 = .ok (.iconst 2, 1) := by decide +kernel
theorem dX5_reachAll_134 : decode cX5_reachAll 134 = .ok (.iconst 2, 1) := by decide +kernel
theorem dX5_reachAll_135 : decode cX5_reachAll 135 = .ok (.iload_n 2, 1) := by decide +kernel
theorem dX5_reachAll_136 : decode cX5_reachAll 136 = .ok (.invokevirtual 45, 3) := by decide +kernel
theorem dX5_reachAll_139 : decode cX5_reachAll 139 = .ok (.iinc 2 1, 3) := by decide +kernel
theorem dX5_reachAll_142 : decode cX5_reachAll 142 = .ok (.goto (-49), 3) := by decide +kernel
theorem dX5_reachAll_145 : decode cX5_reachAll 145 = .ok (.return_, 1) := by decide +kernel
theorem dX5_reach_0 : decode cX5_reach 0 = .ok (.iconst 0, 1) := by decide +kernel
theorem dX5_reach_1 : decode cX5_reach 1 = .ok (.istore 6, 2) := by decide +kernel
theorem dX5_reach_3 : decode cX5_reach 3 = .ok (.iconst 0, 1) := by decide +kernel
theorem dX5_reach_4 : decode cX5_reach 4 = .ok (.istore 7, 2) := by decide +kernel
theorem dX5_reach_6 : decode cX5_reach 6 = .ok (.iload 7, 2) := by decide +kernel
theorem dX5_reach_8 : decode cX5_reach 8 = .ok (.iload_n 2, 1) := by decide +kernel
theorem dX5_reach_9 : decode cX5_reach 9 = .ok (.if_icmp .ge 23, 3) := by decide +kernel
theorem dX5_reach_12 : decode cX5_reach 12 = .ok (.iload 6, 2) := by decide +kernel
theorem dX5_reach_14 : decode cX5_reach 14 = .ok (.aload_n 0, 1) := by decide +kernel
theorem dX5_reach_15 : decode cX5_reach 15 = .ok (.getfield 18, 3) := by decide +kernel
theorem dX5_reach_18 : decode cX5_reach 18 = .ok (.iload 7, 2) := by decide +kernel
theorem dX5_reach_20 : decode cX5_reach 20 = .ok (.iaload, 1) := by decide +kernel
theorem dX5_reach_21 : decode cX5_reach 21 = .ok (.invokestatic 49, 3) := by decide +kernel
theorem dX5_reach_24 : decode cX5_reach 24 = .ok (.istore 6, 2) := by decide +kernel
theorem dX5_reach_26 : decode cX5_reach 26 = .ok (.iinc 7 1, 3) := by decide +kernel
theorem dX5_reach_29 : decode cX5_reach 29 = .ok (.goto (-23), 3) := by decide +kernel
theorem dX5_reach_32 : decode cX5_reach 32 = .ok (.iload_n 3, 1) := by decide +kernel
theorem dX5_reach_33 : decode cX5_reach 33 = .ok (.iconst (-1), 1) := by decide +kernel
theorem dX5_reach_34 : decode cX5_reach 34 = .ok (.if_icmp .eq 16, 3) := by decide +kernel
theorem dX5_reach_37 : decode cX5_reach 37 = .ok (.iload 6, 2) := by decide +kernel
theorem dX5_reach_39 : decode cX5_reach 39 = .ok (.iload_n 3, 1) := by decide +kernel
theorem dX5_reach_40 : decode cX5_reach 40 = .ok (.invokestatic 49, 3) := by decide +kernel
theorem dX5_reach_43 : decode cX5_reach 43 = .ok (.iload 4, 2) := by decide +kernel
theorem dX5_reach_45 : decode cX5_reach 45 = .ok (.invokestatic 49, 3) := by decide +kernel
theorem dX5_reach_48 : decode cX5_reach 48 = .ok (.istore 6, 2) := by decide +kernel
theorem dX5_reach_50 : decode cX5_reach 50 = .ok (.iload 5, 2) := by decide +kernel
theorem dX5_reach_52 : decode cX5_reach 52 = .ok (.istore 7, 2) := by decide +kernel
theorem dX5_reach_54 : decode cX5_reach 54 = .ok (.iload 7, 2) := by decide +kernel
theorem dX5_reach_56 : decode cX5_reach 56 = .ok (.aload_n 0, 1) := by decide +kernel
theorem dX5_reach_57 : decode cX5_reach 57 = .ok (.getfield 42, 3) := by decide +kernel
theorem dX5_reach_60 : decode cX5_reach 60 = .ok (.if_icmp .ge 23, 3) := by decide +kernel
theorem dX5_reach_63 : decode cX5_reach 63 = .ok (.iload 6, 2) := by decide +kernel
theorem dX5_reach_65 : decode cX5_reach 65 = .ok (.aload_n 0, 1) := by decide +kernel
theorem dX5_reach_66 : decode cX5_reach 66 = .ok (.getfield 18, 3) := by decide +kernel
theorem dX5_reach_69 : decode cX5_reach 69 = .ok (.iload 7, 2) := by decide +kernel
theorem dX5_reach_71 : decode cX5_reach 71 = .ok (.iaload, 1) := by decide +kernel
theorem dX5_reach_72 : decode cX5_reach 72 = .ok (.invokestatic 49, 3) := by decide +kernel
theorem dX5_reach_75 : decode cX5_reach 75 = .ok (.istore 6, 2) := by decide +kernel
theorem dX5_reach_77 : decode cX5_reach 77 = .ok (.iinc 7 1, 3) := by decide +kernel
theorem dX5_reach_80 : decode cX5_reach 80 = .ok (.goto (-26), 3) := by decide +kernel
theorem dX5_reach_83 : decode cX5_reach 83 = .ok (.iload 6, 2) := by decide +kernel
theorem dX5_reach_85 : decode cX5_reach 85 = .ok (.sipush 3280, 3) := by decide +kernel
theorem dX5_reach_88 : decode cX5_reach 88 = .ok (.invokestatic 21, 3) := by decide +kernel
theorem dX5_reach_91 : decode cX5_reach 91 = .ok (.ifCond .eq 43, 3) := by decide +kernel
theorem dX5_reach_94 : decode cX5_reach 94 = .ok (.aload_n 0, 1) := by decide +kernel
theorem dX5_reach_95 : decode cX5_reach 95 = .ok (.getfield 11, 3) := by decide +kernel
theorem dX5_reach_98 : decode cX5_reach 98 = .ok (.iload 6, 2) := by decide +kernel
theorem dX5_reach_100 : decode cX5_reach 100 = .ok (.iaload, 1) := by decide +kernel
theorem dX5_reach_101 : decode cX5_reach 101 = .ok (.iconst (-1), 1) := by decide +kernel
theorem dX5_reach_102 : decode cX5_reach 102 = .ok (.if_icmp .ne 32, 3) := by decide +kernel
theorem dX5_reach_105 : decode cX5_reach 105 = .ok (.aload_n 0, 1) := by decide +kernel
theorem dX5_reach_106 : decode cX5_reach 106 = .ok (.getfield 11, 3) := by decide +kernel
theorem dX5_reach_109 : decode cX5_reach 109 = .ok (.iload 6, 2) := by decide +kernel
theorem dX5_reach_111 : decode cX5_reach 111 = .ok (.iload_n 1, 1) := by decide +kernel
theorem dX5_reach_112 : decode cX5_reach 112 = .ok (.iastore, 1) := by decide +kernel
theorem dX5_reach_113 : decode cX5_reach 113 = .ok (.aload_n 0, 1) := by decide +kernel
theorem dX5_reach_114 : decode cX5_reach 114 = .ok (.getfield 15, 3) := by decide +kernel
theorem dX5_reach_117 : decode cX5_reach 117 = .ok (.aload_n 0, 1) := by decide +kernel
theorem dX5_reach_118 : decode cX5_reach 118 = .ok (.getfield 31, 3) := by decide +kernel
theorem dX5_reach_121 : decode cX5_reach 121 = .ok (.iload 6, 2) := by decide +kernel
theorem dX5_reach_123 : decode cX5_reach 123 = .ok (.iastore, 1) := by decide +kernel
theorem dX5_reach_124 : decode cX5_reach 124 = .ok (.aload_n 0, 1) := by decide +kernel
theorem dX5_reach_125 : decode cX5_reach 125 = .ok (.dup, 1) := by decide +kernel
theorem dX5_reach_126 : decode cX5_reach 126 = .ok (.getfield 31, 3) := by decide +kernel
theorem dX5_reach_129 : decode cX5_reach 129 = .ok (.iconst 1, 1) := by decide +kernel
theorem dX5_reach_130 : decode cX5_reach 130 = .ok (.iadd, 1) := by decide +kernel
theorem dX5_reach_131 : decode cX5_reach 131 = .ok (.putfield 31, 3) := by decide +kernel
theorem dX5_reach_134 : decode cX5_reach 134 = .ok (.return_, 1) := by decide +kernel
theorem dX6_init_0 : decode cX6_init 0 = .ok (.aload_n 0, 1) := by decide +kernel
theorem dX6_init_1 : decode cX6_init 1 = .ok (.invokespecial 3, 3) := by decide +kernel
theorem dX6_init_4 : decode cX6_init 4 = .ok (.aload_n 0, 1) := by decide +kernel
theorem dX6_init_5 : decode cX6_init 5 = .ok (.bipush 24, 2) := by decide +kernel
theorem dX6_init_7 : decode cX6_init 7 = .ok (.newarray .int, 2) := by decide +kernel
theorem dX6_init_9 : decode cX6_init 9 = .ok (.putfield 9, 3) := by decide +kernel
theorem dX6_init_12 : decode cX6_init 12 = .ok (.aload_n 0, 1) := by decide +kernel
theorem dX6_init_13 : decode cX6_init 13 = .ok (.bipush 24, 2) := by decide +kernel
theorem dX6_init_15 : decode cX6_init 15 = .ok (.newarray .int, 2) := by decide +kernel
theorem dX6_init_17 : decode cX6_init 17 = .ok (.putfield 15, 3) := by decide +kernel
theorem dX6_init_20 : decode cX6_init 20 = .ok (.aload_n 0, 1) := by decide +kernel
theorem dX6_init_21 : decode cX6_init 21 = .ok (.aload_n 1, 1) := by decide +kernel
theorem dX6_init_22 : decode cX6_init 22 = .ok (.putfield 18, 3) := by decide +kernel
theorem dX6_init_25 : decode cX6_init 25 = .ok (.return_, 1) := by decide +kernel
theorem dX6_lineUp_0 : decode cX6_lineUp 0 = .ok (.aload_n 0, 1) := by decide +kernel
theorem dX6_lineUp_1 : decode cX6_lineUp 1 = .ok (.iconst 0, 1) := by decide +kernel
theorem dX6_lineUp_2 : decode cX6_lineUp 2 = .ok (.putfield 22, 3) := by decide +kernel
theorem dX6_lineUp_5 : decode cX6_lineUp 5 = .ok (.iconst 0, 1) := by decide +kernel
theorem dX6_lineUp_6 : decode cX6_lineUp 6 = .ok (.istore_n 2, 1) := by decide +kernel
theorem dX6_lineUp_7 : decode cX6_lineUp 7 = .ok (.iload_n 2, 1) := by decide +kernel
theorem dX6_lineUp_8 : decode cX6_lineUp 8 = .ok (.aload_n 1, 1) := by decide +kernel
theorem dX6_lineUp_9 : decode cX6_lineUp 9 = .ok (.getfield 26, 3) := by decide +kernel
theorem dX6_lineUp_12 : decode cX6_lineUp 12 = .ok (.if_icmp .ge 154, 3) := by decide +kernel
theorem dX6_lineUp_15 : decode cX6_lineUp 15 = .ok (.aload_n 1, 1) := by decide +kernel
theorem dX6_lineUp_16 : decode cX6_lineUp 16 = .ok (.getfield 31, 3) := by decide +kernel
theorem dX6_lineUp_19 : decode cX6_lineUp 19 = .ok (.iload_n 2, 1) := by decide +kernel
theorem dX6_lineUp_20 : decode cX6_lineUp 20 = .ok (.iaload, 1) := by decide +kernel
theorem dX6_lineUp_21 : decode cX6_lineUp 21 = .ok (.iconst (-1), 1) := by decide +kernel
theorem dX6_lineUp_22 : decode cX6_lineUp 22 = .ok (.if_icmp .ne 11, 3) := by decide +kernel
theorem dX6_lineUp_25 : decode cX6_lineUp 25 = .ok (.aload_n 1, 1) := by decide +kernel
theorem dX6_lineUp_26 : decode cX6_lineUp 26 = .ok (.iload_n 2, 1) := by decide +kernel
theorem dX6_lineUp_27 : decode cX6_lineUp 27 = .ok (.invokevirtual 34, 3) := by decide +kernel
theorem dX6_lineUp_30 : decode cX6_lineUp 30 = .ok (.goto 4, 3) := by decide +kernel
theorem dX6_lineUp_33 : decode cX6_lineUp 33 = .ok (.iconst (-1), 1) := by decide +kernel
theorem dX6_lineUp_34 : decode cX6_lineUp 34 = .ok (.istore_n 3, 1) := by decide +kernel
theorem dX6_lineUp_35 : decode cX6_lineUp 35 = .ok (.iload_n 3, 1) := by decide +kernel
theorem dX6_lineUp_36 : decode cX6_lineUp 36 = .ok (.iconst (-1), 1) := by decide +kernel
theorem dX6_lineUp_37 : decode cX6_lineUp 37 = .ok (.if_icmp .eq 123, 3) := by decide +kernel
theorem dX6_lineUp_40 : decode cX6_lineUp 40 = .ok (.aload_n 1, 1) := by decide +kernel
theorem dX6_lineUp_41 : decode cX6_lineUp 41 = .ok (.getfield 38, 3) := by decide +kernel
theorem dX6_lineUp_44 : decode cX6_lineUp 44 = .ok (.iload_n 2, 1) := by decide +kernel
theorem dX6_lineUp_45 : decode cX6_lineUp 45 = .ok (.bipush 6, 2) := by decide +kernel
theorem dX6_lineUp_47 : decode cX6_lineUp 47 = .ok (.imul, 1) := by decide +kernel
theorem dX6_lineUp_48 : decode cX6_lineUp 48 = .ok (.iload_n 3, 1) := by decide +kernel
theorem dX6_lineUp_49 : decode cX6_lineUp 49 = .ok (.iadd, 1) := by decide +kernel
theorem dX6_lineUp_50 : decode cX6_lineUp 50 = .ok (.iaload, 1) := by decide +kernel
theorem dX6_lineUp_51 : decode cX6_lineUp 51 = .ok (.istore 4, 2) := by decide +kernel
theorem dX6_lineUp_53 : decode cX6_lineUp 53 = .ok (.aload_n 0, 1) := by decide +kernel
theorem dX6_lineUp_54 : decode cX6_lineUp 54 = .ok (.getfield 22, 3) := by decide +kernel
theorem dX6_lineUp_57 : decode cX6_lineUp 57 = .ok (.istore 5, 2) := by decide +kernel
theorem dX6_lineUp_59 : decode cX6_lineUp 59 = .ok (.iload 5, 2) := by decide +kernel
theorem dX6_lineUp_61 : decode cX6_lineUp 61 = .ok (.ifCond .le 73, 3) := by decide +kernel
theorem dX6_lineUp_64 : decode cX6_lineUp 64 = .ok (.aload_n 1, 1) := by decide +kernel
theorem dX6_lineUp_65 : decode cX6_lineUp 65 = .ok (.getfield 38, 3) := by decide +kernel
theorem dX6_lineUp_68 : decode cX6_lineUp 68 = .ok (.aload_n 0, 1) := by decide +kernel
theorem dX6_lineUp_69 : decode cX6_lineUp 69 = .ok (.getfield 9, 3) := by decide +kernel
theorem dX6_lineUp_72 : decode cX6_lineUp 72 = .ok (.iload 5, 2) := by decide +kernel
theorem dX6_lineUp_74 : decode cX6_lineUp 74 = .ok (.iconst 1, 1) := by decide +kernel
theorem dX6_lineUp_75 : decode cX6_lineUp 75 = .ok (.isub, 1) := by decide +kernel
theorem dX6_lineUp_76 : decode cX6_lineUp 76 = .ok (.iaload, 1) := by decide +kernel
theorem dX6_lineUp_77 : decode cX6_lineUp 77 = .ok (.bipush 6, 2) := by decide +kernel
theorem dX6_lineUp_79 : decode cX6_lineUp 79 = .ok (.imul, 1) := by decide +kernel
theorem dX6_lineUp_80 : decode cX6_lineUp 80 = .ok (.aload_n 0, 1) := by decide +kernel
theorem dX6_lineUp_81 : decode cX6_lineUp 81 = .ok (.getfield 15, 3) := by decide +kernel
theorem dX6_lineUp_84 : decode cX6_lineUp 84 = .ok (.iload 5, 2) := by decide +kernel
theorem dX6_lineUp_86 : decode cX6_lineUp 86 = .ok (.iconst 1, 1) := by decide +kernel
theorem dX6_lineUp_87 : decode cX6_lineUp 87 = .ok (.isub, 1) := by decide +kernel
theorem dX6_lineUp_88 : decode cX6_lineUp 88 = .ok (.iaload, 1) := by decide +kernel
theorem dX6_lineUp_89 : decode cX6_lineUp 89 = .ok (.iadd, 1) := by decide +kernel
theorem dX6_lineUp_90 : decode cX6_lineUp 90 = .ok (.iaload, 1) := by decide +kernel
theorem dX6_lineUp_91 : decode cX6_lineUp 91 = .ok (.iload 4, 2) := by decide +kernel
theorem dX6_lineUp_93 : decode cX6_lineUp 93 = .ok (.if_icmp .le 41, 3) := by decide +kernel
theorem dX6_lineUp_96 : decode cX6_lineUp 96 = .ok (.aload_n 0, 1) := by decide +kernel
theorem dX6_lineUp_97 : decode cX6_lineUp 97 = .ok (.getfield 9, 3) := by decide +kernel
theorem dX6_lineUp_100 : decode cX6_lineUp 100 = .ok (.iload 5, 2) := by decide +kernel
theorem dX6_lineUp_102 : decode cX6_lineUp 102 = .ok (.aload_n 0, 1) := by decide +kernel
theorem dX6_lineUp_103 : decode cX6_lineUp 103 = .ok (.getfield 9, 3) := by decide +kernel
theorem dX6_lineUp_106 : decode cX6_lineUp 106 = .ok (.iload 5, 2) := by decide +kernel
theorem dX6_lineUp_108 : decode cX6_lineUp 108 = .ok (.iconst 1, 1) := by decide +kernel
theorem dX6_lineUp_109 : decode cX6_lineUp 109 = .ok (.isub, 1) := by decide +kernel
theorem dX6_lineUp_110 : decode cX6_lineUp 110 = .ok (.iaload, 1) := by decide +kernel
theorem dX6_lineUp_111 : decode cX6_lineUp 111 = .ok (.iastore, 1) := by decide +kernel
theorem dX6_lineUp_112 : decode cX6_lineUp 112 = .ok (.aload_n 0, 1) := by decide +kernel
theorem dX6_lineUp_113 : decode cX6_lineUp 113 = .ok (.getfield 15, 3) := by decide +kernel
theorem dX6_lineUp_116 : decode cX6_lineUp 116 = .ok (.iload 5, 2) := by decide +kernel
theorem dX6_lineUp_118 : decode cX6_lineUp 118 = .ok (.aload_n 0, 1) := by decide +kernel
theorem dX6_lineUp_119 : decode cX6_lineUp 119 = .ok (.getfield 15, 3) := by decide +kernel
theorem dX6_lineUp_122 : decode cX6_lineUp 122 = .ok (.iload 5, 2) := by decide +kernel
theorem dX6_lineUp_124 : decode cX6_lineUp 124 = .ok (.iconst 1, 1) := by decide +kernel
theorem dX6_lineUp_125 : decode cX6_lineUp 125 = .ok (.isub, 1) := by decide +kernel
theorem dX6_lineUp_126 : decode cX6_lineUp 126 = .ok (.iaload, 1) := by decide +kernel
theorem dX6_lineUp_127 : decode cX6_lineUp 127 = .ok (.iastore, 1) := by decide +kernel
theorem dX6_lineUp_128 : decode cX6_lineUp 128 = .ok (.iinc 5 (-1), 3) := by decide +kernel
theorem dX6_lineUp_131 : decode cX6_lineUp 131 = .ok (.goto (-72), 3) := by decide +kernel
theorem dX6_lineUp_134 : decode cX6_lineUp 134 = .ok (.aload_n 0, 1) := by decide +kernel
theorem dX6_lineUp_135 : decode cX6_lineUp 135 = .ok (.getfield 9, 3) := by decide +kernel
theorem dX6_lineUp_138 : decode cX6_lineUp 138 = .ok (.iload 5, 2) := by decide +kernel
theorem dX6_lineUp_140 : decode cX6_lineUp 140 = .ok (.iload_n 2, 1) := by decide +kernel
theorem dX6_lineUp_141 : decode cX6_lineUp 141 = .ok (.iastore, 1) := by decide +kernel
theorem dX6_lineUp_142 : decode cX6_lineUp 142 = .ok (.aload_n 0, 1) := by decide +kernel
theorem dX6_lineUp_143 : decode cX6_lineUp 143 = .ok (.getfield 15, 3) := by decide +kernel
theorem dX6_lineUp_146 : decode cX6_lineUp 146 = .ok (.iload 5, 2) := by decide +kernel
theorem dX6_lineUp_148 : decode cX6_lineUp 148 = .ok (.iload_n 3, 1) := by decide +kernel
theorem dX6_lineUp_149 : decode cX6_lineUp 149 = .ok (.iastore, 1) := by decide +kernel
theorem dX6_lineUp_150 : decode cX6_lineUp 150 = .ok (.aload_n 0, 1) := by decide +kernel
theorem dX6_lineUp_151 : decode cX6_lineUp 151 = .ok (.dup, 1) := by decide +kernel
theorem dX6_lineUp_152 : decode cX6_lineUp 152 = .ok (.getfield 22, 3) := by decide +kernel
theorem dX6_lineUp_155 : decode cX6_lineUp 155 = .ok (.iconst 1, 1) := by decide +kernel
theorem dX6_lineUp_156 : decode cX6_lineUp 156 = .ok (.iadd, 1) := by decide +kernel
theorem dX6_lineUp_157 : decode cX6_lineUp 157 = .ok (.putfield 22, 3) := by decide +kernel
theorem dX6_lineUp_160 : decode cX6_lineUp 160 = .ok (.iinc 2 1, 3) := by decide +kernel
theorem dX6_lineUp_163 : decode cX6_lineUp 163 = .ok (.goto (-156), 3) := by decide +kernel
theorem dX6_lineUp_166 : decode cX6_lineUp 166 = .ok (.return_, 1) := by decide +kernel
theorem dX6_tieAll_0 : decode cX6_tieAll 0 = .ok (.aload_n 0, 1) := by decide +kernel
theorem dX6_tieAll_1 : decode cX6_tieAll 1 = .ok (.aload_n 2, 1) := by decide +kernel
theorem dX6_tieAll_2 : decode cX6_tieAll 2 = .ok (.invokevirtual 41, 3) := by decide +kernel
theorem dX6_tieAll_5 : decode cX6_tieAll 5 = .ok (.aload_n 0, 1) := by decide +kernel
theorem dX6_tieAll_6 : decode cX6_tieAll 6 = .ok (.iconst 0, 1) := by decide +kernel
theorem dX6_tieAll_7 : decode cX6_tieAll 7 = .ok (.putfield 45, 3) := by decide +kernel
theorem dX6_tieAll_10 : decode cX6_tieAll 10 = .ok (.iconst 0, 1) := by decide +kernel
theorem dX6_tieAll_11 : decode cX6_tieAll 11 = .ok (.istore 4, 2) := by decide +kernel
theorem dX6_tieAll_13 : decode cX6_tieAll 13 = .ok (.iload 4, 2) := by decide +kernel
theorem dX6_tieAll_15 : decode cX6_tieAll 15 = .ok (.aload_n 0, 1) := by decide +kernel
theorem dX6_tieAll_16 : decode cX6_tieAll 16 = .ok (.getfield 22, 3) := by decide +kernel
theorem dX6_tieAll_19 : decode cX6_tieAll 19 = .ok (.if_icmp .ge 89, 3) := by decide +kernel
theorem dX6_tieAll_22 : decode cX6_tieAll 22 = .ok (.aload_n 0, 1) := by decide +kernel
theorem dX6_tieAll_23 : decode cX6_tieAll 23 = .ok (.getfield 9, 3) := by decide +kernel
theorem dX6_tieAll_26 : decode cX6_tieAll 26 = .ok (.iload 4, 2) := by decide +kernel
theorem dX6_tieAll_28 : decode cX6_tieAll 28 = .ok (.iaload, 1) := by decide +kernel
theorem dX6_tieAll_29 : decode cX6_tieAll 29 = .ok (.istore 5, 2) := by decide +kernel
theorem dX6_tieAll_31 : decode cX6_tieAll 31 = .ok (.aload_n 0, 1) := by decide +kernel
theorem dX6_tieAll_32 : decode cX6_tieAll 32 = .ok (.getfield 15, 3) := by decide +kernel
theorem dX6_tieAll_35 : decode cX6_tieAll 35 = .ok (.iload 4, 2) := by decide +kernel
theorem dX6_tieAll_37 : decode cX6_tieAll 37 = .ok (.iaload, 1) := by decide +kernel
theorem dX6_tieAll_38 : decode cX6_tieAll 38 = .ok (.istore 6, 2) := by decide +kernel
theorem dX6_tieAll_40 : decode cX6_tieAll 40 = .ok (.aload_n 0, 1) := by decide +kernel
theorem dX6_tieAll_41 : decode cX6_tieAll 41 = .ok (.getfield 18, 3) := by decide +kernel
theorem dX6_tieAll_44 : decode cX6_tieAll 44 = .ok (.aload_n 1, 1) := by decide +kernel
theorem dX6_tieAll_45 : decode cX6_tieAll 45 = .ok (.aload_n 2, 1) := by decide +kernel
theorem dX6_tieAll_46 : decode cX6_tieAll 46 = .ok (.iload 5, 2) := by decide +kernel
theorem dX6_tieAll_48 : decode cX6_tieAll 48 = .ok (.iload 6, 2) := by decide +kernel
theorem dX6_tieAll_50 : decode cX6_tieAll 50 = .ok (.invokevirtual 48, 3) := by decide +kernel
theorem dX6_tieAll_53 : decode cX6_tieAll 53 = .ok (.iload_n 3, 1) := by decide +kernel
theorem dX6_tieAll_54 : decode cX6_tieAll 54 = .ok (.if_icmp .gt 48, 3) := by decide +kernel
theorem dX6_tieAll_57 : decode cX6_tieAll 57 = .ok (.aload_n 2, 1) := by decide +kernel
theorem dX6_tieAll_58 : decode cX6_tieAll 58 = .ok (.iload 5, 2) := by decide +kernel
theorem dX6_tieAll_60 : decode cX6_tieAll 60 = .ok (.iload 6, 2) := by decide +kernel
theorem dX6_tieAll_62 : decode cX6_tieAll 62 = .ok (.iconst 1, 1) := by decide +kernel
theorem dX6_tieAll_63 : decode cX6_tieAll 63 = .ok (.aload_n 1, 1) := by decide +kernel
theorem dX6_tieAll_64 : decode cX6_tieAll 64 = .ok (.getfield 54, 3) := by decide +kernel
theorem dX6_tieAll_67 : decode cX6_tieAll 67 = .ok (.invokevirtual 59, 3) := by decide +kernel
theorem dX6_tieAll_70 : decode cX6_tieAll 70 = .ok (.aload_n 0, 1) := by decide +kernel
theorem dX6_tieAll_71 : decode cX6_tieAll 71 = .ok (.getfield 9, 3) := by decide +kernel
theorem dX6_tieAll_74 : decode cX6_tieAll 74 = .ok (.aload_n 0, 1) := by decide +kernel
theorem dX6_tieAll_75 : decode cX6_tieAll 75 = .ok (.getfield 45, 3) := by decide +kernel
theorem dX6_tieAll_78 : decode cX6_tieAll 78 = .ok (.iload 5, 2) := by decide +kernel
theorem dX6_tieAll_80 : decode cX6_tieAll 80 = .ok (.iastore, 1) := by decide +kernel
theorem dX6_tieAll_81 : decode cX6_tieAll 81 = .ok (.aload_n 0, 1) := by decide +kernel
theorem dX6_tieAll_82 : decode cX6_tieAll 82 = .ok (.getfield 15, 3) := by decide +kernel
theorem dX6_tieAll_85 : decode cX6_tieAll 85 = .ok (.aload_n 0, 1) := by decide +kernel
theorem dX6_tieAll_86 : decode cX6_tieAll 86 = .ok (.getfield 45, 3) := by decide +kernel
theorem dX6_tieAll_89 : decode cX6_tieAll 89 = .ok (.iload 6, 2) := by decide +kernel
theorem dX6_tieAll_91 : decode cX6_tieAll 91 = .ok (.iastore, 1) := by decide +kernel
theorem dX6_tieAll_92 : decode cX6_tieAll 92 = .ok (.aload_n 0, 1) := by decide +kernel
theorem dX6_tieAll_93 : decode cX6_tieAll 93 = .ok (.dup, 1) := by decide +kernel
theorem dX6_tieAll_94 : decode cX6_tieAll 94 = .ok (.getfield 45, 3) := by decide +kernel
theorem dX6_tieAll_97 : decode cX6_tieAll 97 = .ok (.iconst 1, 1) := by decide +kernel
theorem dX6_tieAll_98 : decode cX6_tieAll 98 = .ok (.iadd, 1) := by decide +kernel
theorem dX6_tieAll_99 : decode cX6_tieAll 99 = .ok (.putfield 45, 3) := by decide +kernel
theorem dX6_tieAll_102 : decode cX6_tieAll 102 = .ok (.iinc 4 1, 3) := by decide +kernel
theorem dX6_tieAll_105 : decode cX6_tieAll 105 = .ok (.goto (-92), 3) := by decide +kernel
theorem dX6_tieAll_108 : decode cX6_tieAll 108 = .ok (.return_, 1) := by decide +kernel
theorem dX6_tiesFirst_0 : decode cX6_tiesFirst 0 = .ok (.aload_n 0, 1) := by decide +kernel
theorem dX6_tiesFirst_1 : decode cX6_tiesFirst 1 = .ok (.aload_n 2, 1) := by decide +kernel
theorem dX6_tiesFirst_2 : decode cX6_tiesFirst 2 = .ok (.invokevirtual 41, 3) := by decide +kernel
theorem dX6_tiesFirst_5 : decode cX6_tiesFirst 5 = .ok (.iconst 0, 1) := by decide +kernel
theorem dX6_tiesFirst_6 : decode cX6_tiesFirst 6 = .ok (.istore 6, 2) := by decide +kernel
theorem dX6_tiesFirst_8 : decode cX6_tiesFirst 8 = .ok (.iload 6, 2) := by decide +kernel
theorem dX6_tiesFirst_10 : decode cX6_tiesFirst 10 = .ok (.aload_n 0, 1) := by decide +kernel
theorem dX6_tiesFirst_11 : decode cX6_tiesFirst 11 = .ok (.getfield 22, 3) := by decide +kernel
theorem dX6_tiesFirst_14 : decode cX6_tiesFirst 14 = .ok (.if_icmp .ge 66, 3) := by decide +kernel
theorem dX6_tiesFirst_17 : decode cX6_tiesFirst 17 = .ok (.aload_n 0, 1) := by decide +kernel
theorem dX6_tiesFirst_18 : decode cX6_tiesFirst 18 = .ok (.getfield 18, 3) := by decide +kernel
theorem dX6_tiesFirst_21 : decode cX6_tiesFirst 21 = .ok (.aload_n 1, 1) := by decide +kernel
theorem dX6_tiesFirst_22 : decode cX6_tiesFirst 22 = .ok (.aload_n 2, 1) := by decide +kernel
theorem dX6_tiesFirst_23 : decode cX6_tiesFirst 23 = .ok (.aload_n 0, 1) := by decide +kernel
theorem dX6_tiesFirst_24 : decode cX6_tiesFirst 24 = .ok (.getfield 9, 3) := by decide +kernel
theorem dX6_tiesFirst_27 : decode cX6_tiesFirst 27 = .ok (.iload 6, 2) := by decide +kernel
theorem dX6_tiesFirst_29 : decode cX6_tiesFirst 29 = .ok (.iaload, 1) := by decide +kernel
theorem dX6_tiesFirst_30 : decode cX6_tiesFirst 30 = .ok (.aload_n 0, 1) := by decide +kernel
theorem dX6_tiesFirst_31 : decode cX6_tiesFirst 31 = .ok (.getfield 15, 3) := by decide +kernel
theorem dX6_tiesFirst_34 : decode cX6_tiesFirst 34 = .ok (.iload 6, 2) := by decide +kernel
theorem dX6_tiesFirst_36 : decode cX6_tiesFirst 36 = .ok (.iaload, 1) := by decide +kernel
theorem dX6_tiesFirst_37 : decode cX6_tiesFirst 37 = .ok (.invokevirtual 48, 3) := by decide +kernel
theorem dX6_tiesFirst_40 : decode cX6_tiesFirst 40 = .ok (.iload_n 3, 1) := by decide +kernel
theorem dX6_tiesFirst_41 : decode cX6_tiesFirst 41 = .ok (.if_icmp .gt 33, 3) := by decide +kernel
theorem dX6_tiesFirst_44 : decode cX6_tiesFirst 44 = .ok (.aload_n 0, 1) := by decide +kernel
theorem dX6_tiesFirst_45 : decode cX6_tiesFirst 45 = .ok (.getfield 9, 3) := by decide +kernel
theorem dX6_tiesFirst_48 : decode cX6_tiesFirst 48 = .ok (.iload 6, 2) := by decide +kernel
theorem dX6_tiesFirst_50 : decode cX6_tiesFirst 50 = .ok (.iaload, 1) := by decide +kernel
theorem dX6_tiesFirst_51 : decode cX6_tiesFirst 51 = .ok (.iload 4, 2) := by decide +kernel
theorem dX6_tiesFirst_53 : decode cX6_tiesFirst 53 = .ok (.if_icmp .ne 19, 3) := by decide +kernel
theorem dX6_tiesFirst_56 : decode cX6_tiesFirst 56 = .ok (.aload_n 0, 1) := by decide +kernel
theorem dX6_tiesFirst_57 : decode cX6_tiesFirst 57 = .ok (.getfield 15, 3) := by decide +kernel
theorem dX6_tiesFirst_60 : decode cX6_tiesFirst 60 = .ok (.iload 6, 2) := by decide +kernel
theorem dX6_tiesFirst_62 : decode cX6_tiesFirst 62 = .ok (.iaload, 1) := by decide +kernel
theorem dX6_tiesFirst_63 : decode cX6_tiesFirst 63 = .ok (.iload 5, 2) := by decide +kernel
theorem dX6_tiesFirst_65 : decode cX6_tiesFirst 65 = .ok (.if_icmp .ne 7, 3) := by decide +kernel
theorem dX6_tiesFirst_68 : decode cX6_tiesFirst 68 = .ok (.iconst 1, 1) := by decide +kernel
theorem dX6_tiesFirst_69 : decode cX6_tiesFirst 69 = .ok (.goto 4, 3) := by decide +kernel
theorem dX6_tiesFirst_72 : decode cX6_tiesFirst 72 = .ok (.iconst 0, 1) := by decide +kernel
theorem dX6_tiesFirst_73 : decode cX6_tiesFirst 73 = .ok (.ireturn, 1) := by decide +kernel
theorem dX6_tiesFirst_74 : decode cX6_tiesFirst 74 = .ok (.iinc 6 1, 3) := by decide +kernel
theorem dX6_tiesFirst_77 : decode cX6_tiesFirst 77 = .ok (.goto (-69), 3) := by decide +kernel
theorem dX6_tiesFirst_80 : decode cX6_tiesFirst 80 = .ok (.iconst 0, 1) := by decide +kernel
theorem dX6_tiesFirst_81 : decode cX6_tiesFirst 81 = .ok (.ireturn, 1) := by decide +kernel
theorem dX7_init_0 : decode cX7_init 0 = .ok (.aload_n 0, 1) := by decide +kernel
theorem dX7_init_1 : decode cX7_init 1 = .ok (.invokespecial 3, 3) := by decide +kernel
theorem dX7_init_4 : decode cX7_init 4 = .ok (.aload_n 0, 1) := by decide +kernel
theorem dX7_init_5 : decode cX7_init 5 = .ok (.bipush 24, 2) := by decide +kernel
theorem dX7_init_7 : decode cX7_init 7 = .ok (.newarray .int, 2) := by decide +kernel
theorem dX7_init_9 : decode cX7_init 9 = .ok (.putfield 9, 3) := by decide +kernel
theorem dX7_init_12 : decode cX7_init 12 = .ok (.aload_n 0, 1) := by decide +kernel
theorem dX7_init_13 : decode cX7_init 13 = .ok (.sipush 144, 3) := by decide +kernel
theorem dX7_init_16 : decode cX7_init 16 = .ok (.newarray .int, 2) := by decide +kernel
theorem dX7_init_18 : decode cX7_init 18 = .ok (.putfield 15, 3) := by decide +kernel
theorem dX7_init_21 : decode cX7_init 21 = .ok (.aload_n 0, 1) := by decide +kernel
theorem dX7_init_22 : decode cX7_init 22 = .ok (.sipush 144, 3) := by decide +kernel
theorem dX7_init_25 : decode cX7_init 25 = .ok (.newarray .int, 2) := by decide +kernel
theorem dX7_init_27 : decode cX7_init 27 = .ok (.putfield 18, 3) := by decide +kernel
theorem dX7_init_30 : decode cX7_init 30 = .ok (.return_, 1) := by decide +kernel
theorem dX7_copyFrom_0 : decode cX7_copyFrom 0 = .ok (.aload_n 0, 1) := by decide +kernel
theorem dX7_copyFrom_1 : decode cX7_copyFrom 1 = .ok (.aload_n 1, 1) := by decide +kernel
theorem dX7_copyFrom_2 : decode cX7_copyFrom 2 = .ok (.getfield 21, 3) := by decide +kernel
theorem dX7_copyFrom_5 : decode cX7_copyFrom 5 = .ok (.putfield 21, 3) := by decide +kernel
theorem dX7_copyFrom_8 : decode cX7_copyFrom 8 = .ok (.aload_n 0, 1) := by decide +kernel
theorem dX7_copyFrom_9 : decode cX7_copyFrom 9 = .ok (.aload_n 1, 1) := by decide +kernel
theorem dX7_copyFrom_10 : decode cX7_copyFrom 10 = .ok (.getfield 25, 3) := by decide +kernel
theorem dX7_copyFrom_13 : decode cX7_copyFrom 13 = .ok (.putfield 25, 3) := by decide +kernel
theorem dX7_copyFrom_16 : decode cX7_copyFrom 16 = .ok (.aload_n 0, 1) := by decide +kernel
theorem dX7_copyFrom_17 : decode cX7_copyFrom 17 = .ok (.aload_n 1, 1) := by decide +kernel
theorem dX7_copyFrom_18 : decode cX7_copyFrom 18 = .ok (.getfield 29, 3) := by decide +kernel
theorem dX7_copyFrom_21 : decode cX7_copyFrom 21 = .ok (.putfield 29, 3) := by decide +kernel
theorem dX7_copyFrom_24 : decode cX7_copyFrom 24 = .ok (.aload_n 0, 1) := by decide +kernel
theorem dX7_copyFrom_25 : decode cX7_copyFrom 25 = .ok (.aload_n 1, 1) := by decide +kernel
theorem dX7_copyFrom_26 : decode cX7_copyFrom 26 = .ok (.getfield 32, 3) := by decide +kernel
theorem dX7_copyFrom_29 : decode cX7_copyFrom 29 = .ok (.putfield 32, 3) := by decide +kernel
theorem dX7_copyFrom_32 : decode cX7_copyFrom 32 = .ok (.aload_n 0, 1) := by decide +kernel
theorem dX7_copyFrom_33 : decode cX7_copyFrom 33 = .ok (.aload_n 1, 1) := by decide +kernel
theorem dX7_copyFrom_34 : decode cX7_copyFrom 34 = .ok (.getfield 35, 3) := by decide +kernel
theorem dX7_copyFrom_37 : decode cX7_copyFrom 37 = .ok (.putfield 35, 3) := by decide +kernel
theorem dX7_copyFrom_40 : decode cX7_copyFrom 40 = .ok (.aload_n 1, 1) := by decide +kernel
theorem dX7_copyFrom_41 : decode cX7_copyFrom 41 = .ok (.getfield 9, 3) := by decide +kernel
theorem dX7_copyFrom_44 : decode cX7_copyFrom 44 = .ok (.iconst 0, 1) := by decide +kernel
theorem dX7_copyFrom_45 : decode cX7_copyFrom 45 = .ok (.aload_n 0, 1) := by decide +kernel
theorem dX7_copyFrom_46 : decode cX7_copyFrom 46 = .ok (.getfield 9, 3) := by decide +kernel
theorem dX7_copyFrom_49 : decode cX7_copyFrom 49 = .ok (.iconst 0, 1) := by decide +kernel
theorem dX7_copyFrom_50 : decode cX7_copyFrom 50 = .ok (.bipush 24, 2) := by decide +kernel
theorem dX7_copyFrom_52 : decode cX7_copyFrom 52 = .ok (.invokestatic 38, 3) := by decide +kernel
theorem dX7_copyFrom_55 : decode cX7_copyFrom 55 = .ok (.aload_n 1, 1) := by decide +kernel
theorem dX7_copyFrom_56 : decode cX7_copyFrom 56 = .ok (.getfield 15, 3) := by decide +kernel
theorem dX7_copyFrom_59 : decode cX7_copyFrom 59 = .ok (.iconst 0, 1) := by decide +kernel
theorem dX7_copyFrom_60 : decode cX7_copyFrom 60 = .ok (.aload_n 0, 1) := by decide +kernel
theorem dX7_copyFrom_61 : decode cX7_copyFrom 61 = .ok (.getfield 15, 3) := by decide +kernel
theorem dX7_copyFrom_64 : decode cX7_copyFrom 64 = .ok (.iconst 0, 1) := by decide +kernel
theorem dX7_copyFrom_65 : decode cX7_copyFrom 65 = .ok (.sipush 144, 3) := by decide +kernel
theorem dX7_copyFrom_68 : decode cX7_copyFrom 68 = .ok (.invokestatic 38, 3) := by decide +kernel
theorem dX7_copyFrom_71 : decode cX7_copyFrom 71 = .ok (.aload_n 1, 1) := by decide +kernel
theorem dX7_copyFrom_72 : decode cX7_copyFrom 72 = .ok (.getfield 18, 3) := by decide +kernel
theorem dX7_copyFrom_75 : decode cX7_copyFrom 75 = .ok (.iconst 0, 1) := by decide +kernel
theorem dX7_copyFrom_76 : decode cX7_copyFrom 76 = .ok (.aload_n 0, 1) := by decide +kernel
theorem dX7_copyFrom_77 : decode cX7_copyFrom 77 = .ok (.getfield 18, 3) := by decide +kernel
theorem dX7_copyFrom_80 : decode cX7_copyFrom 80 = .ok (.iconst 0, 1) := by decide +kernel
theorem dX7_copyFrom_81 : decode cX7_copyFrom 81 = .ok (.sipush 144, 3) := by decide +kernel
theorem dX7_copyFrom_84 : decode cX7_copyFrom 84 = .ok (.invokestatic 38, 3) := by decide +kernel
theorem dX7_copyFrom_87 : decode cX7_copyFrom 87 = .ok (.return_, 1) := by decide +kernel
theorem dX7_begin_0 : decode cX7_begin 0 = .ok (.aload_n 0, 1) := by decide +kernel
theorem dX7_begin_1 : decode cX7_begin 1 = .ok (.iconst 1, 1) := by decide +kernel
theorem dX7_begin_2 : decode cX7_begin 2 = .ok (.putfield 21, 3) := by decide +kernel
theorem dX7_begin_5 : decode cX7_begin 5 = .ok (.aload_n 0, 1) := by decide +kernel
theorem dX7_begin_6 : decode cX7_begin 6 = .ok (.iload_n 1, 1) := by decide +kernel
theorem dX7_begin_7 : decode cX7_begin 7 = .ok (.putfield 25, 3) := by decide +kernel
theorem dX7_begin_10 : decode cX7_begin 10 = .ok (.aload_n 0, 1) := by decide +kernel
theorem dX7_begin_11 : decode cX7_begin 11 = .ok (.iload_n 2, 1) := by decide +kernel
theorem dX7_begin_12 : decode cX7_begin 12 = .ok (.putfield 29, 3) := by decide +kernel
theorem dX7_begin_15 : decode cX7_begin 15 = .ok (.aload_n 0, 1) := by decide +kernel
theorem dX7_begin_16 : decode cX7_begin 16 = .ok (.iload_n 3, 1) := by decide +kernel
theorem dX7_begin_17 : decode cX7_begin 17 = .ok (.putfield 32, 3) := by decide +kernel
theorem dX7_begin_20 : decode cX7_begin 20 = .ok (.aload_n 0, 1) := by decide +kernel
theorem dX7_begin_21 : decode cX7_begin 21 = .ok (.iconst 0, 1) := by decide +kernel
theorem dX7_begin_22 : decode cX7_begin 22 = .ok (.putfield 35, 3) := by decide +kernel
theorem dX7_begin_25 : decode cX7_begin 25 = .ok (.aload_n 0, 1) := by decide +kernel
theorem dX7_begin_26 : decode cX7_begin 26 = .ok (.getfield 9, 3) := by decide +kernel
theorem dX7_begin_29 : decode cX7_begin 29 = .ok (.iconst (-1), 1) := by decide +kernel
theorem dX7_begin_30 : decode cX7_begin 30 = .ok (.invokestatic 44, 3) := by decide +kernel
theorem dX7_begin_33 : decode cX7_begin 33 = .ok (.aload_n 0, 1) := by decide +kernel
theorem dX7_begin_34 : decode cX7_begin 34 = .ok (.getfield 15, 3) := by decide +kernel
theorem dX7_begin_37 : decode cX7_begin 37 = .ok (.iconst 0, 1) := by decide +kernel
theorem dX7_begin_38 : decode cX7_begin 38 = .ok (.invokestatic 44, 3) := by decide +kernel
theorem dX7_begin_41 : decode cX7_begin 41 = .ok (.aload_n 0, 1) := by decide +kernel
theorem dX7_begin_42 : decode cX7_begin 42 = .ok (.getfield 18, 3) := by decide +kernel
theorem dX7_begin_45 : decode cX7_begin 45 = .ok (.iconst 0, 1) := by decide +kernel
theorem dX7_begin_46 : decode cX7_begin 46 = .ok (.invokestatic 44, 3) := by decide +kernel
theorem dX7_begin_49 : decode cX7_begin 49 = .ok (.return_, 1) := by decide +kernel
theorem dX7_isUntied_0 : decode cX7_isUntied 0 = .ok (.iload_n 1, 1) := by decide +kernel
theorem dX7_isUntied_1 : decode cX7_isUntied 1 = .ok (.ifCond .lt 25, 3) := by decide +kernel
theorem dX7_isUntied_4 : decode cX7_isUntied 4 = .ok (.iload_n 1, 1) := by decide +kernel
theorem dX7_isUntied_5 : decode cX7_isUntied 5 = .ok (.aload_n 0, 1) := by decide +kernel
theorem dX7_isUntied_6 : decode cX7_isUntied 6 = .ok (.getfield 25, 3) := by decide +kernel
theorem dX7_isUntied_9 : decode cX7_isUntied 9 = .ok (.if_icmp .ge 17, 3) := by decide +kernel
theorem dX7_isUntied_12 : decode cX7_isUntied 12 = .ok (.aload_n 0, 1) := by decide +kernel
theorem dX7_isUntied_13 : decode cX7_isUntied 13 = .ok (.getfield 9, 3) := by decide +kernel
theorem dX7_isUntied_16 : decode cX7_isUntied 16 = .ok (.iload_n 1, 1) := by decide +kernel
theorem dX7_isUntied_17 : decode cX7_isUntied 17 = .ok (.iaload, 1) := by decide +kernel
theorem dX7_isUntied_18 : decode cX7_isUntied 18 = .ok (.iconst (-1), 1) := by decide +kernel
theorem dX7_isUntied_19 : decode cX7_isUntied 19 = .ok (.if_icmp .ne 7, 3) := by decide +kernel
theorem dX7_isUntied_22 : decode cX7_isUntied 22 = .ok (.iconst 1, 1) := by decide +kernel
theorem dX7_isUntied_23 : decode cX7_isUntied 23 = .ok (.goto 4, 3) := by decide +kernel
theorem dX7_isUntied_26 : decode cX7_isUntied 26 = .ok (.iconst 0, 1) := by decide +kernel
theorem dX7_isUntied_27 : decode cX7_isUntied 27 = .ok (.ireturn, 1) := by decide +kernel
theorem dX7_isTied_0 : decode cX7_isTied 0 = .ok (.iload_n 1, 1) := by decide +kernel
theorem dX7_isTied_1 : decode cX7_isTied 1 = .ok (.ifCond .lt 25, 3) := by decide +kernel
theorem dX7_isTied_4 : decode cX7_isTied 4 = .ok (.iload_n 1, 1) := by decide +kernel
theorem dX7_isTied_5 : decode cX7_isTied 5 = .ok (.aload_n 0, 1) := by decide +kernel
theorem dX7_isTied_6 : decode cX7_isTied 6 = .ok (.getfield 25, 3) := by decide +kernel
theorem dX7_isTied_9 : decode cX7_isTied 9 = .ok (.if_icmp .ge 17, 3) := by decide +kernel
theorem dX7_isTied_12 : decode cX7_isTied 12 = .ok (.aload_n 0, 1) := by decide +kernel
theorem dX7_isTied_13 : decode cX7_isTied 13 = .ok (.getfield 9, 3) := by decide +kernel
theorem dX7_isTied_16 : decode cX7_isTied 16 = .ok (.iload_n 1, 1) := by decide +kernel
theorem dX7_isTied_17 : decode cX7_isTied 17 = .ok (.iaload, 1) := by decide +kernel
theorem dX7_isTied_18 : decode cX7_isTied 18 = .ok (.iconst (-1), 1) := by decide +kernel
theorem dX7_isTied_19 : decode cX7_isTied 19 = .ok (.if_icmp .eq 7, 3) := by decide +kernel
theorem dX7_isTied_22 : decode cX7_isTied 22 = .ok (.iconst 1, 1) := by decide +kernel
theorem dX7_isTied_23 : decode cX7_isTied 23 = .ok (.goto 4, 3) := by decide +kernel
theorem dX7_isTied_26 : decode cX7_isTied 26 = .ok (.iconst 0, 1) := by decide +kernel
theorem dX7_isTied_27 : decode cX7_isTied 27 = .ok (.ireturn, 1) := by decide +kernel
theorem dX7_callAt_0 : decode cX7_callAt 0 = .ok (.iconst (-1), 1) := by decide +kernel
theorem dX7_callAt_1 : decode cX7_callAt 1 = .ok (.istore_n 2, 1) := by decide +kernel
theorem dX7_callAt_2 : decode cX7_callAt 2 = .ok (.iload_n 1, 1) := by decide +kernel
theorem dX7_callAt_3 : decode cX7_callAt 3 = .ok (.bipush 6, 2) := by decide +kernel
theorem dX7_callAt_5 : decode cX7_callAt 5 = .ok (.imul, 1) := by decide +kernel
theorem dX7_callAt_6 : decode cX7_callAt 6 = .ok (.istore_n 3, 1) := by decide +kernel
theorem dX7_callAt_7 : decode cX7_callAt 7 = .ok (.iload_n 3, 1) := by decide +kernel
theorem dX7_callAt_8 : decode cX7_callAt 8 = .ok (.iload_n 1, 1) := by decide +kernel
theorem dX7_callAt_9 : decode cX7_callAt 9 = .ok (.iconst 1, 1) := by decide +kernel
theorem dX7_callAt_10 : decode cX7_callAt 10 = .ok (.iadd, 1) := by decide +kernel
theorem dX7_callAt_11 : decode cX7_callAt 11 = .ok (.bipush 6, 2) := by decide +kernel
theorem dX7_callAt_13 : decode cX7_callAt 13 = .ok (.imul, 1) := by decide +kernel
theorem dX7_callAt_14 : decode cX7_callAt 14 = .ok (.if_icmp .ge 70, 3) := by decide +kernel
theorem dX7_callAt_17 : decode cX7_callAt 17 = .ok (.aload_n 0, 1) := by decide +kernel
theorem dX7_callAt_18 : decode cX7_callAt 18 = .ok (.getfield 15, 3) := by decide +kernel
theorem dX7_callAt_21 : decode cX7_callAt 21 = .ok (.iload_n 3, 1) := by decide +kernel
theorem dX7_callAt_22 : decode cX7_callAt 22 = .ok (.iaload, 1) := by decide +kernel
theorem dX7_callAt_23 : decode cX7_callAt 23 = .ok (.ifCond .le 55, 3) := by decide +kernel
theorem dX7_callAt_26 : decode cX7_callAt 26 = .ok (.iload_n 2, 1) := by decide +kernel
theorem dX7_callAt_27 : decode cX7_callAt 27 = .ok (.iconst (-1), 1) := by decide +kernel
theorem dX7_callAt_28 : decode cX7_callAt 28 = .ok (.if_icmp .eq 48, 3) := by decide +kernel
theorem dX7_callAt_31 : decode cX7_callAt 31 = .ok (.aload_n 0, 1) := by decide +kernel
theorem dX7_callAt_32 : decode cX7_callAt 32 = .ok (.getfield 18, 3) := by decide +kernel
theorem dX7_callAt_35 : decode cX7_callAt 35 = .ok (.iload_n 3, 1) := by decide +kernel
theorem dX7_callAt_36 : decode cX7_callAt 36 = .ok (.iaload, 1) := by decide +kernel
theorem dX7_callAt_37 : decode cX7_callAt 37 = .ok (.aload_n 0, 1) := by decide +kernel
theorem dX7_callAt_38 : decode cX7_callAt 38 = .ok (.getfield 18, 3) := by decide +kernel
theorem dX7_callAt_41 : decode cX7_callAt 41 = .ok (.iload_n 2, 1) := by decide +kernel
theorem dX7_callAt_42 : decode cX7_callAt 42 = .ok (.iaload, 1) := by decide +kernel
theorem dX7_callAt_43 : decode cX7_callAt 43 = .ok (.if_icmp .lt 33, 3) := by decide +kernel
theorem dX7_callAt_46 : decode cX7_callAt 46 = .ok (.aload_n 0, 1) := by decide +kernel
theorem dX7_callAt_47 : decode cX7_callAt 47 = .ok (.getfield 18, 3) := by decide +kernel
theorem dX7_callAt_50 : decode cX7_callAt 50 = .ok (.iload_n 3, 1) := by decide +kernel
theorem dX7_callAt_51 : decode cX7_callAt 51 = .ok (.iaload, 1) := by decide +kernel
theorem dX7_callAt_52 : decode cX7_callAt 52 = .ok (.aload_n 0, 1) := by decide +kernel
theorem dX7_callAt_53 : decode cX7_callAt 53 = .ok (.getfield 18, 3) := by decide +kernel
theorem dX7_callAt_56 : decode cX7_callAt 56 = .ok (.iload_n 2, 1) := by decide +kernel
theorem dX7_callAt_57 : decode cX7_callAt 57 = .ok (.iaload, 1) := by decide +kernel
theorem dX7_callAt_58 : decode cX7_callAt 58 = .ok (.if_icmp .ne 20, 3) := by decide +kernel
theorem dX7_callAt_61 : decode cX7_callAt 61 = .ok (.aload_n 0, 1) := by decide +kernel
theorem dX7_callAt_62 : decode cX7_callAt 62 = .ok (.getfield 15, 3) := by decide +kernel
theorem dX7_callAt_65 : decode cX7_callAt 65 = .ok (.iload_n 3, 1) := by decide +kernel
theorem dX7_callAt_66 : decode cX7_callAt 66 = .ok (.iaload, 1) := by decide +kernel
theorem dX7_callAt_67 : decode cX7_callAt 67 = .ok (.aload_n 0, 1) := by decide +kernel
theorem dX7_callAt_68 : decode cX7_callAt 68 = .ok (.getfield 15, 3) := by decide +kernel
theorem dX7_callAt_71 : decode cX7_callAt 71 = .ok (.iload_n 2, 1) := by decide +kernel
theorem dX7_callAt_72 : decode cX7_callAt 72 = .ok (.iaload, 1) := by decide +kernel
theorem dX7_callAt_73 : decode cX7_callAt 73 = .ok (.if_icmp .le 5, 3) := by decide +kernel
theorem dX7_callAt_76 : decode cX7_callAt 76 = .ok (.iload_n 3, 1) := by decide +kernel
theorem dX7_callAt_77 : decode cX7_callAt 77 = .ok (.istore_n 2, 1) := by decide +kernel
theorem dX7_callAt_78 : decode cX7_callAt 78 = .ok (.iinc 3 1, 3) := by decide +kernel
theorem dX7_callAt_81 : decode cX7_callAt 81 = .ok (.goto (-74), 3) := by decide +kernel
theorem dX7_callAt_84 : decode cX7_callAt 84 = .ok (.iload_n 2, 1) := by decide +kernel
theorem dX7_callAt_85 : decode cX7_callAt 85 = .ok (.iconst (-1), 1) := by decide +kernel
theorem dX7_callAt_86 : decode cX7_callAt 86 = .ok (.if_icmp .ne 7, 3) := by decide +kernel
theorem dX7_callAt_89 : decode cX7_callAt 89 = .ok (.iconst (-1), 1) := by decide +kernel
theorem dX7_callAt_90 : decode cX7_callAt 90 = .ok (.goto 9, 3) := by decide +kernel
theorem dX7_callAt_93 : decode cX7_callAt 93 = .ok (.iload_n 2, 1) := by decide +kernel
theorem dX7_callAt_94 : decode cX7_callAt 94 = .ok (.iload_n 1, 1) := by decide +kernel
theorem dX7_callAt_95 : decode cX7_callAt 95 = .ok (.bipush 6, 2) := by decide +kernel
theorem dX7_callAt_97 : decode cX7_callAt 97 = .ok (.imul, 1) := by decide +kernel
theorem dX7_callAt_98 : decode cX7_callAt 98 = .ok (.isub, 1) := by decide +kernel
theorem dX7_callAt_99 : decode cX7_callAt 99 = .ok (.ireturn, 1) := by decide +kernel
theorem dX7_tiesBeside_0 : decode cX7_tiesBeside 0 = .ok (.aload_n 0, 1) := by decide +kernel
theorem dX7_tiesBeside_1 : decode cX7_tiesBeside 1 = .ok (.iload_n 1, 1) := by decide +kernel
theorem dX7_tiesBeside_2 : decode cX7_tiesBeside 2 = .ok (.iconst 1, 1) := by decide +kernel
theorem dX7_tiesBeside_3 : decode cX7_tiesBeside 3 = .ok (.isub, 1) := by decide +kernel
theorem dX7_tiesBeside_4 : decode cX7_tiesBeside 4 = .ok (.invokevirtual 50, 3) := by decide +kernel
theorem dX7_tiesBeside_7 : decode cX7_tiesBeside 7 = .ok (.ifCond .eq 7, 3) := by decide +kernel
theorem dX7_tiesBeside_10 : decode cX7_tiesBeside 10 = .ok (.iconst 1, 1) := by decide +kernel
theorem dX7_tiesBeside_11 : decode cX7_tiesBeside 11 = .ok (.goto 4, 3) := by decide +kernel
theorem dX7_tiesBeside_14 : decode cX7_tiesBeside 14 = .ok (.iconst 0, 1) := by decide +kernel
theorem dX7_tiesBeside_15 : decode cX7_tiesBeside 15 = .ok (.aload_n 0, 1) := by decide +kernel
theorem dX7_tiesBeside_16 : decode cX7_tiesBeside 16 = .ok (.iload_n 1, 1) := by decide +kernel
theorem dX7_tiesBeside_17 : decode cX7_tiesBeside 17 = .ok (.iconst 1, 1) := by decide +kernel
theorem dX7_tiesBeside_18 : decode cX7_tiesBeside 18 = .ok (.iadd, 1) := by decide +kernel
theorem dX7_tiesBeside_19 : decode cX7_tiesBeside 19 = .ok (.invokevirtual 50, 3) := by decide +kernel
theorem dX7_tiesBeside_22 : decode cX7_tiesBeside 22 = .ok (.ifCond .eq 7, 3) := by decide +kernel
theorem dX7_tiesBeside_25 : decode cX7_tiesBeside 25 = .ok (.iconst 1, 1) := by decide +kernel
theorem dX7_tiesBeside_26 : decode cX7_tiesBeside 26 = .ok (.goto 4, 3) := by decide +kernel
theorem dX7_tiesBeside_29 : decode cX7_tiesBeside 29 = .ok (.iconst 0, 1) := by decide +kernel
theorem dX7_tiesBeside_30 : decode cX7_tiesBeside 30 = .ok (.iadd, 1) := by decide +kernel
theorem dX7_tiesBeside_31 : decode cX7_tiesBeside 31 = .ok (.ireturn, 1) := by decide +kernel
theorem dX7_tiesInAll_0 : decode cX7_tiesInAll 0 = .ok (.iconst 0, 1) := by decide +kernel
theorem dX7_tiesInAll_1 : decode cX7_tiesInAll 1 = .ok (.istore_n 1, 1) := by decide +kernel
theorem dX7_tiesInAll_2 : decode cX7_tiesInAll 2 = .ok (.iconst 0, 1) := by decide +kernel
theorem dX7_tiesInAll_3 : decode cX7_tiesInAll 3 = .ok (.istore_n 2, 1) := by decide +kernel
theorem dX7_tiesInAll_4 : decode cX7_tiesInAll 4 = .ok (.iload_n 2, 1) := by decide +kernel
theorem dX7_tiesInAll_5 : decode cX7_tiesInAll 5 = .ok (.aload_n 0, 1) := by decide +kernel
theorem dX7_tiesInAll_6 : decode cX7_tiesInAll 6 = .ok (.getfield 25, 3) := by decide +kernel
theorem dX7_tiesInAll_9 : decode cX7_tiesInAll 9 = .ok (.if_icmp .ge 27, 3) := by decide +kernel
theorem dX7_tiesInAll_12 : decode cX7_tiesInAll 12 = .ok (.iload_n 1, 1) := by decide +kernel
theorem dX7_tiesInAll_13 : decode cX7_tiesInAll 13 = .ok (.aload_n 0, 1) := by decide +kernel
theorem dX7_tiesInAll_14 : decode cX7_tiesInAll 14 = .ok (.getfield 9, 3) := by decide +kernel
theorem dX7_tiesInAll_17 : decode cX7_tiesInAll 17 = .ok (.iload_n 2, 1) := by decide +kernel
theorem dX7_tiesInAll_18 : decode cX7_tiesInAll 18 = .ok (.iaload, 1) := by decide +kernel
theorem dX7_tiesInAll_19 : decode cX7_tiesInAll 19 = .ok (.iconst (-1), 1) := by decide +kernel
theorem dX7_tiesInAll_20 : decode cX7_tiesInAll 20 = .ok (.if_icmp .eq 7, 3) := by decide +kernel
theorem dX7_tiesInAll_23 : decode cX7_tiesInAll 23 = .ok (.iconst 1, 1) := by decide +kernel
theorem dX7_tiesInAll_24 : decode cX7_tiesInAll 24 = .ok (.goto 4, 3) := by decide +kernel
theorem dX7_tiesInAll_27 : decode cX7_tiesInAll 27 = .ok (.iconst 0, 1) := by decide +kernel
theorem dX7_tiesInAll_28 : decode cX7_tiesInAll 28 = .ok (.iadd, 1) := by decide +kernel
theorem dX7_tiesInAll_29 : decode cX7_tiesInAll 29 = .ok (.istore_n 1, 1) := by decide +kernel
theorem dX7_tiesInAll_30 : decode cX7_tiesInAll 30 = .ok (.iinc 2 1, 3) := by decide +kernel
theorem dX7_tiesInAll_33 : decode cX7_tiesInAll 33 = .ok (.goto (-29), 3) := by decide +kernel
theorem dX7_tiesInAll_36 : decode cX7_tiesInAll 36 = .ok (.iload_n 1, 1) := by decide +kernel
theorem dX7_tiesInAll_37 : decode cX7_tiesInAll 37 = .ok (.ireturn, 1) := by decide +kernel
theorem dX7_habitsAt_0 : decode cX7_habitsAt 0 = .ok (.iconst 0, 1) := by decide +kernel
theorem dX7_habitsAt_1 : decode cX7_habitsAt 1 = .ok (.istore_n 2, 1) := by decide +kernel
theorem dX7_habitsAt_2 : decode cX7_habitsAt 2 = .ok (.iload_n 1, 1) := by decide +kernel
theorem dX7_habitsAt_3 : decode cX7_habitsAt 3 = .ok (.bipush 6, 2) := by decide +kernel
theorem dX7_habitsAt_5 : decode cX7_habitsAt 5 = .ok (.imul, 1) := by decide +kernel
theorem dX7_habitsAt_6 : decode cX7_habitsAt 6 = .ok (.istore_n 3, 1) := by decide +kernel
theorem dX7_habitsAt_7 : decode cX7_habitsAt 7 = .ok (.iload_n 3, 1) := by decide +kernel
theorem dX7_habitsAt_8 : decode cX7_habitsAt 8 = .ok (.iload_n 1, 1) := by decide +kernel
theorem dX7_habitsAt_9 : decode cX7_habitsAt 9 = .ok (.iconst 1, 1) := by decide +kernel
theorem dX7_habitsAt_10 : decode cX7_habitsAt 10 = .ok (.iadd, 1) := by decide +kernel
theorem dX7_habitsAt_11 : decode cX7_habitsAt 11 = .ok (.bipush 6, 2) := by decide +kernel
theorem dX7_habitsAt_13 : decode cX7_habitsAt 13 = .ok (.imul, 1) := by decide +kernel
theorem dX7_habitsAt_14 : decode cX7_habitsAt 14 = .ok (.if_icmp .ge 18, 3) := by decide +kernel
theorem dX7_habitsAt_17 : decode cX7_habitsAt 17 = .ok (.iload_n 2, 1) := by decide +kernel
theorem dX7_habitsAt_18 : decode cX7_habitsAt 18 = .ok (.aload_n 0, 1) := by decide +kernel
theorem dX7_habitsAt_19 : decode cX7_habitsAt 19 = .ok (.getfield 15, 3) := by decide +kernel
theorem dX7_habitsAt_22 : decode cX7_habitsAt 22 = .ok (.iload_n 3, 1) := by decide +kernel
theorem dX7_habitsAt_23 : decode cX7_habitsAt 23 = .ok (.iaload, 1) := by decide +kernel
theorem dX7_habitsAt_24 : decode cX7_habitsAt 24 = .ok (.iadd, 1) := by decide +kernel
theorem dX7_habitsAt_25 : decode cX7_habitsAt 25 = .ok (.istore_n 2, 1) := by decide +kernel
theorem dX7_habitsAt_26 : decode cX7_habitsAt 26 = .ok (.iinc 3 1, 3) := by decide +kernel
theorem dX7_habitsAt_29 : decode cX7_habitsAt 29 = .ok (.goto (-22), 3) := by decide +kernel
theorem dX7_habitsAt_32 : decode cX7_habitsAt 32 = .ok (.iload_n 2, 1) := by decide +kernel
theorem dX7_habitsAt_33 : decode cX7_habitsAt 33 = .ok (.ireturn, 1) := by decide +kernel
theorem dX7_habitsInAll_0 : decode cX7_habitsInAll 0 = .ok (.iconst 0, 1) := by decide +kernel
theorem dX7_habitsInAll_1 : decode cX7_habitsInAll 1 = .ok (.istore_n 1, 1) := by decide +kernel
theorem dX7_habitsInAll_2 : decode cX7_habitsInAll 2 = .ok (.iconst 0, 1) := by decide +kernel
theorem dX7_habitsInAll_3 : decode cX7_habitsInAll 3 = .ok (.istore_n 2, 1) := by decide +kernel
theorem dX7_habitsInAll_4 : decode cX7_habitsInAll 4 = .ok (.iload_n 2, 1) := by decide +kernel
theorem dX7_habitsInAll_5 : decode cX7_habitsInAll 5 = .ok (.aload_n 0, 1) := by decide +kernel
theorem dX7_habitsInAll_6 : decode cX7_habitsInAll 6 = .ok (.getfield 25, 3) := by decide +kernel
theorem dX7_habitsInAll_9 : decode cX7_habitsInAll 9 = .ok (.if_icmp .ge 17, 3) := by decide +kernel
theorem dX7_habitsInAll_12 : decode cX7_habitsInAll 12 = .ok (.iload_n 1, 1) := by decide +kernel
theorem dX7_habitsInAll_13 : decode cX7_habitsInAll 13 = .ok (.aload_n 0, 1) := by decide +kernel
theorem dX7_habitsInAll_14 : decode cX7_habitsInAll 14 = .ok (.iload_n 2, 1) := by decide +kernel
theorem dX7_habitsInAll_15 : decode cX7_habitsInAll 15 = .ok (.invokevirtual 54, 3) := by decide +kernel
theorem dX7_habitsInAll_18 : decode cX7_habitsInAll 18 = .ok (.iadd, 1) := by decide +kernel
theorem dX7_habitsInAll_19 : decode cX7_habitsInAll 19 = .ok (.istore_n 1, 1) := by decide +kernel
theorem dX7_habitsInAll_20 : decode cX7_habitsInAll 20 = .ok (.iinc 2 1, 3) := by decide +kernel
theorem dX7_habitsInAll_23 : decode cX7_habitsInAll 23 = .ok (.goto (-19), 3) := by decide +kernel
theorem dX7_habitsInAll_26 : decode cX7_habitsInAll 26 = .ok (.iload_n 1, 1) := by decide +kernel
theorem dX7_habitsInAll_27 : decode cX7_habitsInAll 27 = .ok (.ireturn, 1) := by decide +kernel
theorem dX7_addHabit_0 : decode cX7_addHabit 0 = .ok (.iload_n 1, 1) := by decide +kernel
theorem dX7_addHabit_1 : decode cX7_addHabit 1 = .ok (.bipush 6, 2) := by decide +kernel
theorem dX7_addHabit_3 : decode cX7_addHabit 3 = .ok (.imul, 1) := by decide +kernel
theorem dX7_addHabit_4 : decode cX7_addHabit 4 = .ok (.iload_n 2, 1) := by decide +kernel
theorem dX7_addHabit_5 : decode cX7_addHabit 5 = .ok (.iadd, 1) := by decide +kernel
theorem dX7_addHabit_6 : decode cX7_addHabit 6 = .ok (.istore 5, 2) := by decide +kernel
theorem dX7_addHabit_8 : decode cX7_addHabit 8 = .ok (.aload_n 0, 1) := by decide +kernel
theorem dX7_addHabit_9 : decode cX7_addHabit 9 = .ok (.getfield 15, 3) := by decide +kernel
theorem dX7_addHabit_12 : decode cX7_addHabit 12 = .ok (.iload 5, 2) := by decide +kernel
theorem dX7_addHabit_14 : decode cX7_addHabit 14 = .ok (.iaload, 1) := by decide +kernel
theorem dX7_addHabit_15 : decode cX7_addHabit 15 = .ok (.ifCond .ne 12, 3) := by decide +kernel
theorem dX7_addHabit_18 : decode cX7_addHabit 18 = .ok (.aload_n 0, 1) := by decide +kernel
theorem dX7_addHabit_19 : decode cX7_addHabit 19 = .ok (.getfield 18, 3) := by decide +kernel
theorem dX7_addHabit_22 : decode cX7_addHabit 22 = .ok (.iload 5, 2) := by decide +kernel
theorem dX7_addHabit_24 : decode cX7_addHabit 24 = .ok (.iload 4, 2) := by decide +kernel
theorem dX7_addHabit_26 : decode cX7_addHabit 26 = .ok (.iastore, 1) := by decide +kernel
theorem dX7_addHabit_27 : decode cX7_addHabit 27 = .ok (.aload_n 0, 1) := by decide +kernel
theorem dX7_addHabit_28 : decode cX7_addHabit 28 = .ok (.getfield 15, 3) := by decide +kernel
theorem dX7_addHabit_31 : decode cX7_addHabit 31 = .ok (.iload 5, 2) := by decide +kernel
theorem dX7_addHabit_33 : decode cX7_addHabit 33 = .ok (.bipush 99, 2) := by decide +kernel
theorem dX7_addHabit_35 : decode cX7_addHabit 35 = .ok (.aload_n 0, 1) := by decide +kernel
theorem dX7_addHabit_36 : decode cX7_addHabit 36 = .ok (.getfield 15, 3) := by decide +kernel
theorem dX7_addHabit_39 : decode cX7_addHabit 39 = .ok (.iload 5, 2) := by decide +kernel
theorem dX7_addHabit_41 : decode cX7_addHabit 41 = .ok (.iaload, 1) := by decide +kernel
theorem dX7_addHabit_42 : decode cX7_addHabit 42 = .ok (.iload_n 3, 1) := by decide +kernel
theorem dX7_addHabit_43 : decode cX7_addHabit 43 = .ok (.iadd, 1) := by decide +kernel
theorem dX7_addHabit_44 : decode cX7_addHabit 44 = .ok (.invokestatic 58, 3) := by decide +kernel
theorem dX7_addHabit_47 : decode cX7_addHabit 47 = .ok (.iastore, 1) := by decide +kernel
theorem dX7_addHabit_48 : decode cX7_addHabit 48 = .ok (.return_, 1) := by decide +kernel
theorem dX7_tieKnot_0 : decode cX7_tieKnot 0 = .ok (.aload_n 0, 1) := by decide +kernel
theorem dX7_tieKnot_1 : decode cX7_tieKnot 1 = .ok (.getfield 9, 3) := by decide +kernel
theorem dX7_tieKnot_4 : decode cX7_tieKnot 4 = .ok (.iload_n 1, 1) := by decide +kernel
theorem dX7_tieKnot_5 : decode cX7_tieKnot 5 = .ok (.iload_n 2, 1) := by decide +kernel
theorem dX7_tieKnot_6 : decode cX7_tieKnot 6 = .ok (.iastore, 1) := by decide +kernel
theorem dX7_tieKnot_7 : decode cX7_tieKnot 7 = .ok (.aload_n 0, 1) := by decide +kernel
theorem dX7_tieKnot_8 : decode cX7_tieKnot 8 = .ok (.iload_n 1, 1) := by decide +kernel
theorem dX7_tieKnot_9 : decode cX7_tieKnot 9 = .ok (.iload_n 2, 1) := by decide +kernel
theorem dX7_tieKnot_10 : decode cX7_tieKnot 10 = .ok (.iload_n 3, 1) := by decide +kernel
theorem dX7_tieKnot_11 : decode cX7_tieKnot 11 = .ok (.iload 4, 2) := by decide +kernel
theorem dX7_tieKnot_13 : decode cX7_tieKnot 13 = .ok (.invokevirtual 64, 3) := by decide +kernel
theorem dX7_tieKnot_16 : decode cX7_tieKnot 16 = .ok (.return_, 1) := by decide +kernel
theorem dX7_wetTo_0 : decode cX7_wetTo 0 = .ok (.aload_n 0, 1) := by decide +kernel
theorem dX7_wetTo_1 : decode cX7_wetTo 1 = .ok (.getfield 35, 3) := by decide +kernel
theorem dX7_wetTo_4 : decode cX7_wetTo 4 = .ok (.ifCond .ne 45, 3) := by decide +kernel
theorem dX7_wetTo_7 : decode cX7_wetTo 7 = .ok (.iload_n 1, 1) := by decide +kernel
theorem dX7_wetTo_8 : decode cX7_wetTo 8 = .ok (.ifCond .le 41, 3) := by decide +kernel
theorem dX7_wetTo_11 : decode cX7_wetTo 11 = .ok (.iconst 0, 1) := by decide +kernel
theorem dX7_wetTo_12 : decode cX7_wetTo 12 = .ok (.istore_n 3, 1) := by decide +kernel
theorem dX7_wetTo_13 : decode cX7_wetTo 13 = .ok (.iload_n 3, 1) := by decide +kernel
theorem dX7_wetTo_14 : decode cX7_wetTo 14 = .ok (.aload_n 0, 1) := by decide +kernel
theorem dX7_wetTo_15 : decode cX7_wetTo 15 = .ok (.getfield 25, 3) := by decide +kernel
theorem dX7_wetTo_18 : decode cX7_wetTo 18 = .ok (.if_icmp .ge 31, 3) := by decide +kernel
theorem dX7_wetTo_21 : decode cX7_wetTo 21 = .ok (.aload_n 0, 1) := by decide +kernel
theorem dX7_wetTo_22 : decode cX7_wetTo 22 = .ok (.iload_n 3, 1) := by decide +kernel
theorem dX7_wetTo_23 : decode cX7_wetTo 23 = .ok (.invokevirtual 68, 3) := by decide +kernel
theorem dX7_wetTo_26 : decode cX7_wetTo 26 = .ok (.istore 4, 2) := by decide +kernel
theorem dX7_wetTo_28 : decode cX7_wetTo 28 = .ok (.iload 4, 2) := by decide +kernel
theorem dX7_wetTo_30 : decode cX7_wetTo 30 = .ok (.iconst (-1), 1) := by decide +kernel
theorem dX7_wetTo_31 : decode cX7_wetTo 31 = .ok (.if_icmp .eq 12, 3) := by decide +kernel
theorem dX7_wetTo_34 : decode cX7_wetTo 34 = .ok (.aload_n 0, 1) := by decide +kernel
theorem dX7_wetTo_35 : decode cX7_wetTo 35 = .ok (.iload_n 3, 1) := by decide +kernel
theorem dX7_wetTo_36 : decode cX7_wetTo 36 = .ok (.iload 4, 2) := by decide +kernel
theorem dX7_wetTo_38 : decode cX7_wetTo 38 = .ok (.iconst 5, 1) := by decide +kernel
theorem dX7_wetTo_39 : decode cX7_wetTo 39 = .ok (.iload_n 2, 1) := by decide +kernel
theorem dX7_wetTo_40 : decode cX7_wetTo 40 = .ok (.invokevirtual 64, 3) := by decide +kernel
theorem dX7_wetTo_43 : decode cX7_wetTo 43 = .ok (.iinc 3 1, 3) := by decide +kernel
theorem dX7_wetTo_46 : decode cX7_wetTo 46 = .ok (.goto (-33), 3) := by decide +kernel
theorem dX7_wetTo_49 : decode cX7_wetTo 49 = .ok (.aload_n 0, 1) := by decide +kernel
theorem dX7_wetTo_50 : decode cX7_wetTo 50 = .ok (.iload_n 1, 1) := by decide +kernel
theorem dX7_wetTo_51 : decode cX7_wetTo 51 = .ok (.putfield 35, 3) := by decide +kernel
theorem dX7_wetTo_54 : decode cX7_wetTo 54 = .ok (.return_, 1) := by decide +kernel
theorem dX7_forgetBeside_0 : decode cX7_forgetBeside 0 = .ok (.iconst 0, 1) := by decide +kernel
theorem dX7_forgetBeside_1 : decode cX7_forgetBeside 1 = .ok (.istore_n 2, 1) := by decide +kernel
theorem dX7_forgetBeside_2 : decode cX7_forgetBeside 2 = .ok (.iload_n 2, 1) := by decide +kernel
theorem dX7_forgetBeside_3 : decode cX7_forgetBeside 3 = .ok (.bipush 6, 2) := by decide +kernel
theorem dX7_forgetBeside_5 : decode cX7_forgetBeside 5 = .ok (.if_icmp .ge 42, 3) := by decide +kernel
theorem dX7_forgetBeside_8 : decode cX7_forgetBeside 8 = .ok (.aload_n 0, 1) := by decide +kernel
theorem dX7_forgetBeside_9 : decode cX7_forgetBeside 9 = .ok (.getfield 15, 3) := by decide +kernel
theorem dX7_forgetBeside_12 : decode cX7_forgetBeside 12 = .ok (.iload_n 1, 1) := by decide +kernel
theorem dX7_forgetBeside_13 : decode cX7_forgetBeside 13 = .ok (.bipush 6, 2) := by decide +kernel
theorem dX7_forgetBeside_15 : decode cX7_forgetBeside 15 = .ok (.imul, 1) := by decide +kernel
theorem dX7_forgetBeside_16 : decode cX7_forgetBeside 16 = .ok (.iload_n 2, 1) := by decide +kernel
theorem dX7_forgetBeside_17 : decode cX7_forgetBeside 17 = .ok (.iadd, 1) := by decide +kernel
theorem dX7_forgetBeside_18 : decode cX7_forgetBeside 18 = .ok (.iconst 0, 1) := by decide +kernel
theorem dX7_forgetBeside_19 : decode cX7_forgetBeside 19 = .ok (.iastore, 1) := by decide +kernel
theorem dX7_forgetBeside_20 : decode cX7_forgetBeside 20 = .ok (.iload_n 1, 1) := by decide +kernel
theorem dX7_forgetBeside_21 : decode cX7_forgetBeside 21 = .ok (.ifCond .le 20, 3) := by decide +kernel
theorem dX7_forgetBeside_24 : decode cX7_forgetBeside 24 = .ok (.aload_n 0, 1) := by decide +kernel
theorem dX7_forgetBeside_25 : decode cX7_forgetBeside 25 = .ok (.getfield 15, 3) := by decide +kernel
theorem dX7_forgetBeside_28 : decode cX7_forgetBeside 28 = .ok (.iload_n 1, 1) := by decide +kernel
theorem dX7_forgetBeside_29 : decode cX7_forgetBeside 29 = .ok (.iconst 1, 1) := by decide +kernel
theorem dX7_forgetBeside_30 : decode cX7_forgetBeside 30 = .ok (.isub, 1) := by decide +kernel
theorem dX7_forgetBeside_31 : decode cX7_forgetBeside 31 = .ok (.bipush 6, 2) := by decide +kernel
theorem dX7_forgetBeside_33 : decode cX7_forgetBeside 33 = .ok (.imul, 1) := by decide +kernel
theorem dX7_forgetBeside_34 : decode cX7_forgetBeside 34 = .ok (.iload_n 2, 1) := by decide +kernel
theorem dX7_forgetBeside_35 : decode cX7_forgetBeside 35 = .ok (.iadd, 1) := by decide +kernel
theorem dX7_forgetBeside_36 : decode cX7_forgetBeside 36 = .ok (.dup2, 1) := by decide +kernel
theorem dX7_forgetBeside_37 : decode cX7_forgetBeside 37 = .ok (.iaload, 1) := by decide +kernel
theorem dX7_forgetBeside_38 : decode cX7_forgetBeside 38 = .ok (.iconst 2, 1) := by decide +kernel
theorem dX7_forgetBeside_39 : decode cX7_forgetBeside 39 = .ok (.idiv, 1) := by decide +kernel
theorem dX7_forgetBeside_40 : decode cX7_forgetBeside 40 = .ok (.iastore, 1) := by decide +kernel
theorem dX7_forgetBeside_41 : decode cX7_forgetBeside 41 = .ok (.iinc 2 1, 3) := by decide +kernel
theorem dX7_forgetBeside_44 : decode cX7_forgetBeside 44 = .ok (.goto (-42), 3) := by decide +kernel
theorem dX7_forgetBeside_47 : decode cX7_forgetBeside 47 = .ok (.return_, 1) := by decide +kernel
theorem dX7_takeTail_0 : decode cX7_takeTail 0 = .ok (.aload_n 0, 1) := by decide +kernel
theorem dX7_takeTail_1 : decode cX7_takeTail 1 = .ok (.aload_n 1, 1) := by decide +kernel
theorem dX7_takeTail_2 : decode cX7_takeTail 2 = .ok (.getfield 25, 3) := by decide +kernel
theorem dX7_takeTail_5 : decode cX7_takeTail 5 = .ok (.iload_n 2, 1) := by decide +kernel
theorem dX7_takeTail_6 : decode cX7_takeTail 6 = .ok (.isub, 1) := by decide +kernel
theorem dX7_takeTail_7 : decode cX7_takeTail 7 = .ok (.aload_n 1, 1) := by decide +kernel
theorem dX7_takeTail_8 : decode cX7_takeTail 8 = .ok (.getfield 29, 3) := by decide +kernel
theorem dX7_takeTail_11 : decode cX7_takeTail 11 = .ok (.aload_n 1, 1) := by decide +kernel
theorem dX7_takeTail_12 : decode cX7_takeTail 12 = .ok (.getfield 32, 3) := by decide +kernel
theorem dX7_takeTail_15 : decode cX7_takeTail 15 = .ok (.invokevirtual 71, 3) := by decide +kernel
theorem dX7_takeTail_18 : decode cX7_takeTail 18 = .ok (.aload_n 0, 1) := by decide +kernel
theorem dX7_takeTail_19 : decode cX7_takeTail 19 = .ok (.aload_n 1, 1) := by decide +kernel
theorem dX7_takeTail_20 : decode cX7_takeTail 20 = .ok (.getfield 35, 3) := by decide +kernel
theorem dX7_takeTail_23 : decode cX7_takeTail 23 = .ok (.putfield 35, 3) := by decide +kernel
theorem dX7_takeTail_26 : decode cX7_takeTail 26 = .ok (.aload_n 0, 1) := by decide +kernel
theorem dX7_takeTail_27 : decode cX7_takeTail 27 = .ok (.aload_n 1, 1) := by decide +kernel
theorem dX7_takeTail_28 : decode cX7_takeTail 28 = .ok (.iload_n 2, 1) := by decide +kernel
theorem dX7_takeTail_29 : decode cX7_takeTail 29 = .ok (.iconst 0, 1) := by decide +kernel
theorem dX7_takeTail_30 : decode cX7_takeTail 30 = .ok (.aload_n 0, 1) := by decide +kernel
theorem dX7_takeTail_31 : decode cX7_takeTail 31 = .ok (.getfield 25, 3) := by decide +kernel
theorem dX7_takeTail_34 : decode cX7_takeTail 34 = .ok (.invokevirtual 75, 3) := by decide +kernel
theorem dX7_takeTail_37 : decode cX7_takeTail 37 = .ok (.return_, 1) := by decide +kernel
theorem dX7_copyPlaces_0 : decode cX7_copyPlaces 0 = .ok (.aload_n 1, 1) := by decide +kernel
theorem dX7_copyPlaces_1 : decode cX7_copyPlaces 1 = .ok (.getfield 9, 3) := by decide +kernel
theorem dX7_copyPlaces_4 : decode cX7_copyPlaces 4 = .ok (.iload_n 2, 1) := by decide +kernel
theorem dX7_copyPlaces_5 : decode cX7_copyPlaces 5 = .ok (.aload_n 0, 1) := by decide +kernel
theorem dX7_copyPlaces_6 : decode cX7_copyPlaces 6 = .ok (.getfield 9, 3) := by decide +kernel
theorem dX7_copyPlaces_9 : decode cX7_copyPlaces 9 = .ok (.iload_n 3, 1) := by decide +kernel
theorem dX7_copyPlaces_10 : decode cX7_copyPlaces 10 = .ok (.iload 4, 2) := by decide +kernel
theorem dX7_copyPlaces_12 : decode cX7_copyPlaces 12 = .ok (.invokestatic 38, 3) := by decide +kernel
theorem dX7_copyPlaces_15 : decode cX7_copyPlaces 15 = .ok (.aload_n 1, 1) := by decide +kernel
theorem dX7_copyPlaces_16 : decode cX7_copyPlaces 16 = .ok (.getfield 15, 3) := by decide +kernel
theorem dX7_copyPlaces_19 : decode cX7_copyPlaces 19 = .ok (.iload_n 2, 1) := by decide +kernel
theorem dX7_copyPlaces_20 : decode cX7_copyPlaces 20 = .ok (.bipush 6, 2) := by decide +kernel
theorem dX7_copyPlaces_22 : decode cX7_copyPlaces 22 = .ok (.imul, 1) := by decide +kernel
theorem dX7_copyPlaces_23 : decode cX7_copyPlaces 23 = .ok (.aload_n 0, 1) := by decide +kernel
theorem dX7_copyPlaces_24 : decode cX7_copyPlaces 24 = .ok (.getfield 15, 3) := by decide +kernel
theorem dX7_copyPlaces_27 : decode cX7_copyPlaces 27 = .ok (.iload_n 3, 1) := by decide +kernel
theorem dX7_copyPlaces_28 : decode cX7_copyPlaces 28 = .ok (.bipush 6, 2) := by decide +kernel
theorem dX7_copyPlaces_30 : decode cX7_copyPlaces 30 = .ok (.imul, 1) := by decide +kernel
theorem dX7_copyPlaces_31 : decode cX7_copyPlaces 31 = .ok (.iload 4, 2) := by decide +kernel
theorem dX7_copyPlaces_33 : decode cX7_copyPlaces 33 = .ok (.bipush 6, 2) := by decide +kernel
theorem dX7_copyPlaces_35 : decode cX7_copyPlaces 35 = .ok (.imul, 1) := by decide +kernel
theorem dX7_copyPlaces_36 : decode cX7_copyPlaces 36 = .ok (.invokestatic 38, 3) := by decide +kernel
theorem dX7_copyPlaces_39 : decode cX7_copyPlaces 39 = .ok (.aload_n 1, 1) := by decide +kernel
theorem dX7_copyPlaces_40 : decode cX7_copyPlaces 40 = .ok (.getfield 18, 3) := by decide +kernel
theorem dX7_copyPlaces_43 : decode cX7_copyPlaces 43 = .ok (.iload_n 2, 1) := by decide +kernel
theorem dX7_copyPlaces_44 : decode cX7_copyPlaces 44 = .ok (.bipush 6, 2) := by decide +kernel
theorem dX7_copyPlaces_46 : decode cX7_copyPlaces 46 = .ok (.imul, 1) := by decide +kernel
theorem dX7_copyPlaces_47 : decode cX7_copyPlaces 47 = .ok (.aload_n 0, 1) := by decide +kernel
theorem dX7_copyPlaces_48 : decode cX7_copyPlaces 48 = .ok (.getfield 18, 3) := by decide +kernel
theorem dX7_copyPlaces_51 : decode cX7_copyPlaces 51 = .ok (.iload_n 3, 1) := by decide +kernel
theorem dX7_copyPlaces_52 : decode cX7_copyPlaces 52 = .ok (.bipush 6, 2) := by decide +kernel
theorem dX7_copyPlaces_54 : decode cX7_copyPlaces 54 = .ok (.imul, 1) := by decide +kernel
theorem dX7_copyPlaces_55 : decode cX7_copyPlaces 55 = .ok (.iload 4, 2) := by decide +kernel
theorem dX7_copyPlaces_57 : decode cX7_copyPlaces 57 = .ok (.bipush 6, 2) := by decide +kernel
theorem dX7_copyPlaces_59 : decode cX7_copyPlaces 59 = .ok (.imul, 1) := by decide +kernel
theorem dX7_copyPlaces_60 : decode cX7_copyPlaces 60 = .ok (.invokestatic 38, 3) := by decide +kernel
theorem dX7_copyPlaces_63 : decode cX7_copyPlaces 63 = .ok (.return_, 1) := by decide +kernel
theorem dX7_append_0 : decode cX7_append 0 = .ok (.aload_n 0, 1) := by decide +kernel
theorem dX7_append_1 : decode cX7_append 1 = .ok (.getfield 25, 3) := by decide +kernel
theorem dX7_append_4 : decode cX7_append 4 = .ok (.istore_n 2, 1) := by decide +kernel
theorem dX7_append_5 : decode cX7_append 5 = .ok (.aload_n 0, 1) := by decide +kernel
theorem dX7_append_6 : decode cX7_append 6 = .ok (.aload_n 1, 1) := by decide +kernel
theorem dX7_append_7 : decode cX7_append 7 = .ok (.iconst 0, 1) := by decide +kernel
theorem dX7_append_8 : decode cX7_append 8 = .ok (.iload_n 2, 1) := by decide +kernel
theorem dX7_append_9 : decode cX7_append 9 = .ok (.aload_n 1, 1) := by decide +kernel
theorem dX7_append_10 : decode cX7_append 10 = .ok (.getfield 25, 3) := by decide +kernel
theorem dX7_append_13 : decode cX7_append 13 = .ok (.invokevirtual 75, 3) := by decide +kernel
theorem dX7_append_16 : decode cX7_append 16 = .ok (.aload_n 0, 1) := by decide +kernel
theorem dX7_append_17 : decode cX7_append 17 = .ok (.iload_n 2, 1) := by decide +kernel
theorem dX7_append_18 : decode cX7_append 18 = .ok (.aload_n 1, 1) := by decide +kernel
theorem dX7_append_19 : decode cX7_append 19 = .ok (.getfield 25, 3) := by decide +kernel
theorem dX7_append_22 : decode cX7_append 22 = .ok (.iadd, 1) := by decide +kernel
theorem dX7_append_23 : decode cX7_append 23 = .ok (.putfield 25, 3) := by decide +kernel
theorem dX7_append_26 : decode cX7_append 26 = .ok (.aload_n 0, 1) := by decide +kernel
theorem dX7_append_27 : decode cX7_append 27 = .ok (.aload_n 0, 1) := by decide +kernel
theorem dX7_append_28 : decode cX7_append 28 = .ok (.getfield 35, 3) := by decide +kernel
theorem dX7_append_31 : decode cX7_append 31 = .ok (.aload_n 1, 1) := by decide +kernel
theorem dX7_append_32 : decode cX7_append 32 = .ok (.getfield 35, 3) := by decide +kernel
theorem dX7_append_35 : decode cX7_append 35 = .ok (.invokestatic 79, 3) := by decide +kernel
theorem dX7_append_38 : decode cX7_append 38 = .ok (.putfield 35, 3) := by decide +kernel
theorem dX7_append_41 : decode cX7_append 41 = .ok (.iconst 0, 1) := by decide +kernel
theorem dX7_append_42 : decode cX7_append 42 = .ok (.istore_n 3, 1) := by decide +kernel
theorem dX7_append_43 : decode cX7_append 43 = .ok (.iload_n 3, 1) := by decide +kernel
theorem dX7_append_44 : decode cX7_append 44 = .ok (.bipush 6, 2) := by decide +kernel
theorem dX7_append_46 : decode cX7_append 46 = .ok (.if_icmp .ge 27, 3) := by decide +kernel
theorem dX7_append_49 : decode cX7_append 49 = .ok (.aload_n 0, 1) := by decide +kernel
theorem dX7_append_50 : decode cX7_append 50 = .ok (.iload_n 2, 1) := by decide +kernel
theorem dX7_append_51 : decode cX7_append 51 = .ok (.iconst 1, 1) := by decide +kernel
theorem dX7_append_52 : decode cX7_append 52 = .ok (.isub, 1) := by decide +kernel
theorem dX7_append_53 : decode cX7_append 53 = .ok (.bipush 6, 2) := by decide +kernel
theorem dX7_append_55 : decode cX7_append 55 = .ok (.imul, 1) := by decide +kernel
theorem dX7_append_56 : decode cX7_append 56 = .ok (.iload_n 3, 1) := by decide +kernel
theorem dX7_append_57 : decode cX7_append 57 = .ok (.iadd, 1) := by decide +kernel
theorem dX7_append_58 : decode cX7_append 58 = .ok (.iload_n 2, 1) := by decide +kernel
theorem dX7_append_59 : decode cX7_append 59 = .ok (.bipush 6, 2) := by decide +kernel
theorem dX7_append_61 : decode cX7_append 61 = .ok (.imul, 1) := by decide +kernel
theorem dX7_append_62 : decode cX7_append 62 = .ok (.iload_n 3, 1) := by decide +kernel
theorem dX7_append_63 : decode cX7_append 63 = .ok (.iadd, 1) := by decide +kernel
theorem dX7_append_64 : decode cX7_append 64 = .ok (.invokevirtual 82, 3) := by decide +kernel
theorem dX7_append_67 : decode cX7_append 67 = .ok (.iinc 3 1, 3) := by decide +kernel
theorem dX7_append_70 : decode cX7_append 70 = .ok (.goto (-27), 3) := by decide +kernel
theorem dX7_append_73 : decode cX7_append 73 = .ok (.return_, 1) := by decide +kernel
theorem dX7_marry_0 : decode cX7_marry 0 = .ok (.aload_n 0, 1) := by decide +kernel
theorem dX7_marry_1 : decode cX7_marry 1 = .ok (.getfield 18, 3) := by decide +kernel
theorem dX7_marry_4 : decode cX7_marry 4 = .ok (.iload_n 1, 1) := by decide +kernel
theorem dX7_marry_5 : decode cX7_marry 5 = .ok (.iaload, 1) := by decide +kernel
theorem dX7_marry_6 : decode cX7_marry 6 = .ok (.istore_n 3, 1) := by decide +kernel
theorem dX7_marry_7 : decode cX7_marry 7 = .ok (.aload_n 0, 1) := by decide +kernel
theorem dX7_marry_8 : decode cX7_marry 8 = .ok (.getfield 15, 3) := by decide +kernel
theorem dX7_marry_11 : decode cX7_marry 11 = .ok (.iload_n 1, 1) := by decide +kernel
theorem dX7_marry_12 : decode cX7_marry 12 = .ok (.iaload, 1) := by decide +kernel
theorem dX7_marry_13 : decode cX7_marry 13 = .ok (.ifCond .eq 22, 3) := by decide +kernel
theorem dX7_marry_16 : decode cX7_marry 16 = .ok (.aload_n 0, 1) := by decide +kernel
theorem dX7_marry_17 : decode cX7_marry 17 = .ok (.getfield 15, 3) := by decide +kernel
theorem dX7_marry_20 : decode cX7_marry 20 = .ok (.iload_n 2, 1) := by decide +kernel
theorem dX7_marry_21 : decode cX7_marry 21 = .ok (.iaload, 1) := by decide +kernel
theorem dX7_marry_22 : decode cX7_marry 22 = .ok (.ifCond .le 20, 3) := by decide +kernel
theorem dX7_marry_25 : decode cX7_marry 25 = .ok (.aload_n 0, 1) := by decide +kernel
theorem dX7_marry_26 : decode cX7_marry 26 = .ok (.getfield 18, 3) := by decide +kernel
theorem dX7_marry_29 : decode cX7_marry 29 = .ok (.iload_n 2, 1) := by decide +kernel
theorem dX7_marry_30 : decode cX7_marry 30 = .ok (.iaload, 1) := by decide +kernel
theorem dX7_marry_31 : decode cX7_marry 31 = .ok (.iload_n 3, 1) := by decide +kernel
theorem dX7_marry_32 : decode cX7_marry 32 = .ok (.if_icmp .ge 10, 3) := by decide +kernel
theorem dX7_marry_35 : decode cX7_marry 35 = .ok (.aload_n 0, 1) := by decide +kernel
theorem dX7_marry_36 : decode cX7_marry 36 = .ok (.getfield 18, 3) := by decide +kernel
theorem dX7_marry_39 : decode cX7_marry 39 = .ok (.iload_n 2, 1) := by decide +kernel
theorem dX7_marry_40 : decode cX7_marry 40 = .ok (.iaload, 1) := by decide +kernel
theorem dX7_marry_41 : decode cX7_marry 41 = .ok (.istore_n 3, 1) := by decide +kernel
theorem dX7_marry_42 : decode cX7_marry 42 = .ok (.aload_n 0, 1) := by decide +kernel
theorem dX7_marry_43 : decode cX7_marry 43 = .ok (.getfield 15, 3) := by decide +kernel
theorem dX7_marry_46 : decode cX7_marry 46 = .ok (.iload_n 1, 1) := by decide +kernel
theorem dX7_marry_47 : decode cX7_marry 47 = .ok (.iaload, 1) := by decide +kernel
theorem dX7_marry_48 : decode cX7_marry 48 = .ok (.aload_n 0, 1) := by decide +kernel
theorem dX7_marry_49 : decode cX7_marry 49 = .ok (.getfield 15, 3) := by decide +kernel
theorem dX7_marry_52 : decode cX7_marry 52 = .ok (.iload_n 2, 1) := by decide +kernel
theorem dX7_marry_53 : decode cX7_marry 53 = .ok (.iaload, 1) := by decide +kernel
theorem dX7_marry_54 : decode cX7_marry 54 = .ok (.invokestatic 79, 3) := by decide +kernel
theorem dX7_marry_57 : decode cX7_marry 57 = .ok (.istore 4, 2) := by decide +kernel
theorem dX7_marry_59 : decode cX7_marry 59 = .ok (.aload_n 0, 1) := by decide +kernel
theorem dX7_marry_60 : decode cX7_marry 60 = .ok (.getfield 15, 3) := by decide +kernel
theorem dX7_marry_63 : decode cX7_marry 63 = .ok (.iload_n 1, 1) := by decide +kernel
theorem dX7_marry_64 : decode cX7_marry 64 = .ok (.iload 4, 2) := by decide +kernel
theorem dX7_marry_66 : decode cX7_marry 66 = .ok (.iastore, 1) := by decide +kernel
theorem dX7_marry_67 : decode cX7_marry 67 = .ok (.aload_n 0, 1) := by decide +kernel
theorem dX7_marry_68 : decode cX7_marry 68 = .ok (.getfield 15, 3) := by decide +kernel
theorem dX7_marry_71 : decode cX7_marry 71 = .ok (.iload_n 2, 1) := by decide +kernel
theorem dX7_marry_72 : decode cX7_marry 72 = .ok (.iload 4, 2) := by decide +kernel
theorem dX7_marry_74 : decode cX7_marry 74 = .ok (.iastore, 1) := by decide +kernel
theorem dX7_marry_75 : decode cX7_marry 75 = .ok (.aload_n 0, 1) := by decide +kernel
theorem dX7_marry_76 : decode cX7_marry 76 = .ok (.getfield 18, 3) := by decide +kernel
theorem dX7_marry_79 : decode cX7_marry 79 = .ok (.iload_n 1, 1) := by decide +kernel
theorem dX7_marry_80 : decode cX7_marry 80 = .ok (.iload_n 3, 1) := by decide +kernel
theorem dX7_marry_81 : decode cX7_marry 81 = .ok (.iastore, 1) := by decide +kernel
theorem dX7_marry_82 : decode cX7_marry 82 = .ok (.aload_n 0, 1) := by decide +kernel
theorem dX7_marry_83 : decode cX7_marry 83 = .ok (.getfield 18, 3) := by decide +kernel
theorem dX7_marry_86 : decode cX7_marry 86 = .ok (.iload_n 2, 1) := by decide +kernel
theorem dX7_marry_87 : decode cX7_marry 87 = .ok (.iload_n 3, 1) := by decide +kernel
theorem dX7_marry_88 : decode cX7_marry 88 = .ok (.iastore, 1) := by decide +kernel
theorem dX7_marry_89 : decode cX7_marry 89 = .ok (.return_, 1) := by decide +kernel
theorem dX8_init_0 : decode cX8_init 0 = .ok (.aload_n 0, 1) := by decide +kernel
theorem dX8_init_1 : decode cX8_init 1 = .ok (.invokespecial 3, 3) := by decide +kernel
theorem dX8_init_4 : decode cX8_init 4 = .ok (.aload_n 0, 1) := by decide +kernel
theorem dX8_init_5 : decode cX8_init 5 = .ok (.sipush 400, 3) := by decide +kernel
theorem dX8_init_8 : decode cX8_init 8 = .ok (.newarray .int, 2) := by decide +kernel
theorem dX8_init_10 : decode cX8_init 10 = .ok (.putfield 9, 3) := by decide +kernel
theorem dX8_init_13 : decode cX8_init 13 = .ok (.aload_n 0, 1) := by decide +kernel
theorem dX8_init_14 : decode cX8_init 14 = .ok (.iconst (-1), 1) := by decide +kernel
theorem dX8_init_15 : decode cX8_init 15 = .ok (.putfield 15, 3) := by decide +kernel
theorem dX8_init_18 : decode cX8_init 18 = .ok (.aload_n 0, 1) := by decide +kernel
theorem dX8_init_19 : decode cX8_init 19 = .ok (.sipush 401, 3) := by decide +kernel
theorem dX8_init_22 : decode cX8_init 22 = .ok (.newarray .int, 2) := by decide +kernel
theorem dX8_init_24 : decode cX8_init 24 = .ok (.putfield 19, 3) := by decide +kernel
theorem dX8_init_27 : decode cX8_init 27 = .ok (.aload_n 0, 1) := by decide +kernel
theorem dX8_init_28 : decode cX8_init 28 = .ok (.sipush 401, 3) := by decide +kernel
theorem dX8_init_31 : decode cX8_init 31 = .ok (.newarray .int, 2) := by decide +kernel
theorem dX8_init_33 : decode cX8_init 33 = .ok (.putfield 22, 3) := by decide +kernel
theorem dX8_init_36 : decode cX8_init 36 = .ok (.aload_n 0, 1) := by decide +kernel
theorem dX8_init_37 : decode cX8_init 37 = .ok (.sipush 401, 3) := by decide +kernel
theorem dX8_init_40 : decode cX8_init 40 = .ok (.newarray .int, 2) := by decide +kernel
theorem dX8_init_42 : decode cX8_init 42 = .ok (.putfield 25, 3) := by decide +kernel
theorem dX8_init_45 : decode cX8_init 45 = .ok (.return_, 1) := by decide +kernel
theorem dX8_feedNumber_0 : decode cX8_feedNumber 0 = .ok (.bipush 24, 2) := by decide +kernel
theorem dX8_feedNumber_2 : decode cX8_feedNumber 2 = .ok (.istore_n 2, 1) := by decide +kernel
theorem dX8_feedNumber_3 : decode cX8_feedNumber 3 = .ok (.iload_n 2, 1) := by decide +kernel
theorem dX8_feedNumber_4 : decode cX8_feedNumber 4 = .ok (.ifCond .lt 45, 3) := by decide +kernel
theorem dX8_feedNumber_7 : decode cX8_feedNumber 7 = .ok (.aload_n 0, 1) := by decide +kernel
theorem dX8_feedNumber_8 : decode cX8_feedNumber 8 = .ok (.getfield 28, 3) := by decide +kernel
theorem dX8_feedNumber_11 : decode cX8_feedNumber 11 = .ok (.sipush 400, 3) := by decide +kernel
theorem dX8_feedNumber_14 : decode cX8_feedNumber 14 = .ok (.if_icmp .ge 29, 3) := by decide +kernel
theorem dX8_feedNumber_17 : decode cX8_feedNumber 17 = .ok (.aload_n 0, 1) := by decide +kernel
theorem dX8_feedNumber_18 : decode cX8_feedNumber 18 = .ok (.getfield 9, 3) := by decide +kernel
theorem dX8_feedNumber_21 : decode cX8_feedNumber 21 = .ok (.aload_n 0, 1) := by decide +kernel
theorem dX8_feedNumber_22 : decode cX8_feedNumber 22 = .ok (.getfield 28, 3) := by decide +kernel
theorem dX8_feedNumber_25 : decode cX8_feedNumber 25 = .ok (.iload_n 1, 1) := by decide +kernel
theorem dX8_feedNumber_26 : decode cX8_feedNumber 26 = .ok (.iload_n 2, 1) := by decide +kernel
theorem dX8_feedNumber_27 : decode cX8_feedNumber 27 = .ok (.iushr, 1) := by decide +kernel
theorem dX8_feedNumber_28 : decode cX8_feedNumber 28 = .ok (.sipush 255, 3) := by decide +kernel
theorem dX8_feedNumber_31 : decode cX8_feedNumber 31 = .ok (.iand, 1) := by decide +kernel
theorem dX8_feedNumber_32 : decode cX8_feedNumber 32 = .ok (.iastore, 1) := by decide +kernel
theorem dX8_feedNumber_33 : decode cX8_feedNumber 33 = .ok (.aload_n 0, 1) := by decide +kernel
theorem dX8_feedNumber_34 : decode cX8_feedNumber 34 = .ok (.dup, 1) := by decide +kernel
theorem dX8_feedNumber_35 : decode cX8_feedNumber 35 = .ok (.getfield 28, 3) := by decide +kernel
theorem dX8_feedNumber_38 : decode cX8_feedNumber 38 = .ok (.iconst 1, 1) := by decide +kernel
theorem dX8_feedNumber_39 : decode cX8_feedNumber 39 = .ok (.iadd, 1) := by decide +kernel
theorem dX8_feedNumber_40 : decode cX8_feedNumber 40 = .ok (.putfield 28, 3) := by decide +kernel
theorem dX8_feedNumber_43 : decode cX8_feedNumber 43 = .ok (.iinc 2 (-8), 3) := by decide +kernel
theorem dX8_feedNumber_46 : decode cX8_feedNumber 46 = .ok (.goto (-43), 3) := by decide +kernel
theorem dX8_feedNumber_49 : decode cX8_feedNumber 49 = .ok (.return_, 1) := by decide +kernel
theorem dX8_isBlank_0 : decode cX8_isBlank 0 = .ok (.iload_n 0, 1) := by decide +kernel
theorem dX8_isBlank_1 : decode cX8_isBlank 1 = .ok (.bipush 32, 2) := by decide +kernel
theorem dX8_isBlank_3 : decode cX8_isBlank 3 = .ok (.if_icmp .eq 9, 3) := by decide +kernel
theorem dX8_isBlank_6 : decode cX8_isBlank 6 = .ok (.iload_n 0, 1) := by decide +kernel
theorem dX8_isBlank_7 : decode cX8_isBlank 7 = .ok (.bipush 10, 2) := by decide +kernel
theorem dX8_isBlank_9 : decode cX8_isBlank 9 = .ok (.if_icmp .ne 7, 3) := by decide +kernel
theorem dX8_isBlank_12 : decode cX8_isBlank 12 = .ok (.iconst 1, 1) := by decide +kernel
theorem dX8_isBlank_13 : decode cX8_isBlank 13 = .ok (.goto 4, 3) := by decide +kernel
theorem dX8_isBlank_16 : decode cX8_isBlank 16 = .ok (.iconst 0, 1) := by decide +kernel
theorem dX8_isBlank_17 : decode cX8_isBlank 17 = .ok (.ireturn, 1) := by decide +kernel
theorem dX8_isLetter_0 : decode cX8_isLetter 0 = .ok (.iload_n 0, 1) := by decide +kernel
theorem dX8_isLetter_1 : decode cX8_isLetter 1 = .ok (.bipush 97, 2) := by decide +kernel
theorem dX8_isLetter_3 : decode cX8_isLetter 3 = .ok (.if_icmp .lt 9, 3) := by decide +kernel
theorem dX8_isLetter_6 : decode cX8_isLetter 6 = .ok (.iload_n 0, 1) := by decide +kernel
theorem dX8_isLetter_7 : decode cX8_isLetter 7 = .ok (.bipush 122, 2) := by decide +kernel
theorem dX8_isLetter_9 : decode cX8_isLetter 9 = .ok (.if_icmp .le 15, 3) := by decide +kernel
theorem dX8_isLetter_12 : decode cX8_isLetter 12 = .ok (.iload_n 0, 1) := by decide +kernel
theorem dX8_isLetter_13 : decode cX8_isLetter 13 = .ok (.bipush 65, 2) := by decide +kernel
theorem dX8_isLetter_15 : decode cX8_isLetter 15 = .ok (.if_icmp .lt 13, 3) := by decide +kernel
theorem dX8_isLetter_18 : decode cX8_isLetter 18 = .ok (.iload_n 0, 1) := by decide +kernel
theorem dX8_isLetter_19 : decode cX8_isLetter 19 = .ok (.bipush 90, 2) := by decide +kernel
theorem dX8_isLetter_21 : decode cX8_isLetter 21 = .ok (.if_icmp .gt 7, 3) := by decide +kernel
theorem dX8_isLetter_24 : decode cX8_isLetter 24 = .ok (.iconst 1, 1) := by decide +kernel
theorem dX8_isLetter_25 : decode cX8_isLetter 25 = .ok (.goto 4, 3) := by decide +kernel
theorem dX8_isLetter_28 : decode cX8_isLetter 28 = .ok (.iconst 0, 1) := by decide +kernel
theorem dX8_isLetter_29 : decode cX8_isLetter 29 = .ok (.ireturn, 1) := by decide +kernel
theorem dX8_isDigit_0 : decode cX8_isDigit 0 = .ok (.iload_n 0, 1) := by decide +kernel
theorem dX8_isDigit_1 : decode cX8_isDigit 1 = .ok (.bipush 48, 2) := by decide +kernel
theorem dX8_isDigit_3 : decode cX8_isDigit 3 = .ok (.if_icmp .lt 13, 3) := by decide +kernel
theorem dX8_isDigit_6 : decode cX8_isDigit 6 = .ok (.iload_n 0, 1) := by decide +kernel
theorem dX8_isDigit_7 : decode cX8_isDigit 7 = .ok (.bipush 57, 2) := by decide +kernel
theorem dX8_isDigit_9 : decode cX8_isDigit 9 = .ok (.if_icmp .gt 7, 3) := by decide +kernel
theorem dX8_isDigit_12 : decode cX8_isDigit 12 = .ok (.iconst 1, 1) := by decide +kernel
theorem dX8_isDigit_13 : decode cX8_isDigit 13 = .ok (.goto 4, 3) := by decide +kernel
theorem dX8_isDigit_16 : decode cX8_isDigit 16 = .ok (.iconst 0, 1) := by decide +kernel
theorem dX8_isDigit_17 : decode cX8_isDigit 17 = .ok (.ireturn, 1) := by decide +kernel
theorem dX8_scan_0 : decode cX8_scan 0 = .ok (.aload_n 0, 1) := by decide +kernel
theorem dX8_scan_1 : decode cX8_scan 1 = .ok (.iconst 0, 1) := by decide +kernel
theorem dX8_scan_2 : decode cX8_scan 2 = .ok (.putfield 31, 3) := by decide +kernel
theorem dX8_scan_5 : decode cX8_scan 5 = .ok (.aload_n 0, 1) := by decide +kernel
theorem dX8_scan_6 : decode cX8_scan 6 = .ok (.iconst 0, 1) := by decide +kernel
theorem dX8_scan_7 : decode cX8_scan 7 = .ok (.putfield 34, 3) := by decide +kernel
theorem dX8_scan_10 : decode cX8_scan 10 = .ok (.iconst 0, 1) := by decide +kernel
theorem dX8_scan_11 : decode cX8_scan 11 = .ok (.istore_n 2, 1) := by decide +kernel
theorem dX8_scan_12 : decode cX8_scan 12 = .ok (.iconst 0, 1) := by decide +kernel
theorem dX8_scan_13 : decode cX8_scan 13 = .ok (.istore_n 3, 1) := by decide +kernel
theorem dX8_scan_14 : decode cX8_scan 14 = .ok (.iload_n 3, 1) := by decide +kernel
theorem dX8_scan_15 : decode cX8_scan 15 = .ok (.sipush 400, 3) := by decide +kernel
theorem dX8_scan_18 : decode cX8_scan 18 = .ok (.if_icmp .ge 199, 3) := by decide +kernel
theorem dX8_scan_21 : decode cX8_scan 21 = .ok (.iload_n 2, 1) := by decide +kernel
theorem dX8_scan_22 : decode cX8_scan 22 = .ok (.aload_n 0, 1) := by decide +kernel
theorem dX8_scan_23 : decode cX8_scan 23 = .ok (.getfield 28, 3) := by decide +kernel
theorem dX8_scan_26 : decode cX8_scan 26 = .ok (.if_icmp .ge 191, 3) := by decide +kernel
theorem dX8_scan_29 : decode cX8_scan 29 = .ok (.iload_n 2, 1) := by decide +kernel
theorem dX8_scan_30 : decode cX8_scan 30 = .ok (.istore 4, 2) := by decide +kernel
theorem dX8_scan_32 : decode cX8_scan 32 = .ok (.aload_n 0, 1) := by decide +kernel
theorem dX8_scan_33 : decode cX8_scan 33 = .ok (.getfield 9, 3) := by decide +kernel
theorem dX8_scan_36 : decode cX8_scan 36 = .ok (.iload_n 2, 1) := by decide +kernel
theorem dX8_scan_37 : decode cX8_scan 37 = .ok (.iaload, 1) := by decide +kernel
theorem dX8_scan_38 : decode cX8_scan 38 = .ok (.istore 5, 2) := by decide +kernel
theorem dX8_scan_40 : decode cX8_scan 40 = .ok (.iinc 2 1, 3) := by decide +kernel
theorem dX8_scan_43 : decode cX8_scan 43 = .ok (.iload 5, 2) := by decide +kernel
theorem dX8_scan_45 : decode cX8_scan 45 = .ok (.invokestatic 37, 3) := by decide +kernel
theorem dX8_scan_48 : decode cX8_scan 48 = .ok (.ifCond .eq 61, 3) := by decide +kernel
theorem dX8_scan_51 : decode cX8_scan 51 = .ok (.iload_n 2, 1) := by decide +kernel
theorem dX8_scan_52 : decode cX8_scan 52 = .ok (.aload_n 0, 1) := by decide +kernel
theorem dX8_scan_53 : decode cX8_scan 53 = .ok (.getfield 28, 3) := by decide +kernel
theorem dX8_scan_56 : decode cX8_scan 56 = .ok (.if_icmp .ge 21, 3) := by decide +kernel
theorem dX8_scan_59 : decode cX8_scan 59 = .ok (.aload_n 0, 1) := by decide +kernel
theorem dX8_scan_60 : decode cX8_scan 60 = .ok (.getfield 9, 3) := by decide +kernel
theorem dX8_scan_63 : decode cX8_scan 63 = .ok (.iload_n 2, 1) := by decide +kernel
theorem dX8_scan_64 : decode cX8_scan 64 = .ok (.iaload, 1) := by decide +kernel
theorem dX8_scan_65 : decode cX8_scan 65 = .ok (.invokestatic 37, 3) := by decide +kernel
theorem dX8_scan_68 : decode cX8_scan 68 = .ok (.ifCond .eq 9, 3) := by decide +kernel
theorem dX8_scan_71 : decode cX8_scan 71 = .ok (.iinc 2 1, 3) := by decide +kernel
theorem dX8_scan_74 : decode cX8_scan 74 = .ok (.goto (-23), 3) := by decide +kernel
theorem dX8_scan_77 : decode cX8_scan 77 = .ok (.aload_n 0, 1) := by decide +kernel
theorem dX8_scan_78 : decode cX8_scan 78 = .ok (.aload_n 1, 1) := by decide +kernel
theorem dX8_scan_79 : decode cX8_scan 79 = .ok (.iload 4, 2) := by decide +kernel
theorem dX8_scan_81 : decode cX8_scan 81 = .ok (.iload_n 2, 1) := by decide +kernel
theorem dX8_scan_82 : decode cX8_scan 82 = .ok (.invokevirtual 41, 3) := by decide +kernel
theorem dX8_scan_85 : decode cX8_scan 85 = .ok (.istore 6, 2) := by decide +kernel
theorem dX8_scan_87 : decode cX8_scan 87 = .ok (.aload_n 0, 1) := by decide +kernel
theorem dX8_scan_88 : decode cX8_scan 88 = .ok (.iload 6, 2) := by decide +kernel
theorem dX8_scan_90 : decode cX8_scan 90 = .ok (.iconst (-1), 1) := by decide +kernel
theorem dX8_scan_91 : decode cX8_scan 91 = .ok (.if_icmp .ne 7, 3) := by decide +kernel
theorem dX8_scan_94 : decode cX8_scan 94 = .ok (.iconst 4, 1) := by decide +kernel
theorem dX8_scan_95 : decode cX8_scan 95 = .ok (.goto 4, 3) := by decide +kernel
theorem dX8_scan_98 : decode cX8_scan 98 = .ok (.iconst 2, 1) := by decide +kernel
theorem dX8_scan_99 : decode cX8_scan 99 = .ok (.iload 6, 2) := by decide +kernel
theorem dX8_scan_101 : decode cX8_scan 101 = .ok (.iload 4, 2) := by decide +kernel
theorem dX8_scan_103 : decode cX8_scan 103 = .ok (.invokevirtual 45, 3) := by decide +kernel
theorem dX8_scan_106 : decode cX8_scan 106 = .ok (.goto 105, 3) := by decide +kernel
theorem dX8_scan_109 : decode cX8_scan 109 = .ok (.iload 5, 2) := by decide +kernel
theorem dX8_scan_111 : decode cX8_scan 111 = .ok (.invokestatic 49, 3) := by decide +kernel
theorem dX8_scan_114 : decode cX8_scan 114 = .ok (.ifCond .eq 65, 3) := by decide +kernel
theorem dX8_scan_117 : decode cX8_scan 117 = .ok (.iload_n 2, 1) := by decide +kernel
theorem dX8_scan_118 : decode cX8_scan 118 = .ok (.aload_n 0, 1) := by decide +kernel
theorem dX8_scan_119 : decode cX8_scan 119 = .ok (.getfield 28, 3) := by decide +kernel
theorem dX8_scan_122 : decode cX8_scan 122 = .ok (.if_icmp .ge 21, 3) := by decide +kernel
theorem dX8_scan_125 : decode cX8_scan 125 = .ok (.aload_n 0, 1) := by decide +kernel
theorem dX8_scan_126 : decode cX8_scan 126 = .ok (.getfield 9, 3) := by decide +kernel
theorem dX8_scan_129 : decode cX8_scan 129 = .ok (.iload_n 2, 1) := by decide +kernel
theorem dX8_scan_130 : decode cX8_scan 130 = .ok (.iaload, 1) := by decide +kernel
theorem dX8_scan_131 : decode cX8_scan 131 = .ok (.invokestatic 49, 3) := by decide +kernel
theorem dX8_scan_134 : decode cX8_scan 134 = .ok (.ifCond .eq 9, 3) := by decide +kernel
theorem dX8_scan_137 : decode cX8_scan 137 = .ok (.iinc 2 1, 3) := by decide +kernel
theorem dX8_scan_140 : decode cX8_scan 140 = .ok (.goto (-23), 3) := by decide +kernel
theorem dX8_scan_143 : decode cX8_scan 143 = .ok (.aload_n 0, 1) := by decide +kernel
theorem dX8_scan_144 : decode cX8_scan 144 = .ok (.iload_n 2, 1) := by decide +kernel
theorem dX8_scan_145 : decode cX8_scan 145 = .ok (.iload 4, 2) := by decide +kernel
theorem dX8_scan_147 : decode cX8_scan 147 = .ok (.isub, 1) := by decide +kernel
theorem dX8_scan_148 : decode cX8_scan 148 = .ok (.iconst 4, 1) := by decide +kernel
theorem dX8_scan_149 : decode cX8_scan 149 = .ok (.if_icmp .le 7, 3) := by decide +kernel
theorem dX8_scan_152 : decode cX8_scan 152 = .ok (.iconst 4, 1) := by decide +kernel
theorem dX8_scan_153 : decode cX8_scan 153 = .ok (.goto 4, 3) := by decide +kernel
theorem dX8_scan_156 : decode cX8_scan 156 = .ok (.iconst 3, 1) := by decide +kernel
theorem dX8_scan_157 : decode cX8_scan 157 = .ok (.aload_n 0, 1) := by decide +kernel
theorem dX8_scan_158 : decode cX8_scan 158 = .ok (.iload 4, 2) := by decide +kernel
theorem dX8_scan_160 : decode cX8_scan 160 = .ok (.iload_n 2, 1) := by decide +kernel
theorem dX8_scan_161 : decode cX8_scan 161 = .ok (.iload 4, 2) := by decide +kernel
theorem dX8_scan_163 : decode cX8_scan 163 = .ok (.iconst 4, 1) := by decide +kernel
theorem dX8_scan_164 : decode cX8_scan 164 = .ok (.iadd, 1) := by decide +kernel
theorem dX8_scan_165 : decode cX8_scan 165 = .ok (.invokestatic 52, 3) := by decide +kernel
theorem dX8_scan_168 : decode cX8_scan 168 = .ok (.invokevirtual 58, 3) := by decide +kernel
theorem dX8_scan_171 : decode cX8_scan 171 = .ok (.iload 4, 2) := by decide +kernel
theorem dX8_scan_173 : decode cX8_scan 173 = .ok (.invokevirtual 45, 3) := by decide +kernel
theorem dX8_scan_176 : decode cX8_scan 176 = .ok (.goto 35, 3) := by decide +kernel
theorem dX8_scan_179 : decode cX8_scan 179 = .ok (.iload 5, 2) := by decide +kernel
theorem dX8_scan_181 : decode cX8_scan 181 = .ok (.invokestatic 61, 3) := by decide +kernel
theorem dX8_scan_184 : decode cX8_scan 184 = .ok (.ifCond .ne 27, 3) := by decide +kernel
theorem dX8_scan_187 : decode cX8_scan 187 = .ok (.aload_n 0, 1) := by decide +kernel
theorem dX8_scan_188 : decode cX8_scan 188 = .ok (.ldc 64, 2) := by decide +kernel
theorem dX8_scan_190 : decode cX8_scan 190 = .ok (.iload 5, 2) := by decide +kernel
theorem dX8_scan_192 : decode cX8_scan 192 = .ok (.i2c, 1) := by decide +kernel
theorem dX8_scan_193 : decode cX8_scan 193 = .ok (.invokevirtual 66, 3) := by decide +kernel
theorem dX8_scan_196 : decode cX8_scan 196 = .ok (.ifCond .lt 7, 3) := by decide +kernel
theorem dX8_scan_199 : decode cX8_scan 199 = .ok (.iconst 1, 1) := by decide +kernel
theorem dX8_scan_200 : decode cX8_scan 200 = .ok (.goto 4, 3) := by decide +kernel
theorem dX8_scan_203 : decode cX8_scan 203 = .ok (.iconst 4, 1) := by decide +kernel
theorem dX8_scan_204 : decode cX8_scan 204 = .ok (.iload 5, 2) := by decide +kernel
theorem dX8_scan_206 : decode cX8_scan 206 = .ok (.iload 4, 2) := by decide +kernel
theorem dX8_scan_208 : decode cX8_scan 208 = .ok (.invokevirtual 45, 3) := by decide +kernel
theorem dX8_scan_211 : decode cX8_scan 211 = .ok (.iinc 3 1, 3) := by decide +kernel
theorem dX8_scan_214 : decode cX8_scan 214 = .ok (.goto (-200), 3) := by decide +kernel
theorem dX8_scan_217 : decode cX8_scan 217 = .ok (.aload_n 0, 1) := by decide +kernel
theorem dX8_scan_218 : decode cX8_scan 218 = .ok (.iconst 0, 1) := by decide +kernel
theorem dX8_scan_219 : decode cX8_scan 219 = .ok (.iconst 0, 1) := by decide +kernel
theorem dX8_scan_220 : decode cX8_scan 220 = .ok (.aload_n 0, 1) := by decide +kernel
theorem dX8_scan_221 : decode cX8_scan 221 = .ok (.getfield 28, 3) := by decide +kernel
theorem dX8_scan_224 : decode cX8_scan 224 = .ok (.invokevirtual 45, 3) := by decide +kernel
theorem dX8_scan_227 : decode cX8_scan 227 = .ok (.return_, 1) := by decide +kernel
theorem dX8_add_0 : decode cX8_add 0 = .ok (.aload_n 0, 1) := by decide +kernel
theorem dX8_add_1 : decode cX8_add 1 = .ok (.getfield 31, 3) := by decide +kernel
theorem dX8_add_4 : decode cX8_add 4 = .ok (.sipush 400, 3) := by decide +kernel
theorem dX8_add_7 : decode cX8_add 7 = .ok (.if_icmp .gt 43, 3) := by decide +kernel
theorem dX8_add_10 : decode cX8_add 10 = .ok (.aload_n 0, 1) := by decide +kernel
theorem dX8_add_11 : decode cX8_add 11 = .ok (.getfield 19, 3) := by decide +kernel
theorem dX8_add_14 : decode cX8_add 14 = .ok (.aload_n 0, 1) := by decide +kernel
theorem dX8_add_15 : decode cX8_add 15 = .ok (.getfield 31, 3) := by decide +kernel
theorem dX8_add_18 : decode cX8_add 18 = .ok (.iload_n 1, 1) := by decide +kernel
theorem dX8_add_19 : decode cX8_add 19 = .ok (.iastore, 1) := by decide +kernel
theorem dX8_add_20 : decode cX8_add 20 = .ok (.aload_n 0, 1) := by decide +kernel
theorem dX8_add_21 : decode cX8_add 21 = .ok (.getfield 22, 3) := by decide +kernel
theorem dX8_add_24 : decode cX8_add 24 = .ok (.aload_n 0, 1) := by decide +kernel
theorem dX8_add_25 : decode cX8_add 25 = .ok (.getfield 31, 3) := by decide +kernel
theorem dX8_add_28 : decode cX8_add 28 = .ok (.iload_n 2, 1) := by decide +kernel
theorem dX8_add_29 : decode cX8_add 29 = .ok (.iastore, 1) := by decide +kernel
theorem dX8_add_30 : decode cX8_add 30 = .ok (.aload_n 0, 1) := by decide +kernel
theorem dX8_add_31 : decode cX8_add 31 = .ok (.getfield 25, 3) := by decide +kernel
theorem dX8_add_34 : decode cX8_add 34 = .ok (.aload_n 0, 1) := by decide +kernel
theorem dX8_add_35 : decode cX8_add 35 = .ok (.getfield 31, 3) := by decide +kernel
theorem dX8_add_38 : decode cX8_add 38 = .ok (.iload_n 3, 1) := by decide +kernel
theorem dX8_add_39 : decode cX8_add 39 = .ok (.iastore, 1) := by decide +kernel
theorem dX8_add_40 : decode cX8_add 40 = .ok (.aload_n 0, 1) := by decide +kernel
theorem dX8_add_41 : decode cX8_add 41 = .ok (.dup, 1) := by decide +kernel
theorem dX8_add_42 : decode cX8_add 42 = .ok (.getfield 31, 3) := by decide +kernel
theorem dX8_add_45 : decode cX8_add 45 = .ok (.iconst 1, 1) := by decide +kernel
theorem dX8_add_46 : decode cX8_add 46 = .ok (.iadd, 1) := by decide +kernel
theorem dX8_add_47 : decode cX8_add 47 = .ok (.putfield 31, 3) := by decide +kernel
theorem dX8_add_50 : decode cX8_add 50 = .ok (.return_, 1) := by decide +kernel
theorem dX8_numberFor_0 : decode cX8_numberFor 0 = .ok (.iconst 0, 1) := by decide +kernel
theorem dX8_numberFor_1 : decode cX8_numberFor 1 = .ok (.istore_n 3, 1) := by decide +kernel
theorem dX8_numberFor_2 : decode cX8_numberFor 2 = .ok (.iload_n 1, 1) := by decide +kernel
theorem dX8_numberFor_3 : decode cX8_numberFor 3 = .ok (.istore 4, 2) := by decide +kernel
theorem dX8_numberFor_5 : decode cX8_numberFor 5 = .ok (.iload 4, 2) := by decide +kernel
theorem dX8_numberFor_7 : decode cX8_numberFor 7 = .ok (.iload_n 2, 1) := by decide +kernel
theorem dX8_numberFor_8 : decode cX8_numberFor 8 = .ok (.if_icmp .ge 25, 3) := by decide +kernel
theorem dX8_numberFor_11 : decode cX8_numberFor 11 = .ok (.iload_n 3, 1) := by decide +kernel
theorem dX8_numberFor_12 : decode cX8_numberFor 12 = .ok (.bipush 10, 2) := by decide +kernel
theorem dX8_numberFor_14 : decode cX8_numberFor 14 = .ok (.imul, 1) := by decide +kernel
theorem dX8_numberFor_15 : decode cX8_numberFor 15 = .ok (.aload_n 0, 1) := by decide +kernel
theorem dX8_numberFor_16 : decode cX8_numberFor 16 = .ok (.getfield 9, 3) := by decide +kernel
theorem dX8_numberFor_19 : decode cX8_numberFor 19 = .ok (.iload 4, 2) := by decide +kernel
theorem dX8_numberFor_21 : decode cX8_numberFor 21 = .ok (.iaload, 1) := by decide +kernel
theorem dX8_numberFor_22 : decode cX8_numberFor 22 = .ok (.iadd, 1) := by decide +kernel
theorem dX8_numberFor_23 : decode cX8_numberFor 23 = .ok (.bipush 48, 2) := by decide +kernel
theorem dX8_numberFor_25 : decode cX8_numberFor 25 = .ok (.isub, 1) := by decide +kernel
theorem dX8_numberFor_26 : decode cX8_numberFor 26 = .ok (.istore_n 3, 1) := by decide +kernel
theorem dX8_numberFor_27 : decode cX8_numberFor 27 = .ok (.iinc 4 1, 3) := by decide +kernel
theorem dX8_numberFor_30 : decode cX8_numberFor 30 = .ok (.goto (-25), 3) := by decide +kernel
theorem dX8_numberFor_33 : decode cX8_numberFor 33 = .ok (.iload_n 3, 1) := by decide +kernel
theorem dX8_numberFor_34 : decode cX8_numberFor 34 = .ok (.ireturn, 1) := by decide +kernel
theorem dX8_wordFor_0 : decode cX8_wordFor 0 = .ok (.iconst 0, 1) := by decide +kernel
theorem dX8_wordFor_1 : decode cX8_wordFor 1 = .ok (.istore 4, 2) := by decide +kernel
theorem dX8_wordFor_3 : decode cX8_wordFor 3 = .ok (.iconst 0, 1) := by decide +kernel
theorem dX8_wordFor_4 : decode cX8_wordFor 4 = .ok (.istore 5, 2) := by decide +kernel
theorem dX8_wordFor_6 : decode cX8_wordFor 6 = .ok (.iconst 0, 1) := by decide +kernel
theorem dX8_wordFor_7 : decode cX8_wordFor 7 = .ok (.istore 6, 2) := by decide +kernel
theorem dX8_wordFor_9 : decode cX8_wordFor 9 = .ok (.iload 6, 2) := by decide +kernel
theorem dX8_wordFor_11 : decode cX8_wordFor 11 = .ok (.aload_n 1, 1) := by decide +kernel
theorem dX8_wordFor_12 : decode cX8_wordFor 12 = .ok (.invokevirtual 72, 3) := by decide +kernel
theorem dX8_wordFor_15 : decode cX8_wordFor 15 = .ok (.if_icmp .gt 66, 3) := by decide +kernel
theorem dX8_wordFor_18 : decode cX8_wordFor 18 = .ok (.iload 6, 2) := by decide +kernel
theorem dX8_wordFor_20 : decode cX8_wordFor 20 = .ok (.aload_n 1, 1) := by decide +kernel
theorem dX8_wordFor_21 : decode cX8_wordFor 21 = .ok (.invokevirtual 72, 3) := by decide +kernel
theorem dX8_wordFor_24 : decode cX8_wordFor 24 = .ok (.if_icmp .eq 14, 3) := by decide +kernel
theorem dX8_wordFor_27 : decode cX8_wordFor 27 = .ok (.aload_n 1, 1) := by decide +kernel
theorem dX8_wordFor_28 : decode cX8_wordFor 28 = .ok (.iload 6, 2) := by decide +kernel
theorem dX8_wordFor_30 : decode cX8_wordFor 30 = .ok (.invokevirtual 75, 3) := by decide +kernel
theorem dX8_wordFor_33 : decode cX8_wordFor 33 = .ok (.bipush 32, 2) := by decide +kernel
theorem dX8_wordFor_35 : decode cX8_wordFor 35 = .ok (.if_icmp .ne 40, 3) := by decide +kernel
theorem dX8_wordFor_38 : decode cX8_wordFor 38 = .ok (.iload 6, 2) := by decide +kernel
theorem dX8_wordFor_40 : decode cX8_wordFor 40 = .ok (.iload 5, 2) := by decide +kernel
theorem dX8_wordFor_42 : decode cX8_wordFor 42 = .ok (.isub, 1) := by decide +kernel
theorem dX8_wordFor_43 : decode cX8_wordFor 43 = .ok (.iload_n 3, 1) := by decide +kernel
theorem dX8_wordFor_44 : decode cX8_wordFor 44 = .ok (.iload_n 2, 1) := by decide +kernel
theorem dX8_wordFor_45 : decode cX8_wordFor 45 = .ok (.isub, 1) := by decide +kernel
theorem dX8_wordFor_46 : decode cX8_wordFor 46 = .ok (.if_icmp .ne 20, 3) := by decide +kernel
theorem dX8_wordFor_49 : decode cX8_wordFor 49 = .ok (.aload_n 0, 1) := by decide +kernel
theorem dX8_wordFor_50 : decode cX8_wordFor 50 = .ok (.aload_n 1, 1) := by decide +kernel
theorem dX8_wordFor_51 : decode cX8_wordFor 51 = .ok (.iload 5, 2) := by decide +kernel
theorem dX8_wordFor_53 : decode cX8_wordFor 53 = .ok (.iload_n 2, 1) := by decide +kernel
theorem dX8_wordFor_54 : decode cX8_wordFor 54 = .ok (.iload_n 3, 1) := by decide +kernel
theorem dX8_wordFor_55 : decode cX8_wordFor 55 = .ok (.iload_n 2, 1) := by decide +kernel
theorem dX8_wordFor_56 : decode cX8_wordFor 56 = .ok (.isub, 1) := by decide +kernel
theorem dX8_wordFor_57 : decode cX8_wordFor 57 = .ok (.invokevirtual 79, 3) := by decide +kernel
theorem dX8_wordFor_60 : decode cX8_wordFor 60 = .ok (.ifCond .eq 6, 3) := by decide +kernel
theorem dX8_wordFor_63 : decode cX8_wordFor 63 = .ok (.iload 4, 2) := by decide +kernel
theorem dX8_wordFor_65 : decode cX8_wordFor 65 = .ok (.ireturn, 1) := by decide +kernel
theorem dX8_wordFor_66 : decode cX8_wordFor 66 = .ok (.iinc 4 1, 3) := by decide +kernel
theorem dX8_wordFor_69 : decode cX8_wordFor 69 = .ok (.iload 6, 2) := by decide +kernel
theorem dX8_wordFor_71 : decode cX8_wordFor 71 = .ok (.iconst 1, 1) := by decide +kernel
theorem dX8_wordFor_72 : decode cX8_wordFor 72 = .ok (.iadd, 1) := by decide +kernel
theorem dX8_wordFor_73 : decode cX8_wordFor 73 = .ok (.istore 5, 2) := by decide +kernel
theorem dX8_wordFor_75 : decode cX8_wordFor 75 = .ok (.iinc 6 1, 3) := by decide +kernel
theorem dX8_wordFor_78 : decode cX8_wordFor 78 = .ok (.goto (-69), 3) := by decide +kernel
theorem dX8_wordFor_81 : decode cX8_wordFor 81 = .ok (.iconst (-1), 1) := by decide +kernel
theorem dX8_wordFor_82 : decode cX8_wordFor 82 = .ok (.ireturn, 1) := by decide +kernel
theorem dX8_standsAt_0 : decode cX8_standsAt 0 = .ok (.iconst 0, 1) := by decide +kernel
theorem dX8_standsAt_1 : decode cX8_standsAt 1 = .ok (.istore 5, 2) := by decide +kernel
theorem dX8_standsAt_3 : decode cX8_standsAt 3 = .ok (.iload 5, 2) := by decide +kernel
theorem dX8_standsAt_5 : decode cX8_standsAt 5 = .ok (.iload 4, 2) := by decide +kernel
theorem dX8_standsAt_7 : decode cX8_standsAt 7 = .ok (.if_icmp .ge 31, 3) := by decide +kernel
theorem dX8_standsAt_10 : decode cX8_standsAt 10 = .ok (.aload_n 1, 1) := by decide +kernel
theorem dX8_standsAt_11 : decode cX8_standsAt 11 = .ok (.iload_n 2, 1) := by decide +kernel
theorem dX8_standsAt_12 : decode cX8_standsAt 12 = .ok (.iload 5, 2) := by decide +kernel
theorem dX8_standsAt_14 : decode cX8_standsAt 14 = .ok (.iadd, 1) := by decide +kernel
theorem dX8_standsAt_15 : decode cX8_standsAt 15 = .ok (.invokevirtual 75, 3) := by decide +kernel
theorem dX8_standsAt_18 : decode cX8_standsAt 18 = .ok (.aload_n 0, 1) := by decide +kernel
theorem dX8_standsAt_19 : decode cX8_standsAt 19 = .ok (.getfield 9, 3) := by decide +kernel
theorem dX8_standsAt_22 : decode cX8_standsAt 22 = .ok (.iload_n 3, 1) := by decide +kernel
theorem dX8_standsAt_23 : decode cX8_standsAt 23 = .ok (.iload 5, 2) := by decide +kernel
theorem dX8_standsAt_25 : decode cX8_standsAt 25 = .ok (.iadd, 1) := by decide +kernel
theorem dX8_standsAt_26 : decode cX8_standsAt 26 = .ok (.iaload, 1) := by decide +kernel
theorem dX8_standsAt_27 : decode cX8_standsAt 27 = .ok (.if_icmp .eq 5, 3) := by decide +kernel
theorem dX8_standsAt_30 : decode cX8_standsAt 30 = .ok (.iconst 0, 1) := by decide +kernel
theorem dX8_standsAt_31 : decode cX8_standsAt 31 = .ok (.ireturn, 1) := by decide +kernel
theorem dX8_standsAt_32 : decode cX8_standsAt 32 = .ok (.iinc 5 1, 3) := by decide +kernel
theorem dX8_standsAt_35 : decode cX8_standsAt 35 = .ok (.goto (-32), 3) := by decide +kernel
theorem dX8_standsAt_38 : decode cX8_standsAt 38 = .ok (.iconst 1, 1) := by decide +kernel
theorem dX8_standsAt_39 : decode cX8_standsAt 39 = .ok (.ireturn, 1) := by decide +kernel
theorem dX8_isEnd_0 : decode cX8_isEnd 0 = .ok (.aload_n 0, 1) := by decide +kernel
theorem dX8_isEnd_1 : decode cX8_isEnd 1 = .ok (.getfield 19, 3) := by decide +kernel
theorem dX8_isEnd_4 : decode cX8_isEnd 4 = .ok (.aload_n 0, 1) := by decide +kernel
theorem dX8_isEnd_5 : decode cX8_isEnd 5 = .ok (.getfield 34, 3) := by decide +kernel
theorem dX8_isEnd_8 : decode cX8_isEnd 8 = .ok (.iaload, 1) := by decide +kernel
theorem dX8_isEnd_9 : decode cX8_isEnd 9 = .ok (.ifCond .ne 7, 3) := by decide +kernel
theorem dX8_isEnd_12 : decode cX8_isEnd 12 = .ok (.iconst 1, 1) := by decide +kernel
theorem dX8_isEnd_13 : decode cX8_isEnd 13 = .ok (.goto 4, 3) := by decide +kernel
theorem dX8_isEnd_16 : decode cX8_isEnd 16 = .ok (.iconst 0, 1) := by decide +kernel
theorem dX8_isEnd_17 : decode cX8_isEnd 17 = .ok (.ireturn, 1) := by decide +kernel
theorem dX8_isNumber_0 : decode cX8_isNumber 0 = .ok (.aload_n 0, 1) := by decide +kernel
theorem dX8_isNumber_1 : decode cX8_isNumber 1 = .ok (.getfield 19, 3) := by decide +kernel
theorem dX8_isNumber_4 : decode cX8_isNumber 4 = .ok (.aload_n 0, 1) := by decide +kernel
theorem dX8_isNumber_5 : decode cX8_isNumber 5 = .ok (.getfield 34, 3) := by decide +kernel
theorem dX8_isNumber_8 : decode cX8_isNumber 8 = .ok (.iaload, 1) := by decide +kernel
theorem dX8_isNumber_9 : decode cX8_isNumber 9 = .ok (.iconst 3, 1) := by decide +kernel
theorem dX8_isNumber_10 : decode cX8_isNumber 10 = .ok (.if_icmp .ne 7, 3) := by decide +kernel
theorem dX8_isNumber_13 : decode cX8_isNumber 13 = .ok (.iconst 1, 1) := by decide +kernel
theorem dX8_isNumber_14 : decode cX8_isNumber 14 = .ok (.goto 4, 3) := by decide +kernel
theorem dX8_isNumber_17 : decode cX8_isNumber 17 = .ok (.iconst 0, 1) := by decide +kernel
theorem dX8_isNumber_18 : decode cX8_isNumber 18 = .ok (.ireturn, 1) := by decide +kernel
theorem dX8_isWord_0 : decode cX8_isWord 0 = .ok (.aload_n 0, 1) := by decide +kernel
theorem dX8_isWord_1 : decode cX8_isWord 1 = .ok (.getfield 19, 3) := by decide +kernel
theorem dX8_isWord_4 : decode cX8_isWord 4 = .ok (.aload_n 0, 1) := by decide +kernel
theorem dX8_isWord_5 : decode cX8_isWord 5 = .ok (.getfield 34, 3) := by decide +kernel
theorem dX8_isWord_8 : decode cX8_isWord 8 = .ok (.iaload, 1) := by decide +kernel
theorem dX8_isWord_9 : decode cX8_isWord 9 = .ok (.iconst 2, 1) := by decide +kernel
theorem dX8_isWord_10 : decode cX8_isWord 10 = .ok (.if_icmp .ne 20, 3) := by decide +kernel
theorem dX8_isWord_13 : decode cX8_isWord 13 = .ok (.aload_n 0, 1) := by decide +kernel
theorem dX8_isWord_14 : decode cX8_isWord 14 = .ok (.getfield 22, 3) := by decide +kernel
theorem dX8_isWord_17 : decode cX8_isWord 17 = .ok (.aload_n 0, 1) := by decide +kernel
theorem dX8_isWord_18 : decode cX8_isWord 18 = .ok (.getfield 34, 3) := by decide +kernel
theorem dX8_isWord_21 : decode cX8_isWord 21 = .ok (.iaload, 1) := by decide +kernel
theorem dX8_isWord_22 : decode cX8_isWord 22 = .ok (.iload_n 1, 1) := by decide +kernel
theorem dX8_isWord_23 : decode cX8_isWord 23 = .ok (.if_icmp .ne 7, 3) := by decide +kernel
theorem dX8_isWord_26 : decode cX8_isWord 26 = .ok (.iconst 1, 1) := by decide +kernel
theorem dX8_isWord_27 : decode cX8_isWord 27 = .ok (.goto 4, 3) := by decide +kernel
theorem dX8_isWord_30 : decode cX8_isWord 30 = .ok (.iconst 0, 1) := by decide +kernel
theorem dX8_isWord_31 : decode cX8_isWord 31 = .ok (.ireturn, 1) := by decide +kernel
theorem dX8_isAsked_0 : decode cX8_isAsked 0 = .ok (.aload_n 0, 1) := by decide +kernel
theorem dX8_isAsked_1 : decode cX8_isAsked 1 = .ok (.getfield 19, 3) := by decide +kernel
theorem dX8_isAsked_4 : decode cX8_isAsked 4 = .ok (.aload_n 0, 1) := by decide +kernel
theorem dX8_isAsked_5 : decode cX8_isAsked 5 = .ok (.getfield 34, 3) := by decide +kernel
theorem dX8_isAsked_8 : decode cX8_isAsked 8 = .ok (.iaload, 1) := by decide +kernel
theorem dX8_isAsked_9 : decode cX8_isAsked 9 = .ok (.iconst 2, 1) := by decide +kernel
theorem dX8_isAsked_10 : decode cX8_isAsked 10 = .ok (.if_icmp .ne 20, 3) := by decide +kernel
theorem dX8_isAsked_13 : decode cX8_isAsked 13 = .ok (.aload_n 0, 1) := by decide +kernel
theorem dX8_isAsked_14 : decode cX8_isAsked 14 = .ok (.getfield 22, 3) := by decide +kernel
theorem dX8_isAsked_17 : decode cX8_isAsked 17 = .ok (.aload_n 0, 1) := by decide +kernel
theorem dX8_isAsked_18 : decode cX8_isAsked 18 = .ok (.getfield 34, 3) := by decide +kernel
theorem dX8_isAsked_21 : decode cX8_isAsked 21 = .ok (.iaload, 1) := by decide +kernel
theorem dX8_isAsked_22 : decode cX8_isAsked 22 = .ok (.iload_n 1, 1) := by decide +kernel
theorem dX8_isAsked_23 : decode cX8_isAsked 23 = .ok (.if_icmp .lt 7, 3) := by decide +kernel
theorem dX8_isAsked_26 : decode cX8_isAsked 26 = .ok (.iconst 1, 1) := by decide +kernel
theorem dX8_isAsked_27 : decode cX8_isAsked 27 = .ok (.goto 4, 3) := by decide +kernel
theorem dX8_isAsked_30 : decode cX8_isAsked 30 = .ok (.iconst 0, 1) := by decide +kernel
theorem dX8_isAsked_31 : decode cX8_isAsked 31 = .ok (.ireturn, 1) := by decide +kernel
theorem dX8_isSign_0 : decode cX8_isSign 0 = .ok (.aload_n 0, 1) := by decide +kernel
theorem dX8_isSign_1 : decode cX8_isSign 1 = .ok (.getfield 19, 3) := by decide +kernel
theorem dX8_isSign_4 : decode cX8_isSign 4 = .ok (.aload_n 0, 1) := by decide +kernel
theorem dX8_isSign_5 : decode cX8_isSign 5 = .ok (.getfield 34, 3) := by decide +kernel
theorem dX8_isSign_8 : decode cX8_isSign 8 = .ok (.iaload, 1) := by decide +kernel
theorem dX8_isSign_9 : decode cX8_isSign 9 = .ok (.iconst 1, 1) := by decide +kernel
theorem dX8_isSign_10 : decode cX8_isSign 10 = .ok (.if_icmp .ne 20, 3) := by decide +kernel
theorem dX8_isSign_13 : decode cX8_isSign 13 = .ok (.aload_n 0, 1) := by decide +kernel
theorem dX8_isSign_14 : decode cX8_isSign 14 = .ok (.getfield 22, 3) := by decide +kernel
theorem dX8_isSign_17 : decode cX8_isSign 17 = .ok (.aload_n 0, 1) := by decide +kernel
theorem dX8_isSign_18 : decode cX8_isSign 18 = .ok (.getfield 34, 3) := by decide +kernel
theorem dX8_isSign_21 : decode cX8_isSign 21 = .ok (.iaload, 1) := by decide +kernel
theorem dX8_isSign_22 : decode cX8_isSign 22 = .ok (.iload_n 1, 1) := by decide +kernel
theorem dX8_isSign_23 : decode cX8_isSign 23 = .ok (.if_icmp .ne 7, 3) := by decide +kernel
theorem dX8_isSign_26 : decode cX8_isSign 26 = .ok (.iconst 1, 1) := by decide +kernel
theorem dX8_isSign_27 : decode cX8_isSign 27 = .ok (.goto 4, 3) := by decide +kernel
theorem dX8_isSign_30 : decode cX8_isSign 30 = .ok (.iconst 0, 1) := by decide +kernel
theorem dX8_isSign_31 : decode cX8_isSign 31 = .ok (.ireturn, 1) := by decide +kernel
theorem dX8_value_0 : decode cX8_value 0 = .ok (.aload_n 0, 1) := by decide +kernel
theorem dX8_value_1 : decode cX8_value 1 = .ok (.getfield 22, 3) := by decide +kernel
theorem dX8_value_4 : decode cX8_value 4 = .ok (.aload_n 0, 1) := by decide +kernel
theorem dX8_value_5 : decode cX8_value 5 = .ok (.getfield 34, 3) := by decide +kernel
theorem dX8_value_8 : decode cX8_value 8 = .ok (.iaload, 1) := by decide +kernel
theorem dX8_value_9 : decode cX8_value 9 = .ok (.ireturn, 1) := by decide +kernel
theorem dX8_step_0 : decode cX8_step 0 = .ok (.aload_n 0, 1) := by decide +kernel
theorem dX8_step_1 : decode cX8_step 1 = .ok (.getfield 34, 3) := by decide +kernel
theorem dX8_step_4 : decode cX8_step 4 = .ok (.sipush 400, 3) := by decide +kernel
theorem dX8_step_7 : decode cX8_step 7 = .ok (.if_icmp .ge 25, 3) := by decide +kernel
theorem dX8_step_10 : decode cX8_step 10 = .ok (.aload_n 0, 1) := by decide +kernel
theorem dX8_step_11 : decode cX8_step 11 = .ok (.getfield 19, 3) := by decide +kernel
theorem dX8_step_14 : decode cX8_step 14 = .ok (.aload_n 0, 1) := by decide +kernel
theorem dX8_step_15 : decode cX8_step 15 = .ok (.getfield 34, 3) := by decide +kernel
theorem dX8_step_18 : decode cX8_step 18 = .ok (.iaload, 1) := by decide +kernel
theorem dX8_step_19 : decode cX8_step 19 = .ok (.ifCond .eq 13, 3) := by decide +kernel
theorem dX8_step_22 : decode cX8_step 22 = .ok (.aload_n 0, 1) := by decide +kernel
theorem dX8_step_23 : decode cX8_step 23 = .ok (.dup, 1) := by decide +kernel
theorem dX8_step_24 : decode cX8_step 24 = .ok (.getfield 34, 3) := by decide +kernel
theorem dX8_step_27 : decode cX8_step 27 = .ok (.iconst 1, 1) := by decide +kernel
theorem dX8_step_28 : decode cX8_step 28 = .ok (.iadd, 1) := by decide +kernel
theorem dX8_step_29 : decode cX8_step 29 = .ok (.putfield 34, 3) := by decide +kernel
theorem dX8_step_32 : decode cX8_step 32 = .ok (.return_, 1) := by decide +kernel
theorem dX8_pass_0 : decode cX8_pass 0 = .ok (.aload_n 0, 1) := by decide +kernel
theorem dX8_pass_1 : decode cX8_pass 1 = .ok (.getfield 19, 3) := by decide +kernel
theorem dX8_pass_4 : decode cX8_pass 4 = .ok (.aload_n 0, 1) := by decide +kernel
theorem dX8_pass_5 : decode cX8_pass 5 = .ok (.getfield 34, 3) := by decide +kernel
theorem dX8_pass_8 : decode cX8_pass 8 = .ok (.iaload, 1) := by decide +kernel
theorem dX8_pass_9 : decode cX8_pass 9 = .ok (.iload_n 1, 1) := by decide +kernel
theorem dX8_pass_10 : decode cX8_pass 10 = .ok (.if_icmp .ne 16, 3) := by decide +kernel
theorem dX8_pass_13 : decode cX8_pass 13 = .ok (.aload_n 0, 1) := by decide +kernel
theorem dX8_pass_14 : decode cX8_pass 14 = .ok (.getfield 22, 3) := by decide +kernel
theorem dX8_pass_17 : decode cX8_pass 17 = .ok (.aload_n 0, 1) := by decide +kernel
theorem dX8_pass_18 : decode cX8_pass 18 = .ok (.getfield 34, 3) := by decide +kernel
theorem dX8_pass_21 : decode cX8_pass 21 = .ok (.iaload, 1) := by decide +kernel
theorem dX8_pass_22 : decode cX8_pass 22 = .ok (.iload_n 2, 1) := by decide +kernel
theorem dX8_pass_23 : decode cX8_pass 23 = .ok (.if_icmp .eq 9, 3) := by decide +kernel
theorem dX8_pass_26 : decode cX8_pass 26 = .ok (.aload_n 0, 1) := by decide +kernel
theorem dX8_pass_27 : decode cX8_pass 27 = .ok (.iconst 1, 1) := by decide +kernel
theorem dX8_pass_28 : decode cX8_pass 28 = .ok (.invokevirtual 83, 3) := by decide +kernel
theorem dX8_pass_31 : decode cX8_pass 31 = .ok (.ireturn, 1) := by decide +kernel
theorem dX8_pass_32 : decode cX8_pass 32 = .ok (.aload_n 0, 1) := by decide +kernel
theorem dX8_pass_33 : decode cX8_pass 33 = .ok (.invokevirtual 86, 3) := by decide +kernel
theorem dX8_pass_36 : decode cX8_pass 36 = .ok (.iconst 1, 1) := by decide +kernel
theorem dX8_pass_37 : decode cX8_pass 37 = .ok (.ireturn, 1) := by decide +kernel
theorem dX8_passNumber_0 : decode cX8_passNumber 0 = .ok (.aload_n 0, 1) := by decide +kernel
theorem dX8_passNumber_1 : decode cX8_passNumber 1 = .ok (.getfield 19, 3) := by decide +kernel
theorem dX8_passNumber_4 : decode cX8_passNumber 4 = .ok (.aload_n 0, 1) := by decide +kernel
theorem dX8_passNumber_5 : decode cX8_passNumber 5 = .ok (.getfield 34, 3) := by decide +kernel
theorem dX8_passNumber_8 : decode cX8_passNumber 8 = .ok (.iaload, 1) := by decide +kernel
theorem dX8_passNumber_9 : decode cX8_passNumber 9 = .ok (.iconst 3, 1) := by decide +kernel
theorem dX8_passNumber_10 : decode cX8_passNumber 10 = .ok (.if_icmp .eq 9, 3) := by decide +kernel
theorem dX8_passNumber_13 : decode cX8_passNumber 13 = .ok (.aload_n 0, 1) := by decide +kernel
theorem dX8_passNumber_14 : decode cX8_passNumber 14 = .ok (.iconst 1, 1) := by decide +kernel
theorem dX8_passNumber_15 : decode cX8_passNumber 15 = .ok (.invokevirtual 83, 3) := by decide +kernel
theorem dX8_passNumber_18 : decode cX8_passNumber 18 = .ok (.ireturn, 1) := by decide +kernel
theorem dX8_passNumber_19 : decode cX8_passNumber 19 = .ok (.aload_n 0, 1) := by decide +kernel
theorem dX8_passNumber_20 : decode cX8_passNumber 20 = .ok (.getfield 22, 3) := by decide +kernel
theorem dX8_passNumber_23 : decode cX8_passNumber 23 = .ok (.aload_n 0, 1) := by decide +kernel
theorem dX8_passNumber_24 : decode cX8_passNumber 24 = .ok (.getfield 34, 3) := by decide +kernel
theorem dX8_passNumber_27 : decode cX8_passNumber 27 = .ok (.iaload, 1) := by decide +kernel
theorem dX8_passNumber_28 : decode cX8_passNumber 28 = .ok (.iload_n 1, 1) := by decide +kernel
theorem dX8_passNumber_29 : decode cX8_passNumber 29 = .ok (.if_icmp .lt 16, 3) := by decide +kernel
theorem dX8_passNumber_32 : decode cX8_passNumber 32 = .ok (.aload_n 0, 1) := by decide +kernel
theorem dX8_passNumber_33 : decode cX8_passNumber 33 = .ok (.getfield 22, 3) := by decide +kernel
theorem dX8_passNumber_36 : decode cX8_passNumber 36 = .ok (.aload_n 0, 1) := by decide +kernel
theorem dX8_passNumber_37 : decode cX8_passNumber 37 = .ok (.getfield 34, 3) := by decide +kernel
theorem dX8_passNumber_40 : decode cX8_passNumber 40 = .ok (.iaload, 1) := by decide +kernel
theorem dX8_passNumber_41 : decode cX8_passNumber 41 = .ok (.iload_n 2, 1) := by decide +kernel
theorem dX8_passNumber_42 : decode cX8_passNumber 42 = .ok (.if_icmp .le 9, 3) := by decide +kernel
theorem dX8_passNumber_45 : decode cX8_passNumber 45 = .ok (.aload_n 0, 1) := by decide +kernel
theorem dX8_passNumber_46 : decode cX8_passNumber 46 = .ok (.iconst 2, 1) := by decide +kernel
theorem dX8_passNumber_47 : decode cX8_passNumber 47 = .ok (.invokevirtual 83, 3) := by decide +kernel
theorem dX8_passNumber_50 : decode cX8_passNumber 50 = .ok (.ireturn, 1) := by decide +kernel
theorem dX8_passNumber_51 : decode cX8_passNumber 51 = .ok (.aload_n 0, 1) := by decide +kernel
theorem dX8_passNumber_52 : decode cX8_passNumber 52 = .ok (.invokevirtual 86, 3) := by decide +kernel
theorem dX8_passNumber_55 : decode cX8_passNumber 55 = .ok (.iconst 1, 1) := by decide +kernel
theorem dX8_passNumber_56 : decode cX8_passNumber 56 = .ok (.ireturn, 1) := by decide +kernel
theorem dX8_fail_0 : decode cX8_fail 0 = .ok (.aload_n 0, 1) := by decide +kernel
theorem dX8_fail_1 : decode cX8_fail 1 = .ok (.iload_n 1, 1) := by decide +kernel
theorem dX8_fail_2 : decode cX8_fail 2 = .ok (.putfield 89, 3) := by decide +kernel
theorem dX8_fail_5 : decode cX8_fail 5 = .ok (.aload_n 0, 1) := by decide +kernel
theorem dX8_fail_6 : decode cX8_fail 6 = .ok (.aload_n 0, 1) := by decide +kernel
theorem dX8_fail_7 : decode cX8_fail 7 = .ok (.getfield 25, 3) := by decide +kernel
theorem dX8_fail_10 : decode cX8_fail 10 = .ok (.aload_n 0, 1) := by decide +kernel
theorem dX8_fail_11 : decode cX8_fail 11 = .ok (.getfield 34, 3) := by decide +kernel
theorem dX8_fail_14 : decode cX8_fail 14 = .ok (.iaload, 1) := by decide +kernel
theorem dX8_fail_15 : decode cX8_fail 15 = .ok (.putfield 15, 3) := by decide +kernel
theorem dX8_fail_18 : decode cX8_fail 18 = .ok (.iconst 0, 1) := by decide +kernel
theorem dX8_fail_19 : decode cX8_fail 19 = .ok (.ireturn, 1) := by decide +kernel
theorem dX8_failAt_0 : decode cX8_failAt 0 = .ok (.aload_n 0, 1) := by decide +kernel
theorem dX8_failAt_1 : decode cX8_failAt 1 = .ok (.iload_n 1, 1) := by decide +kernel
theorem dX8_failAt_2 : decode cX8_failAt 2 = .ok (.putfield 89, 3) := by decide +kernel
theorem dX8_failAt_5 : decode cX8_failAt 5 = .ok (.aload_n 0, 1) := by decide +kernel
theorem dX8_failAt_6 : decode cX8_failAt 6 = .ok (.iload_n 2, 1) := by decide +kernel
theorem dX8_failAt_7 : decode cX8_failAt 7 = .ok (.putfield 15, 3) := by decide +kernel
theorem dX8_failAt_10 : decode cX8_failAt 10 = .ok (.return_, 1) := by decide +kernel
theorem dX9_init_0 : decode cX9_init 0 = .ok (.aload_n 0, 1) := by decide +kernel
theorem dX9_init_1 : decode cX9_init 1 = .ok (.invokespecial 3, 3) := by decide +kernel
theorem dX9_init_4 : decode cX9_init 4 = .ok (.aload_n 0, 1) := by decide +kernel
theorem dX9_init_5 : decode cX9_init 5 = .ok (.bipush 6, 2) := by decide +kernel
theorem dX9_init_7 : decode cX9_init 7 = .ok (.newarray .int, 2) := by decide +kernel
theorem dX9_init_9 : decode cX9_init 9 = .ok (.putfield 9, 3) := by decide +kernel
theorem dX9_init_12 : decode cX9_init 12 = .ok (.aload_n 0, 1) := by decide +kernel
theorem dX9_init_13 : decode cX9_init 13 = .ok (.bipush 6, 2) := by decide +kernel
theorem dX9_init_15 : decode cX9_init 15 = .ok (.newarray .int, 2) := by decide +kernel
theorem dX9_init_17 : decode cX9_init 17 = .ok (.putfield 15, 3) := by decide +kernel
theorem dX9_init_20 : decode cX9_init 20 = .ok (.aload_n 0, 1) := by decide +kernel
theorem dX9_init_21 : decode cX9_init 21 = .ok (.bipush 8, 2) := by decide +kernel
theorem dX9_init_23 : decode cX9_init 23 = .ok (.anewarray 18, 3) := by decide +kernel
theorem dX9_init_26 : decode cX9_init 26 = .ok (.putfield 20, 3) := by decide +kernel
theorem dX9_init_29 : decode cX9_init 29 = .ok (.aload_n 0, 1) := by decide +kernel
theorem dX9_init_30 : decode cX9_init 30 = .ok (.getfield 9, 3) := by decide +kernel
theorem dX9_init_33 : decode cX9_init 33 = .ok (.iconst 3, 1) := by decide +kernel
theorem dX9_init_34 : decode cX9_init 34 = .ok (.invokestatic 24, 3) := by decide +kernel
theorem dX9_init_37 : decode cX9_init 37 = .ok (.aload_n 0, 1) := by decide +kernel
theorem dX9_init_38 : decode cX9_init 38 = .ok (.getfield 15, 3) := by decide +kernel
theorem dX9_init_41 : decode cX9_init 41 = .ok (.iconst 2, 1) := by decide +kernel
theorem dX9_init_42 : decode cX9_init 42 = .ok (.invokestatic 24, 3) := by decide +kernel
theorem dX9_init_45 : decode cX9_init 45 = .ok (.iconst 0, 1) := by decide +kernel
theorem dX9_init_46 : decode cX9_init 46 = .ok (.istore_n 1, 1) := by decide +kernel
theorem dX9_init_47 : decode cX9_init 47 = .ok (.iload_n 1, 1) := by decide +kernel
theorem dX9_init_48 : decode cX9_init 48 = .ok (.bipush 8, 2) := by decide +kernel
theorem dX9_init_50 : decode cX9_init 50 = .ok (.if_icmp .ge 22, 3) := by decide +kernel
theorem dX9_init_53 : decode cX9_init 53 = .ok (.aload_n 0, 1) := by decide +kernel
theorem dX9_init_54 : decode cX9_init 54 = .ok (.getfield 20, 3) := by decide +kernel
theorem dX9_init_57 : decode cX9_init 57 = .ok (.iload_n 1, 1) := by decide +kernel
theorem dX9_init_58 : decode cX9_init 58 = .ok (.new 18, 3) := by decide +kernel
theorem dX9_init_61 : decode cX9_init 61 = .ok (.dup, 1) := by decide +kernel
theorem dX9_init_62 : decode cX9_init 62 = .ok (.invokespecial 30, 3) := by decide +kernel
theorem dX9_init_65 : decode cX9_init 65 = .ok (.aastore, 1) := by decide +kernel
theorem dX9_init_66 : decode cX9_init 66 = .ok (.iinc 1 1, 3) := by decide +kernel
theorem dX9_init_69 : decode cX9_init 69 = .ok (.goto (-22), 3) := by decide +kernel
theorem dX9_init_72 : decode cX9_init 72 = .ok (.return_, 1) := by decide +kernel
theorem dX9_copyFrom_0 : decode cX9_copyFrom 0 = .ok (.aload_n 0, 1) := by decide +kernel
theorem dX9_copyFrom_1 : decode cX9_copyFrom 1 = .ok (.aload_n 1, 1) := by decide +kernel
theorem dX9_copyFrom_2 : decode cX9_copyFrom 2 = .ok (.getfield 31, 3) := by decide +kernel
theorem dX9_copyFrom_5 : decode cX9_copyFrom 5 = .ok (.putfield 31, 3) := by decide +kernel
theorem dX9_copyFrom_8 : decode cX9_copyFrom 8 = .ok (.aload_n 0, 1) := by decide +kernel
theorem dX9_copyFrom_9 : decode cX9_copyFrom 9 = .ok (.aload_n 1, 1) := by decide +kernel
theorem dX9_copyFrom_10 : decode cX9_copyFrom 10 = .ok (.getfield 35, 3) := by decide +kernel
theorem dX9_copyFrom_13 : decode cX9_copyFrom 13 = .ok (.putfield 35, 3) := by decide +kernel
theorem dX9_copyFrom_16 : decode cX9_copyFrom 16 = .ok (.aload_n 0, 1) := by decide +kernel
theorem dX9_copyFrom_17 : decode cX9_copyFrom 17 = .ok (.aload_n 1, 1) := by decide +kernel
theorem dX9_copyFrom_18 : decode cX9_copyFrom 18 = .ok (.getfield 38, 3) := by decide +kernel
theorem dX9_copyFrom_21 : decode cX9_copyFrom 21 = .ok (.putfield 38, 3) := by decide +kernel
theorem dX9_copyFrom_24 : decode cX9_copyFrom 24 = .ok (.aload_n 0, 1) := by decide +kernel
theorem dX9_copyFrom_25 : decode cX9_copyFrom 25 = .ok (.aload_n 1, 1) := by decide +kernel
theorem dX9_copyFrom_26 : decode cX9_copyFrom 26 = .ok (.getfield 41, 3) := by decide +kernel
theorem dX9_copyFrom_29 : decode cX9_copyFrom 29 = .ok (.putfield 41, 3) := by decide +kernel
theorem dX9_copyFrom_32 : decode cX9_copyFrom 32 = .ok (.aload_n 1, 1) := by decide +kernel
theorem dX9_copyFrom_33 : decode cX9_copyFrom 33 = .ok (.getfield 9, 3) := by decide +kernel
theorem dX9_copyFrom_36 : decode cX9_copyFrom 36 = .ok (.iconst 0, 1) := by decide +kernel
theorem dX9_copyFrom_37 : decode cX9_copyFrom 37 = .ok (.aload_n 0, 1) := by decide +kernel
theorem dX9_copyFrom_38 : decode cX9_copyFrom 38 = .ok (.getfield 9, 3) := by decide +kernel
theorem dX9_copyFrom_41 : decode cX9_copyFrom 41 = .ok (.iconst 0, 1) := by decide +kernel
theorem dX9_copyFrom_42 : decode cX9_copyFrom 42 = .ok (.bipush 6, 2) := by decide +kernel
theorem dX9_copyFrom_44 : decode cX9_copyFrom 44 = .ok (.invokestatic 44, 3) := by decide +kernel
theorem dX9_copyFrom_47 : decode cX9_copyFrom 47 = .ok (.aload_n 1, 1) := by decide +kernel
theorem dX9_copyFrom_48 : decode cX9_copyFrom 48 = .ok (.getfield 15, 3) := by decide +kernel
theorem dX9_copyFrom_51 : decode cX9_copyFrom 51 = .ok (.iconst 0, 1) := by decide +kernel
theorem dX9_copyFrom_52 : decode cX9_copyFrom 52 = .ok (.aload_n 0, 1) := by decide +kernel
theorem dX9_copyFrom_53 : decode cX9_copyFrom 53 = .ok (.getfield 15, 3) := by decide +kernel
theorem dX9_copyFrom_56 : decode cX9_copyFrom 56 = .ok (.iconst 0, 1) := by decide +kernel
theorem dX9_copyFrom_57 : decode cX9_copyFrom 57 = .ok (.bipush 6, 2) := by decide +kernel
theorem dX9_copyFrom_59 : decode cX9_copyFrom 59 = .ok (.invokestatic 44, 3) := by decide +kernel
theorem dX9_copyFrom_62 : decode cX9_copyFrom 62 = .ok (.iconst 0, 1) := by decide +kernel
theorem dX9_copyFrom_63 : decode cX9_copyFrom 63 = .ok (.istore_n 2, 1) := by decide +kernel
theorem dX9_copyFrom_64 : decode cX9_copyFrom 64 = .ok (.iload_n 2, 1) := by decide +kernel
theorem dX9_copyFrom_65 : decode cX9_copyFrom 65 = .ok (.bipush 8, 2) := by decide +kernel
theorem dX9_copyFrom_67 : decode cX9_copyFrom 67 = .ok (.if_icmp .ge 49, 3) := by decide +kernel
theorem dX9_copyFrom_70 : decode cX9_copyFrom 70 = .ok (.aload_n 1, 1) := by decide +kernel
theorem dX9_copyFrom_71 : decode cX9_copyFrom 71 = .ok (.getfield 20, 3) := by decide +kernel
theorem dX9_copyFrom_74 : decode cX9_copyFrom 74 = .ok (.iload_n 2, 1) := by decide +kernel
theorem dX9_copyFrom_75 : decode cX9_copyFrom 75 = .ok (.aaload, 1) := by decide +kernel
theorem dX9_copyFrom_76 : decode cX9_copyFrom 76 = .ok (.getfield 50, 3) := by decide +kernel
theorem dX9_copyFrom_79 : decode cX9_copyFrom 79 = .ok (.ifCond .eq 21, 3) := by decide +kernel
theorem dX9_copyFrom_82 : decode cX9_copyFrom 82 = .ok (.aload_n 0, 1) := by decide +kernel
theorem dX9_copyFrom_83 : decode cX9_copyFrom 83 = .ok (.getfield 20, 3) := by decide +kernel
theorem dX9_copyFrom_86 : decode cX9_copyFrom 86 = .ok (.iload_n 2, 1) := by decide +kernel
theorem dX9_copyFrom_87 : decode cX9_copyFrom 87 = .ok (.aaload, 1) := by decide +kernel
theorem dX9_copyFrom_88 : decode cX9_copyFrom 88 = .ok (.aload_n 1, 1) := by decide +kernel
theorem dX9_copyFrom_89 : decode cX9_copyFrom 89 = .ok (.getfield 20, 3) := by decide +kernel
theorem dX9_copyFrom_92 : decode cX9_copyFrom 92 = .ok (.iload_n 2, 1) := by decide +kernel
theorem dX9_copyFrom_93 : decode cX9_copyFrom 93 = .ok (.aaload, 1) := by decide +kernel
theorem dX9_copyFrom_94 : decode cX9_copyFrom 94 = .ok (.invokevirtual 54, 3) := by decide +kernel
theorem dX9_copyFrom_97 : decode cX9_copyFrom 97 = .ok (.goto 13, 3) := by decide +kernel
theorem dX9_copyFrom_100 : decode cX9_copyFrom 100 = .ok (.aload_n 0, 1) := by decide +kernel
theorem dX9_copyFrom_101 : decode cX9_copyFrom 101 = .ok (.getfield 20, 3) := by decide +kernel
theorem dX9_copyFrom_104 : decode cX9_copyFrom 104 = .ok (.iload_n 2, 1) := by decide +kernel
theorem dX9_copyFrom_105 : decode cX9_copyFrom 105 = .ok (.aaload, 1) := by decide +kernel
theorem dX9_copyFrom_106 : decode cX9_copyFrom 106 = .ok (.iconst 0, 1) := by decide +kernel
theorem dX9_copyFrom_107 : decode cX9_copyFrom 107 = .ok (.putfield 50, 3) := by decide +kernel
theorem dX9_copyFrom_110 : decode cX9_copyFrom 110 = .ok (.iinc 2 1, 3) := by decide +kernel
theorem dX9_copyFrom_113 : decode cX9_copyFrom 113 = .ok (.goto (-49), 3) := by decide +kernel
theorem dX9_copyFrom_116 : decode cX9_copyFrom 116 = .ok (.return_, 1) := by decide +kernel
theorem dX9_ropeAt_0 : decode cX9_ropeAt 0 = .ok (.iload_n 1, 1) := by decide +kernel
theorem dX9_ropeAt_1 : decode cX9_ropeAt 1 = .ok (.bipush 8, 2) := by decide +kernel
theorem dX9_ropeAt_3 : decode cX9_ropeAt 3 = .ok (.invokestatic 58, 3) := by decide +kernel
theorem dX9_ropeAt_6 : decode cX9_ropeAt 6 = .ok (.ifCond .eq 24, 3) := by decide +kernel
theorem dX9_ropeAt_9 : decode cX9_ropeAt 9 = .ok (.aload_n 0, 1) := by decide +kernel
theorem dX9_ropeAt_10 : decode cX9_ropeAt 10 = .ok (.getfield 20, 3) := by decide +kernel
theorem dX9_ropeAt_13 : decode cX9_ropeAt 13 = .ok (.iload_n 1, 1) := by decide +kernel
theorem dX9_ropeAt_14 : decode cX9_ropeAt 14 = .ok (.aaload, 1) := by decide +kernel
theorem dX9_ropeAt_15 : decode cX9_ropeAt 15 = .ok (.getfield 50, 3) := by decide +kernel
theorem dX9_ropeAt_18 : decode cX9_ropeAt 18 = .ok (.ifCond .eq 12, 3) := by decide +kernel
theorem dX9_ropeAt_21 : decode cX9_ropeAt 21 = .ok (.aload_n 0, 1) := by decide +kernel
theorem dX9_ropeAt_22 : decode cX9_ropeAt 22 = .ok (.getfield 20, 3) := by decide +kernel
theorem dX9_ropeAt_25 : decode cX9_ropeAt 25 = .ok (.iload_n 1, 1) := by decide +kernel
theorem dX9_ropeAt_26 : decode cX9_ropeAt 26 = .ok (.aaload, 1) := by decide +kernel
theorem dX9_ropeAt_27 : decode cX9_ropeAt 27 = .ok (.goto 4, 3) := by decide +kernel
theorem dX9_ropeAt_30 : decode cX9_ropeAt 30 = .ok (.aconst_null, 1) := by decide +kernel
theorem dX9_ropeAt_31 : decode cX9_ropeAt 31 = .ok (.areturn, 1) := by decide +kernel
theorem dX9_freeNumber_0 : decode cX9_freeNumber 0 = .ok (.iconst 0, 1) := by decide +kernel
theorem dX9_freeNumber_1 : decode cX9_freeNumber 1 = .ok (.istore_n 1, 1) := by decide +kernel
theorem dX9_freeNumber_2 : decode cX9_freeNumber 2 = .ok (.iload_n 1, 1) := by decide +kernel
theorem dX9_freeNumber_3 : decode cX9_freeNumber 3 = .ok (.bipush 8, 2) := by decide +kernel
theorem dX9_freeNumber_5 : decode cX9_freeNumber 5 = .ok (.if_icmp .ge 23, 3) := by decide +kernel
theorem dX9_freeNumber_8 : decode cX9_freeNumber 8 = .ok (.aload_n 0, 1) := by decide +kernel
theorem dX9_freeNumber_9 : decode cX9_freeNumber 9 = .ok (.getfield 20, 3) := by decide +kernel
theorem dX9_freeNumber_12 : decode cX9_freeNumber 12 = .ok (.iload_n 1, 1) := by decide +kernel
theorem dX9_freeNumber_13 : decode cX9_freeNumber 13 = .ok (.aaload, 1) := by decide +kernel
theorem dX9_freeNumber_14 : decode cX9_freeNumber 14 = .ok (.getfield 50, 3) := by decide +kernel
theorem dX9_freeNumber_17 : decode cX9_freeNumber 17 = .ok (.ifCond .ne 5, 3) := by decide +kernel
theorem dX9_freeNumber_20 : decode cX9_freeNumber 20 = .ok (.iload_n 1, 1) := by decide +kernel
theorem dX9_freeNumber_21 : decode cX9_freeNumber 21 = .ok (.ireturn, 1) := by decide +kernel
theorem dX9_freeNumber_22 : decode cX9_freeNumber 22 = .ok (.iinc 1 1, 3) := by decide +kernel
theorem dX9_freeNumber_25 : decode cX9_freeNumber 25 = .ok (.goto (-23), 3) := by decide +kernel
theorem dX9_freeNumber_28 : decode cX9_freeNumber 28 = .ok (.iconst (-1), 1) := by decide +kernel
theorem dX9_freeNumber_29 : decode cX9_freeNumber 29 = .ok (.ireturn, 1) := by decide +kernel
theorem dX9_ropeSet_0 : decode cX9_ropeSet 0 = .ok (.iconst 0, 1) := by decide +kernel
theorem dX9_ropeSet_1 : decode cX9_ropeSet 1 = .ok (.istore_n 1, 1) := by decide +kernel
theorem dX9_ropeSet_2 : decode cX9_ropeSet 2 = .ok (.iconst 0, 1) := by decide +kernel
theorem dX9_ropeSet_3 : decode cX9_ropeSet 3 = .ok (.istore_n 2, 1) := by decide +kernel
theorem dX9_ropeSet_4 : decode cX9_ropeSet 4 = .ok (.iload_n 2, 1) := by decide +kernel
theorem dX9_ropeSet_5 : decode cX9_ropeSet 5 = .ok (.bipush 8, 2) := by decide +kernel
theorem dX9_ropeSet_7 : decode cX9_ropeSet 7 = .ok (.if_icmp .ge 31, 3) := by decide +kernel
theorem dX9_ropeSet_10 : decode cX9_ropeSet 10 = .ok (.iload_n 1, 1) := by decide +kernel
theorem dX9_ropeSet_11 : decode cX9_ropeSet 11 = .ok (.aload_n 0, 1) := by decide +kernel
theorem dX9_ropeSet_12 : decode cX9_ropeSet 12 = .ok (.getfield 20, 3) := by decide +kernel
theorem dX9_ropeSet_15 : decode cX9_ropeSet 15 = .ok (.iload_n 2, 1) := by decide +kernel
theorem dX9_ropeSet_16 : decode cX9_ropeSet 16 = .ok (.aaload, 1) := by decide +kernel
theorem dX9_ropeSet_17 : decode cX9_ropeSet 17 = .ok (.getfield 50, 3) := by decide +kernel
theorem dX9_ropeSet_20 : decode cX9_ropeSet 20 = .ok (.ifCond .eq 9, 3) := by decide +kernel
theorem dX9_ropeSet_23 : decode cX9_ropeSet 23 = .ok (.iconst 1, 1) := by decide +kernel
theorem dX9_ropeSet_24 : decode cX9_ropeSet 24 = .ok (.iload_n 2, 1) := by decide +kernel
theorem dX9_ropeSet_25 : decode cX9_ropeSet 25 = .ok (.ishl, 1) := by decide +kernel
theorem dX9_ropeSet_26 : decode cX9_ropeSet 26 = .ok (.goto 4, 3) := by decide +kernel
theorem dX9_ropeSet_29 : decode cX9_ropeSet 29 = .ok (.iconst 0, 1) := by decide +kernel
theorem dX9_ropeSet_30 : decode cX9_ropeSet 30 = .ok (.ior, 1) := by decide +kernel
theorem dX9_ropeSet_31 : decode cX9_ropeSet 31 = .ok (.istore_n 1, 1) := by decide +kernel
theorem dX9_ropeSet_32 : decode cX9_ropeSet 32 = .ok (.iinc 2 1, 3) := by decide +kernel
theorem dX9_ropeSet_35 : decode cX9_ropeSet 35 = .ok (.goto (-31), 3) := by decide +kernel
theorem dX9_ropeSet_38 : decode cX9_ropeSet 38 = .ok (.iload_n 1, 1) := by decide +kernel
theorem dX9_ropeSet_39 : decode cX9_ropeSet 39 = .ok (.ireturn, 1) := by decide +kernel
theorem dX9_drawBelow_0 : decode cX9_drawBelow 0 = .ok (.aload_n 0, 1) := by decide +kernel
theorem dX9_drawBelow_1 : decode cX9_drawBelow 1 = .ok (.aload_n 0, 1) := by decide +kernel
theorem dX9_drawBelow_2 : decode cX9_drawBelow 2 = .ok (.getfield 38, 3) := by decide +kernel
theorem dX9_drawBelow_5 : decode cX9_drawBelow 5 = .ok (.ldc 62, 2) := by decide +kernel
theorem dX9_drawBelow_7 : decode cX9_drawBelow 7 = .ok (.imul, 1) := by decide +kernel
theorem dX9_drawBelow_8 : decode cX9_drawBelow 8 = .ok (.ldc 63, 2) := by decide +kernel
theorem dX9_drawBelow_10 : decode cX9_drawBelow 10 = .ok (.iadd, 1) := by decide +kernel
theorem dX9_drawBelow_11 : decode cX9_drawBelow 11 = .ok (.putfield 38, 3) := by decide +kernel
theorem dX9_drawBelow_14 : decode cX9_drawBelow 14 = .ok (.iload_n 1, 1) := by decide +kernel
theorem dX9_drawBelow_15 : decode cX9_drawBelow 15 = .ok (.ifCond .le 15, 3) := by decide +kernel
theorem dX9_drawBelow_18 : decode cX9_drawBelow 18 = .ok (.aload_n 0, 1) := by decide +kernel
theorem dX9_drawBelow_19 : decode cX9_drawBelow 19 = .ok (.getfield 38, 3) := by decide +kernel
theorem dX9_drawBelow_22 : decode cX9_drawBelow 22 = .ok (.bipush 8, 2) := by decide +kernel
theorem dX9_drawBelow_24 : decode cX9_drawBelow 24 = .ok (.iushr, 1) := by decide +kernel
theorem dX9_drawBelow_25 : decode cX9_drawBelow 25 = .ok (.iload_n 1, 1) := by decide +kernel
theorem dX9_drawBelow_26 : decode cX9_drawBelow 26 = .ok (.irem, 1) := by decide +kernel
theorem dX9_drawBelow_27 : decode cX9_drawBelow 27 = .ok (.goto 4, 3) := by decide +kernel
theorem dX9_drawBelow_30 : decode cX9_drawBelow 30 = .ok (.iconst 0, 1) := by decide +kernel
theorem dX9_drawBelow_31 : decode cX9_drawBelow 31 = .ok (.ireturn, 1) := by decide +kernel
theorem dX9_part_0 : decode cX9_part 0 = .ok (.aload_n 0, 1) := by decide +kernel
theorem dX9_part_1 : decode cX9_part 1 = .ok (.getfield 20, 3) := by decide +kernel
theorem dX9_part_4 : decode cX9_part 4 = .ok (.iload_n 1, 1) := by decide +kernel
theorem dX9_part_5 : decode cX9_part 5 = .ok (.aaload, 1) := by decide +kernel
theorem dX9_part_6 : decode cX9_part 6 = .ok (.astore_n 3, 1) := by decide +kernel
theorem dX9_part_7 : decode cX9_part 7 = .ok (.aload_n 3, 1) := by decide +kernel
theorem dX9_part_8 : decode cX9_part 8 = .ok (.getfield 64, 3) := by decide +kernel
theorem dX9_part_11 : decode cX9_part 11 = .ok (.iload_n 2, 1) := by decide +kernel
theorem dX9_part_12 : decode cX9_part 12 = .ok (.isub, 1) := by decide +kernel
theorem dX9_part_13 : decode cX9_part 13 = .ok (.iconst 2, 1) := by decide +kernel
theorem dX9_part_14 : decode cX9_part 14 = .ok (.if_icmp .ge 7, 3) := by decide +kernel
theorem dX9_part_17 : decode cX9_part 17 = .ok (.iconst (-1), 1) := by decide +kernel
theorem dX9_part_18 : decode cX9_part 18 = .ok (.goto 7, 3) := by decide +kernel
theorem dX9_part_21 : decode cX9_part 21 = .ok (.aload_n 0, 1) := by decide +kernel
theorem dX9_part_22 : decode cX9_part 22 = .ok (.invokevirtual 67, 3) := by decide +kernel
theorem dX9_part_25 : decode cX9_part 25 = .ok (.istore 4, 2) := by decide +kernel
theorem dX9_part_27 : decode cX9_part 27 = .ok (.aload_n 3, 1) := by decide +kernel
theorem dX9_part_28 : decode cX9_part 28 = .ok (.iload_n 2, 1) := by decide +kernel
theorem dX9_part_29 : decode cX9_part 29 = .ok (.invokevirtual 71, 3) := by decide +kernel
theorem dX9_part_32 : decode cX9_part 32 = .ok (.iload 4, 2) := by decide +kernel
theorem dX9_part_34 : decode cX9_part 34 = .ok (.iconst (-1), 1) := by decide +kernel
theorem dX9_part_35 : decode cX9_part 35 = .ok (.if_icmp .eq 15, 3) := by decide +kernel
theorem dX9_part_38 : decode cX9_part 38 = .ok (.aload_n 0, 1) := by decide +kernel
theorem dX9_part_39 : decode cX9_part 39 = .ok (.getfield 20, 3) := by decide +kernel
theorem dX9_part_42 : decode cX9_part 42 = .ok (.iload 4, 2) := by decide +kernel
theorem dX9_part_44 : decode cX9_part 44 = .ok (.aaload, 1) := by decide +kernel
theorem dX9_part_45 : decode cX9_part 45 = .ok (.aload_n 3, 1) := by decide +kernel
theorem dX9_part_46 : decode cX9_part 46 = .ok (.iload_n 2, 1) := by decide +kernel
theorem dX9_part_47 : decode cX9_part 47 = .ok (.invokevirtual 75, 3) := by decide +kernel
theorem dX9_part_50 : decode cX9_part 50 = .ok (.aload_n 3, 1) := by decide +kernel
theorem dX9_part_51 : decode cX9_part 51 = .ok (.iload_n 2, 1) := by decide +kernel
theorem dX9_part_52 : decode cX9_part 52 = .ok (.putfield 64, 3) := by decide +kernel
theorem dX9_part_55 : decode cX9_part 55 = .ok (.aload_n 3, 1) := by decide +kernel
theorem dX9_part_56 : decode cX9_part 56 = .ok (.iload_n 2, 1) := by decide +kernel
theorem dX9_part_57 : decode cX9_part 57 = .ok (.iconst 2, 1) := by decide +kernel
theorem dX9_part_58 : decode cX9_part 58 = .ok (.if_icmp .lt 7, 3) := by decide +kernel
theorem dX9_part_61 : decode cX9_part 61 = .ok (.iconst 1, 1) := by decide +kernel
theorem dX9_part_62 : decode cX9_part 62 = .ok (.goto 4, 3) := by decide +kernel
theorem dX9_part_65 : decode cX9_part 65 = .ok (.iconst 0, 1) := by decide +kernel
theorem dX9_part_66 : decode cX9_part 66 = .ok (.putfield 50, 3) := by decide +kernel
theorem dX9_part_69 : decode cX9_part 69 = .ok (.iload 4, 2) := by decide +kernel
theorem dX9_part_71 : decode cX9_part 71 = .ok (.ireturn, 1) := by decide +kernel
theorem dX10_init_0 : decode cX10_init 0 = .ok (.aload_n 0, 1) := by decide +kernel
theorem dX10_init_1 : decode cX10_init 1 = .ok (.invokespecial 3, 3) := by decide +kernel
theorem dX10_init_4 : decode cX10_init 4 = .ok (.aload_n 0, 1) := by decide +kernel
theorem dX10_init_5 : decode cX10_init 5 = .ok (.bipush 7, 2) := by decide +kernel
theorem dX10_init_7 : decode cX10_init 7 = .ok (.newarray .int, 2) := by decide +kernel
theorem dX10_init_9 : decode cX10_init 9 = .ok (.putfield 9, 3) := by decide +kernel
theorem dX10_init_12 : decode cX10_init 12 = .ok (.aload_n 0, 1) := by decide +kernel
theorem dX10_init_13 : decode cX10_init 13 = .ok (.bipush 8, 2) := by decide +kernel
theorem dX10_init_15 : decode cX10_init 15 = .ok (.newarray .int, 2) := by decide +kernel
theorem dX10_init_17 : decode cX10_init 17 = .ok (.putfield 15, 3) := by decide +kernel
theorem dX10_init_20 : decode cX10_init 20 = .ok (.aload_n 0, 1) := by decide +kernel
theorem dX10_init_21 : decode cX10_init 21 = .ok (.bipush 8, 2) := by decide +kernel
theorem dX10_init_23 : decode cX10_init 23 = .ok (.newarray .int, 2) := by decide +kernel
theorem dX10_init_25 : decode cX10_init 25 = .ok (.putfield 18, 3) := by decide +kernel
theorem dX10_init_28 : decode cX10_init 28 = .ok (.aload_n 0, 1) := by decide +kernel
theorem dX10_init_29 : decode cX10_init 29 = .ok (.sipush 128, 3) := by decide +kernel
theorem dX10_init_32 : decode cX10_init 32 = .ok (.newarray .int, 2) := by decide +kernel
theorem dX10_init_34 : decode cX10_init 34 = .ok (.putfield 21, 3) := by decide +kernel
theorem dX10_init_37 : decode cX10_init 37 = .ok (.aload_n 0, 1) := by decide +kernel
theorem dX10_init_38 : decode cX10_init 38 = .ok (.sipush 128, 3) := by decide +kernel
theorem dX10_init_41 : decode cX10_init 41 = .ok (.newarray .int, 2) := by decide +kernel
theorem dX10_init_43 : decode cX10_init 43 = .ok (.putfield 24, 3) := by decide +kernel
theorem dX10_init_46 : decode cX10_init 46 = .ok (.return_, 1) := by decide +kernel
theorem dX10_plan_0 : decode cX10_plan 0 = .ok (.iconst 0, 1) := by decide +kernel
theorem dX10_plan_1 : decode cX10_plan 1 = .ok (.istore_n 3, 1) := by decide +kernel
theorem dX10_plan_2 : decode cX10_plan 2 = .ok (.iload_n 3, 1) := by decide +kernel
theorem dX10_plan_3 : decode cX10_plan 3 = .ok (.bipush 8, 2) := by decide +kernel
theorem dX10_plan_5 : decode cX10_plan 5 = .ok (.if_icmp .ge 47, 3) := by decide +kernel
theorem dX10_plan_8 : decode cX10_plan 8 = .ok (.aload_n 0, 1) := by decide +kernel
theorem dX10_plan_9 : decode cX10_plan 9 = .ok (.getfield 15, 3) := by decide +kernel
theorem dX10_plan_12 : decode cX10_plan 12 = .ok (.iload_n 3, 1) := by decide +kernel
theorem dX10_plan_13 : decode cX10_plan 13 = .ok (.aload_n 1, 1) := by decide +kernel
theorem dX10_plan_14 : decode cX10_plan 14 = .ok (.getfield 27, 3) := by decide +kernel
theorem dX10_plan_17 : decode cX10_plan 17 = .ok (.iload_n 3, 1) := by decide +kernel
theorem dX10_plan_18 : decode cX10_plan 18 = .ok (.aaload, 1) := by decide +kernel
theorem dX10_plan_19 : decode cX10_plan 19 = .ok (.getfield 33, 3) := by decide +kernel
theorem dX10_plan_22 : decode cX10_plan 22 = .ok (.ifCond .eq 15, 3) := by decide +kernel
theorem dX10_plan_25 : decode cX10_plan 25 = .ok (.aload_n 1, 1) := by decide +kernel
theorem dX10_plan_26 : decode cX10_plan 26 = .ok (.getfield 27, 3) := by decide +kernel
theorem dX10_plan_29 : decode cX10_plan 29 = .ok (.iload_n 3, 1) := by decide +kernel
theorem dX10_plan_30 : decode cX10_plan 30 = .ok (.aaload, 1) := by decide +kernel
theorem dX10_plan_31 : decode cX10_plan 31 = .ok (.getfield 39, 3) := by decide +kernel
theorem dX10_plan_34 : decode cX10_plan 34 = .ok (.goto 4, 3) := by decide +kernel
theorem dX10_plan_37 : decode cX10_plan 37 = .ok (.iconst 0, 1) := by decide +kernel
theorem dX10_plan_38 : decode cX10_plan 38 = .ok (.iastore, 1) := by decide +kernel
theorem dX10_plan_39 : decode cX10_plan 39 = .ok (.aload_n 0, 1) := by decide +kernel
theorem dX10_plan_40 : decode cX10_plan 40 = .ok (.getfield 18, 3) := by decide +kernel
theorem dX10_plan_43 : decode cX10_plan 43 = .ok (.iload_n 3, 1) := by decide +kernel
theorem dX10_plan_44 : decode cX10_plan 44 = .ok (.iconst 0, 1) := by decide +kernel
theorem dX10_plan_45 : decode cX10_plan 45 = .ok (.iastore, 1) := by decide +kernel
theorem dX10_plan_46 : decode cX10_plan 46 = .ok (.iinc 3 1, 3) := by decide +kernel
theorem dX10_plan_49 : decode cX10_plan 49 = .ok (.goto (-47), 3) := by decide +kernel
theorem dX10_plan_52 : decode cX10_plan 52 = .ok (.aload_n 0, 1) := by decide +kernel
theorem dX10_plan_53 : decode cX10_plan 53 = .ok (.aload_n 2, 1) := by decide +kernel
theorem dX10_plan_54 : decode cX10_plan 54 = .ok (.iconst 0, 1) := by decide +kernel
theorem dX10_plan_55 : decode cX10_plan 55 = .ok (.invokevirtual 43, 3) := by decide +kernel
theorem dX10_plan_58 : decode cX10_plan 58 = .ok (.istore_n 3, 1) := by decide +kernel
theorem dX10_plan_59 : decode cX10_plan 59 = .ok (.iload_n 3, 1) := by decide +kernel
theorem dX10_plan_60 : decode cX10_plan 60 = .ok (.sipush 1000, 3) := by decide +kernel
theorem dX10_plan_63 : decode cX10_plan 63 = .ok (.if_icmp .lt 9, 3) := by decide +kernel
theorem dX10_plan_66 : decode cX10_plan 66 = .ok (.aload_n 0, 1) := by decide +kernel
theorem dX10_plan_67 : decode cX10_plan 67 = .ok (.iconst (-1), 1) := by decide +kernel
theorem dX10_plan_68 : decode cX10_plan 68 = .ok (.putfield 47, 3) := by decide +kernel
theorem dX10_plan_71 : decode cX10_plan 71 = .ok (.return_, 1) := by decide +kernel
theorem dX10_plan_72 : decode cX10_plan 72 = .ok (.aload_n 0, 1) := by decide +kernel
theorem dX10_plan_73 : decode cX10_plan 73 = .ok (.iload_n 3, 1) := by decide +kernel
theorem dX10_plan_74 : decode cX10_plan 74 = .ok (.putfield 47, 3) := by decide +kernel
theorem dX10_plan_77 : decode cX10_plan 77 = .ok (.iconst 0, 1) := by decide +kernel
theorem dX10_plan_78 : decode cX10_plan 78 = .ok (.istore 4, 2) := by decide +kernel
theorem dX10_plan_80 : decode cX10_plan 80 = .ok (.iload 4, 2) := by decide +kernel
theorem dX10_plan_82 : decode cX10_plan 82 = .ok (.aload_n 2, 1) := by decide +kernel
theorem dX10_plan_83 : decode cX10_plan 83 = .ok (.getfield 50, 3) := by decide +kernel
theorem dX10_plan_86 : decode cX10_plan 86 = .ok (.if_icmp .ge 23, 3) := by decide +kernel
theorem dX10_plan_89 : decode cX10_plan 89 = .ok (.aload_n 0, 1) := by decide +kernel
theorem dX10_plan_90 : decode cX10_plan 90 = .ok (.getfield 9, 3) := by decide +kernel
theorem dX10_plan_93 : decode cX10_plan 93 = .ok (.iload 4, 2) := by decide +kernel
theorem dX10_plan_95 : decode cX10_plan 95 = .ok (.aload_n 0, 1) := by decide +kernel
theorem dX10_plan_96 : decode cX10_plan 96 = .ok (.aload_n 2, 1) := by decide +kernel
theorem dX10_plan_97 : decode cX10_plan 97 = .ok (.iload 4, 2) := by decide +kernel
theorem dX10_plan_99 : decode cX10_plan 99 = .ok (.invokevirtual 55, 3) := by decide +kernel
theorem dX10_plan_102 : decode cX10_plan 102 = .ok (.iastore, 1) := by decide +kernel
theorem dX10_plan_103 : decode cX10_plan 103 = .ok (.iinc 4 1, 3) := by decide +kernel
theorem dX10_plan_106 : decode cX10_plan 106 = .ok (.goto (-26), 3) := by decide +kernel
theorem dX10_plan_109 : decode cX10_plan 109 = .ok (.return_, 1) := by decide +kernel
theorem dX10_chooseRope_0 : decode cX10_chooseRope 0 = .ok (.iconst 0, 1) := by decide +kernel
theorem dX10_chooseRope_1 : decode cX10_chooseRope 1 = .ok (.istore_n 3, 1) := by decide +kernel
theorem dX10_chooseRope_2 : decode cX10_chooseRope 2 = .ok (.iload_n 3, 1) := by decide +kernel
theorem dX10_chooseRope_3 : decode cX10_chooseRope 3 = .ok (.bipush 8, 2) := by decide +kernel
theorem dX10_chooseRope_5 : decode cX10_chooseRope 5 = .ok (.if_icmp .ge 78, 3) := by decide +kernel
theorem dX10_chooseRope_8 : decode cX10_chooseRope 8 = .ok (.aload_n 0, 1) := by decide +kernel
theorem dX10_chooseRope_9 : decode cX10_chooseRope 9 = .ok (.getfield 18, 3) := by decide +kernel
theorem dX10_chooseRope_12 : decode cX10_chooseRope 12 = .ok (.iload_n 3, 1) := by decide +kernel
theorem dX10_chooseRope_13 : decode cX10_chooseRope 13 = .ok (.iaload, 1) := by decide +kernel
theorem dX10_chooseRope_14 : decode cX10_chooseRope 14 = .ok (.aload_n 1, 1) := by decide +kernel
theorem dX10_chooseRope_15 : decode cX10_chooseRope 15 = .ok (.getfield 58, 3) := by decide +kernel
theorem dX10_chooseRope_18 : decode cX10_chooseRope 18 = .ok (.iload_n 2, 1) := by decide +kernel
theorem dX10_chooseRope_19 : decode cX10_chooseRope 19 = .ok (.iaload, 1) := by decide +kernel
theorem dX10_chooseRope_20 : decode cX10_chooseRope 20 = .ok (.iadd, 1) := by decide +kernel
theorem dX10_chooseRope_21 : decode cX10_chooseRope 21 = .ok (.aload_n 0, 1) := by decide +kernel
theorem dX10_chooseRope_22 : decode cX10_chooseRope 22 = .ok (.getfield 15, 3) := by decide +kernel
theorem dX10_chooseRope_25 : decode cX10_chooseRope 25 = .ok (.iload_n 3, 1) := by decide +kernel
theorem dX10_chooseRope_26 : decode cX10_chooseRope 26 = .ok (.iaload, 1) := by decide +kernel
theorem dX10_chooseRope_27 : decode cX10_chooseRope 27 = .ok (.if_icmp .gt 50, 3) := by decide +kernel
theorem dX10_chooseRope_30 : decode cX10_chooseRope 30 = .ok (.aload_n 0, 1) := by decide +kernel
theorem dX10_chooseRope_31 : decode cX10_chooseRope 31 = .ok (.getfield 18, 3) := by decide +kernel
theorem dX10_chooseRope_34 : decode cX10_chooseRope 34 = .ok (.iload_n 3, 1) := by decide +kernel
theorem dX10_chooseRope_35 : decode cX10_chooseRope 35 = .ok (.dup2, 1) := by decide +kernel
theorem dX10_chooseRope_36 : decode cX10_chooseRope 36 = .ok (.iaload, 1) := by decide +kernel
theorem dX10_chooseRope_37 : decode cX10_chooseRope 37 = .ok (.aload_n 1, 1) := by decide +kernel
theorem dX10_chooseRope_38 : decode cX10_chooseRope 38 = .ok (.getfield 58, 3) := by decide +kernel
theorem dX10_chooseRope_41 : decode cX10_chooseRope 41 = .ok (.iload_n 2, 1) := by decide +kernel
theorem dX10_chooseRope_42 : decode cX10_chooseRope 42 = .ok (.iaload, 1) := by decide +kernel
theorem dX10_chooseRope_43 : decode cX10_chooseRope 43 = .ok (.iadd, 1) := by decide +kernel
theorem dX10_chooseRope_44 : decode cX10_chooseRope 44 = .ok (.iastore, 1) := by decide +kernel
theorem dX10_chooseRope_45 : decode cX10_chooseRope 45 = .ok (.aload_n 0, 1) := by decide +kernel
theorem dX10_chooseRope_46 : decode cX10_chooseRope 46 = .ok (.aload_n 1, 1) := by decide +kernel
theorem dX10_chooseRope_47 : decode cX10_chooseRope 47 = .ok (.iload_n 2, 1) := by decide +kernel
theorem dX10_chooseRope_48 : decode cX10_chooseRope 48 = .ok (.iconst 1, 1) := by decide +kernel
theorem dX10_chooseRope_49 : decode cX10_chooseRope 49 = .ok (.iadd, 1) := by decide +kernel
theorem dX10_chooseRope_50 : decode cX10_chooseRope 50 = .ok (.invokevirtual 43, 3) := by decide +kernel
theorem dX10_chooseRope_53 : decode cX10_chooseRope 53 = .ok (.aload_n 0, 1) := by decide +kernel
theorem dX10_chooseRope_54 : decode cX10_chooseRope 54 = .ok (.getfield 47, 3) := by decide +kernel
theorem dX10_chooseRope_57 : decode cX10_chooseRope 57 = .ok (.if_icmp .ne 5, 3) := by decide +kernel
theorem dX10_chooseRope_60 : decode cX10_chooseRope 60 = .ok (.iload_n 3, 1) := by decide +kernel
theorem dX10_chooseRope_61 : decode cX10_chooseRope 61 = .ok (.ireturn, 1) := by decide +kernel
theorem dX10_chooseRope_62 : decode cX10_chooseRope 62 = .ok (.aload_n 0, 1) := by decide +kernel
theorem dX10_chooseRope_63 : decode cX10_chooseRope 63 = .ok (.getfield 18, 3) := by decide +kernel
theorem dX10_chooseRope_66 : decode cX10_chooseRope 66 = .ok (.iload_n 3, 1) := by decide +kernel
theorem dX10_chooseRope_67 : decode cX10_chooseRope 67 = .ok (.dup2, 1) := by decide +kernel
theorem dX10_chooseRope_68 : decode cX10_chooseRope 68 = .ok (.iaload, 1) := by decide +kernel
theorem dX10_chooseRope_69 : decode cX10_chooseRope 69 = .ok (.aload_n 1, 1) := by decide +kernel
theorem dX10_chooseRope_70 : decode cX10_chooseRope 70 = .ok (.getfield 58, 3) := by decide +kernel
theorem dX10_chooseRope_73 : decode cX10_chooseRope 73 = .ok (.iload_n 2, 1) := by decide +kernel
theorem dX10_chooseRope_74 : decode cX10_chooseRope 74 = .ok (.iaload, 1) := by decide +kernel
theorem dX10_chooseRope_75 : decode cX10_chooseRope 75 = .ok (.isub, 1) := by decide +kernel
theorem dX10_chooseRope_76 : decode cX10_chooseRope 76 = .ok (.iastore, 1) := by decide +kernel
theorem dX10_chooseRope_77 : decode cX10_chooseRope 77 = .ok (.iinc 3 1, 3) := by decide +kernel
theorem dX10_chooseRope_80 : decode cX10_chooseRope 80 = .ok (.goto (-78), 3) := by decide +kernel
theorem dX10_chooseRope_83 : decode cX10_chooseRope 83 = .ok (.iconst (-1), 1) := by decide +kernel
theorem dX10_chooseRope_84 : decode cX10_chooseRope 84 = .ok (.ireturn, 1) := by decide +kernel
theorem dX10_fewestFrom_0 : decode cX10_fewestFrom 0 = .ok (.iconst 1, 1) := by decide +kernel
theorem dX10_fewestFrom_1 : decode cX10_fewestFrom 1 = .ok (.iconst 0, 1) := by decide +kernel
theorem dX10_fewestFrom_2 : decode cX10_fewestFrom 2 = .ok (.aload_n 1, 1) := by decide +kernel
theorem dX10_fewestFrom_3 : decode cX10_fewestFrom 3 = .ok (.getfield 50, 3) := by decide +kernel
theorem dX10_fewestFrom_6 : decode cX10_fewestFrom 6 = .ok (.iload_n 2, 1) := by decide +kernel
theorem dX10_fewestFrom_7 : decode cX10_fewestFrom 7 = .ok (.isub, 1) := by decide +kernel
theorem dX10_fewestFrom_8 : decode cX10_fewestFrom 8 = .ok (.invokestatic 61, 3) := by decide +kernel
theorem dX10_fewestFrom_11 : decode cX10_fewestFrom 11 = .ok (.ishl, 1) := by decide +kernel
theorem dX10_fewestFrom_12 : decode cX10_fewestFrom 12 = .ok (.istore_n 3, 1) := by decide +kernel
theorem dX10_fewestFrom_13 : decode cX10_fewestFrom 13 = .ok (.iconst 0, 1) := by decide +kernel
theorem dX10_fewestFrom_14 : decode cX10_fewestFrom 14 = .ok (.istore 4, 2) := by decide +kernel
theorem dX10_fewestFrom_16 : decode cX10_fewestFrom 16 = .ok (.iload 4, 2) := by decide +kernel
theorem dX10_fewestFrom_18 : decode cX10_fewestFrom 18 = .ok (.iload_n 3, 1) := by decide +kernel
theorem dX10_fewestFrom_19 : decode cX10_fewestFrom 19 = .ok (.if_icmp .ge 81, 3) := by decide +kernel
theorem dX10_fewestFrom_22 : decode cX10_fewestFrom 22 = .ok (.aload_n 0, 1) := by decide +kernel
theorem dX10_fewestFrom_23 : decode cX10_fewestFrom 23 = .ok (.getfield 21, 3) := by decide +kernel
theorem dX10_fewestFrom_26 : decode cX10_fewestFrom 26 = .ok (.iload 4, 2) := by decide +kernel
theorem dX10_fewestFrom_28 : decode cX10_fewestFrom 28 = .ok (.iconst 0, 1) := by decide +kernel
theorem dX10_fewestFrom_29 : decode cX10_fewestFrom 29 = .ok (.iastore, 1) := by decide +kernel
theorem dX10_fewestFrom_30 : decode cX10_fewestFrom 30 = .ok (.iload_n 2, 1) := by decide +kernel
theorem dX10_fewestFrom_31 : decode cX10_fewestFrom 31 = .ok (.istore 5, 2) := by decide +kernel
theorem dX10_fewestFrom_33 : decode cX10_fewestFrom 33 = .ok (.iload 5, 2) := by decide +kernel
theorem dX10_fewestFrom_35 : decode cX10_fewestFrom 35 = .ok (.aload_n 1, 1) := by decide +kernel
theorem dX10_fewestFrom_36 : decode cX10_fewestFrom 36 = .ok (.getfield 50, 3) := by decide +kernel
theorem dX10_fewestFrom_39 : decode cX10_fewestFrom 39 = .ok (.if_icmp .ge 36, 3) := by decide +kernel
theorem dX10_fewestFrom_42 : decode cX10_fewestFrom 42 = .ok (.aload_n 0, 1) := by decide +kernel
theorem dX10_fewestFrom_43 : decode cX10_fewestFrom 43 = .ok (.getfield 21, 3) := by decide +kernel
theorem dX10_fewestFrom_46 : decode cX10_fewestFrom 46 = .ok (.iload 4, 2) := by decide +kernel
theorem dX10_fewestFrom_48 : decode cX10_fewestFrom 48 = .ok (.dup2, 1) := by decide +kernel
theorem dX10_fewestFrom_49 : decode cX10_fewestFrom 49 = .ok (.iaload, 1) := by decide +kernel
theorem dX10_fewestFrom_50 : decode cX10_fewestFrom 50 = .ok (.iload 4, 2) := by decide +kernel
theorem dX10_fewestFrom_52 : decode cX10_fewestFrom 52 = .ok (.iload 5, 2) := by decide +kernel
theorem dX10_fewestFrom_54 : decode cX10_fewestFrom 54 = .ok (.iload_n 2, 1) := by decide +kernel
theorem dX10_fewestFrom_55 : decode cX10_fewestFrom 55 = .ok (.isub, 1) := by decide +kernel
theorem dX10_fewestFrom_56 : decode cX10_fewestFrom 56 = .ok (.ishr, 1) := by decide +kernel
theorem dX10_fewestFrom_57 : decode cX10_fewestFrom 57 = .ok (.iconst 1, 1) := by decide +kernel
theorem dX10_fewestFrom_58 : decode cX10_fewestFrom 58 = .ok (.iand, 1) := by decide +kernel
theorem dX10_fewestFrom_59 : decode cX10_fewestFrom 59 = .ok (.aload_n 1, 1) := by decide +kernel
theorem dX10_fewestFrom_60 : decode cX10_fewestFrom 60 = .ok (.getfield 58, 3) := by decide +kernel
theorem dX10_fewestFrom_63 : decode cX10_fewestFrom 63 = .ok (.iload 5, 2) := by decide +kernel
theorem dX10_fewestFrom_65 : decode cX10_fewestFrom 65 = .ok (.iaload, 1) := by decide +kernel
theorem dX10_fewestFrom_66 : decode cX10_fewestFrom 66 = .ok (.imul, 1) := by decide +kernel
theorem dX10_fewestFrom_67 : decode cX10_fewestFrom 67 = .ok (.iadd, 1) := by decide +kernel
theorem dX10_fewestFrom_68 : decode cX10_fewestFrom 68 = .ok (.iastore, 1) := by decide +kernel
theorem dX10_fewestFrom_69 : decode cX10_fewestFrom 69 = .ok (.iinc 5 1, 3) := by decide +kernel
theorem dX10_fewestFrom_72 : decode cX10_fewestFrom 72 = .ok (.goto (-39), 3) := by decide +kernel
theorem dX10_fewestFrom_75 : decode cX10_fewestFrom 75 = .ok (.aload_n 0, 1) := by decide +kernel
theorem dX10_fewestFrom_76 : decode cX10_fewestFrom 76 = .ok (.getfield 24, 3) := by decide +kernel
theorem dX10_fewestFrom_79 : decode cX10_fewestFrom 79 = .ok (.iload 4, 2) := by decide +kernel
theorem dX10_fewestFrom_81 : decode cX10_fewestFrom 81 = .ok (.iload 4, 2) := by decide +kernel
theorem dX10_fewestFrom_83 : decode cX10_fewestFrom 83 = .ok (.ifCond .ne 7, 3) := by decide +kernel
theorem dX10_fewestFrom_86 : decode cX10_fewestFrom 86 = .ok (.iconst 0, 1) := by decide +kernel
theorem dX10_fewestFrom_87 : decode cX10_fewestFrom 87 = .ok (.goto 6, 3) := by decide +kernel
theorem dX10_fewestFrom_90 : decode cX10_fewestFrom 90 = .ok (.sipush 1000, 3) := by decide +kernel
theorem dX10_fewestFrom_93 : decode cX10_fewestFrom 93 = .ok (.iastore, 1) := by decide +kernel
theorem dX10_fewestFrom_94 : decode cX10_fewestFrom 94 = .ok (.iinc 4 1, 3) := by decide +kernel
theorem dX10_fewestFrom_97 : decode cX10_fewestFrom 97 = .ok (.goto (-81), 3) := by decide +kernel
theorem dX10_fewestFrom_100 : decode cX10_fewestFrom 100 = .ok (.iconst 0, 1) := by decide +kernel
theorem dX10_fewestFrom_101 : decode cX10_fewestFrom 101 = .ok (.istore 4, 2) := by decide +kernel
theorem dX10_fewestFrom_103 : decode cX10_fewestFrom 103 = .ok (.iload 4, 2) := by decide +kernel
theorem dX10_fewestFrom_105 : decode cX10_fewestFrom 105 = .ok (.bipush 8, 2) := by decide +kernel
theorem dX10_fewestFrom_107 : decode cX10_fewestFrom 107 = .ok (.if_icmp .ge 40, 3) := by decide +kernel
theorem dX10_fewestFrom_110 : decode cX10_fewestFrom 110 = .ok (.iload_n 3, 1) := by decide +kernel
theorem dX10_fewestFrom_111 : decode cX10_fewestFrom 111 = .ok (.iconst 1, 1) := by decide +kernel
theorem dX10_fewestFrom_112 : decode cX10_fewestFrom 112 = .ok (.isub, 1) := by decide +kernel
theorem dX10_fewestFrom_113 : decode cX10_fewestFrom 113 = .ok (.istore 5, 2) := by decide +kernel
theorem dX10_fewestFrom_115 : decode cX10_fewestFrom 115 = .ok (.iload 5, 2) := by decide +kernel
theorem dX10_fewestFrom_117 : decode cX10_fewestFrom 117 = .ok (.ifCond .lt 24, 3) := by decide +kernel
theorem dX10_fewestFrom_120 : decode cX10_fewestFrom 120 = .ok (.aload_n 0, 1) := by decide +kernel
theorem dX10_fewestFrom_121 : decode cX10_fewestFrom 121 = .ok (.getfield 24, 3) := by decide +kernel
theorem dX10_fewestFrom_124 : decode cX10_fewestFrom 124 = .ok (.iload 5, 2) := by decide +kernel
theorem dX10_fewestFrom_126 : decode cX10_fewestFrom 126 = .ok (.aload_n 0, 1) := by decide +kernel
theorem dX10_fewestFrom_127 : decode cX10_fewestFrom 127 = .ok (.iload 4, 2) := by decide +kernel
theorem dX10_fewestFrom_129 : decode cX10_fewestFrom 129 = .ok (.iload 5, 2) := by decide +kernel
theorem dX10_fewestFrom_131 : decode cX10_fewestFrom 131 = .ok (.invokevirtual 67, 3) := by decide +kernel
theorem dX10_fewestFrom_134 : decode cX10_fewestFrom 134 = .ok (.iastore, 1) := by decide +kernel
theorem dX10_fewestFrom_135 : decode cX10_fewestFrom 135 = .ok (.iinc 5 (-1), 3) := by decide +kernel
theorem dX10_fewestFrom_138 : decode cX10_fewestFrom 138 = .ok (.goto (-23), 3) := by decide +kernel
theorem dX10_fewestFrom_141 : decode cX10_fewestFrom 141 = .ok (.iinc 4 1, 3) := by decide +kernel
theorem dX10_fewestFrom_144 : decode cX10_fewestFrom 144 = .ok (.goto (-41), 3) := by decide +kernel
theorem dX10_fewestFrom_147 : decode cX10_fewestFrom 147 = .ok (.aload_n 0, 1) := by decide +kernel
theorem dX10_fewestFrom_148 : decode cX10_fewestFrom 148 = .ok (.getfield 24, 3) := by decide +kernel
theorem dX10_fewestFrom_151 : decode cX10_fewestFrom 151 = .ok (.iload_n 3, 1) := by decide +kernel
theorem dX10_fewestFrom_152 : decode cX10_fewestFrom 152 = .ok (.iconst 1, 1) := by decide +kernel
theorem dX10_fewestFrom_153 : decode cX10_fewestFrom 153 = .ok (.isub, 1) := by decide +kernel
theorem dX10_fewestFrom_154 : decode cX10_fewestFrom 154 = .ok (.iaload, 1) := by decide +kernel
theorem dX10_fewestFrom_155 : decode cX10_fewestFrom 155 = .ok (.ireturn, 1) := by decide +kernel
theorem dX10_bestWith_0 : decode cX10_bestWith 0 = .ok (.aload_n 0, 1) := by decide +kernel
theorem dX10_bestWith_1 : decode cX10_bestWith 1 = .ok (.getfield 24, 3) := by decide +kernel
theorem dX10_bestWith_4 : decode cX10_bestWith 4 = .ok (.iload_n 2, 1) := by decide +kernel
theorem dX10_bestWith_5 : decode cX10_bestWith 5 = .ok (.iaload, 1) := by decide +kernel
theorem dX10_bestWith_6 : decode cX10_bestWith 6 = .ok (.aload_n 0, 1) := by decide +kernel
theorem dX10_bestWith_7 : decode cX10_bestWith 7 = .ok (.getfield 18, 3) := by decide +kernel
theorem dX10_bestWith_10 : decode cX10_bestWith 10 = .ok (.iload_n 1, 1) := by decide +kernel
theorem dX10_bestWith_11 : decode cX10_bestWith 11 = .ok (.iaload, 1) := by decide +kernel
theorem dX10_bestWith_12 : decode cX10_bestWith 12 = .ok (.ifCond .le 7, 3) := by decide +kernel
theorem dX10_bestWith_15 : decode cX10_bestWith 15 = .ok (.iconst 1, 1) := by decide +kernel
theorem dX10_bestWith_16 : decode cX10_bestWith 16 = .ok (.goto 4, 3) := by decide +kernel
theorem dX10_bestWith_19 : decode cX10_bestWith 19 = .ok (.iconst 0, 1) := by decide +kernel
theorem dX10_bestWith_20 : decode cX10_bestWith 20 = .ok (.iadd, 1) := by decide +kernel
theorem dX10_bestWith_21 : decode cX10_bestWith 21 = .ok (.istore_n 3, 1) := by decide +kernel
theorem dX10_bestWith_22 : decode cX10_bestWith 22 = .ok (.iload_n 2, 1) := by decide +kernel
theorem dX10_bestWith_23 : decode cX10_bestWith 23 = .ok (.istore 4, 2) := by decide +kernel
theorem dX10_bestWith_25 : decode cX10_bestWith 25 = .ok (.iload 4, 2) := by decide +kernel
theorem dX10_bestWith_27 : decode cX10_bestWith 27 = .ok (.ifCond .le 53, 3) := by decide +kernel
theorem dX10_bestWith_30 : decode cX10_bestWith 30 = .ok (.aload_n 0, 1) := by decide +kernel
theorem dX10_bestWith_31 : decode cX10_bestWith 31 = .ok (.getfield 18, 3) := by decide +kernel
theorem dX10_bestWith_34 : decode cX10_bestWith 34 = .ok (.iload_n 1, 1) := by decide +kernel
theorem dX10_bestWith_35 : decode cX10_bestWith 35 = .ok (.iaload, 1) := by decide +kernel
theorem dX10_bestWith_36 : decode cX10_bestWith 36 = .ok (.aload_n 0, 1) := by decide +kernel
theorem dX10_bestWith_37 : decode cX10_bestWith 37 = .ok (.getfield 21, 3) := by decide +kernel
theorem dX10_bestWith_40 : decode cX10_bestWith 40 = .ok (.iload 4, 2) := by decide +kernel
theorem dX10_bestWith_42 : decode cX10_bestWith 42 = .ok (.iaload, 1) := by decide +kernel
theorem dX10_bestWith_43 : decode cX10_bestWith 43 = .ok (.iadd, 1) := by decide +kernel
theorem dX10_bestWith_44 : decode cX10_bestWith 44 = .ok (.aload_n 0, 1) := by decide +kernel
theorem dX10_bestWith_45 : decode cX10_bestWith 45 = .ok (.getfield 15, 3) := by decide +kernel
theorem dX10_bestWith_48 : decode cX10_bestWith 48 = .ok (.iload_n 1, 1) := by decide +kernel
theorem dX10_bestWith_49 : decode cX10_bestWith 49 = .ok (.iaload, 1) := by decide +kernel
theorem dX10_bestWith_50 : decode cX10_bestWith 50 = .ok (.if_icmp .gt 19, 3) := by decide +kernel
theorem dX10_bestWith_53 : decode cX10_bestWith 53 = .ok (.iload_n 3, 1) := by decide +kernel
theorem dX10_bestWith_54 : decode cX10_bestWith 54 = .ok (.aload_n 0, 1) := by decide +kernel
theorem dX10_bestWith_55 : decode cX10_bestWith 55 = .ok (.getfield 24, 3) := by decide +kernel
theorem dX10_bestWith_58 : decode cX10_bestWith 58 = .ok (.iload_n 2, 1) := by decide +kernel
theorem dX10_bestWith_59 : decode cX10_bestWith 59 = .ok (.iload 4, 2) := by decide +kernel
theorem dX10_bestWith_61 : decode cX10_bestWith 61 = .ok (.ixor, 1) := by decide +kernel
theorem dX10_bestWith_62 : decode cX10_bestWith 62 = .ok (.iaload, 1) := by decide +kernel
theorem dX10_bestWith_63 : decode cX10_bestWith 63 = .ok (.iconst 1, 1) := by decide +kernel
theorem dX10_bestWith_64 : decode cX10_bestWith 64 = .ok (.iadd, 1) := by decide +kernel
theorem dX10_bestWith_65 : decode cX10_bestWith 65 = .ok (.invokestatic 70, 3) := by decide +kernel
theorem dX10_bestWith_68 : decode cX10_bestWith 68 = .ok (.istore_n 3, 1) := by decide +kernel
theorem dX10_bestWith_69 : decode cX10_bestWith 69 = .ok (.iload 4, 2) := by decide +kernel
theorem dX10_bestWith_71 : decode cX10_bestWith 71 = .ok (.iconst 1, 1) := by decide +kernel
theorem dX10_bestWith_72 : decode cX10_bestWith 72 = .ok (.isub, 1) := by decide +kernel
theorem dX10_bestWith_73 : decode cX10_bestWith 73 = .ok (.iload_n 2, 1) := by decide +kernel
theorem dX10_bestWith_74 : decode cX10_bestWith 74 = .ok (.iand, 1) := by decide +kernel
theorem dX10_bestWith_75 : decode cX10_bestWith 75 = .ok (.istore 4, 2) := by decide +kernel
theorem dX10_bestWith_77 : decode cX10_bestWith 77 = .ok (.goto (-52), 3) := by decide +kernel
theorem dX10_bestWith_80 : decode cX10_bestWith 80 = .ok (.iload_n 3, 1) := by decide +kernel
theorem dX10_bestWith_81 : decode cX10_bestWith 81 = .ok (.ireturn, 1) := by decide +kernel
