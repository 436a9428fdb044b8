/-! decode rows of the class, the reference and the JDK -/
theorem dX0_init_0 : decode cX0_init 0 = .ok (.aload_n 0, 1) := by decide +kernel
theorem dX0_init_1 : decode cX0_init 1 = .ok (.invokespecial 3, 3) := by decide +kernel
theorem dX0_init_4 : decode cX0_init 4 = .ok (.aload_n 0, 1) := by decide +kernel
theorem dX0_init_5 : decode cX0_init 5 = .ok (.bipush 8, 2) := by decide +kernel
theorem dX0_init_7 : decode cX0_init 7 = .ok (.anewarray 9, 3) := by decide +kernel
theorem dX0_init_10 : decode cX0_init 10 = .ok (.putfield 11, 3) := by decide +kernel
theorem dX0_init_13 : decode cX0_init 13 = .ok (.iconst 0, 1) := by decide +kernel
theorem dX0_init_14 : decode cX0_init 14 = .ok (.istore_n 1, 1) := by decide +kernel
theorem dX0_init_15 : decode cX0_init 15 = .ok (.iload_n 1, 1) := by decide +kernel
theorem dX0_init_16 : decode cX0_init 16 = .ok (.bipush 8, 2) := by decide +kernel
theorem dX0_init_18 : decode cX0_init 18 = .ok (.if_icmp .ge 25, 3) := by decide +kernel
theorem dX0_init_21 : decode cX0_init 21 = .ok (.aload_n 0, 1) := by decide +kernel
theorem dX0_init_22 : decode cX0_init 22 = .ok (.getfield 11, 3) := by decide +kernel
theorem dX0_init_25 : decode cX0_init 25 = .ok (.iload_n 1, 1) := by decide +kernel
theorem dX0_init_26 : decode cX0_init 26 = .ok (.new 9, 3) := by decide +kernel
theorem dX0_init_29 : decode cX0_init 29 = .ok (.dup, 1) := by decide +kernel
theorem dX0_init_30 : decode cX0_init 30 = .ok (.sipush 300, 3) := by decide +kernel
theorem dX0_init_33 : decode cX0_init 33 = .ok (.invokespecial 17, 3) := by decide +kernel
theorem dX0_init_36 : decode cX0_init 36 = .ok (.aastore, 1) := by decide +kernel
theorem dX0_init_37 : decode cX0_init 37 = .ok (.iinc 1 1, 3) := by decide +kernel
theorem dX0_init_40 : decode cX0_init 40 = .ok (.goto (-25), 3) := by decide +kernel
theorem dX0_init_43 : decode cX0_init 43 = .ok (.aload_n 0, 1) := by decide +kernel
theorem dX0_init_44 : decode cX0_init 44 = .ok (.new 20, 3) := by decide +kernel
theorem dX0_init_47 : decode cX0_init 47 = .ok (.dup, 1) := by decide +kernel
theorem dX0_init_48 : decode cX0_init 48 = .ok (.invokespecial 22, 3) := by decide +kernel
theorem dX0_init_51 : decode cX0_init 51 = .ok (.putfield 23, 3) := by decide +kernel
theorem dX0_init_54 : decode cX0_init 54 = .ok (.return_, 1) := by decide +kernel
theorem dX0_text_0 : decode cX0_text 0 = .ok (.aload_n 0, 1) := by decide +kernel
theorem dX0_text_1 : decode cX0_text 1 = .ok (.getfield 11, 3) := by decide +kernel
theorem dX0_text_4 : decode cX0_text 4 = .ok (.iload_n 1, 1) := by decide +kernel
theorem dX0_text_5 : decode cX0_text 5 = .ok (.bipush 8, 2) := by decide +kernel
theorem dX0_text_7 : decode cX0_text 7 = .ok (.invokestatic 27, 3) := by decide +kernel
theorem dX0_text_10 : decode cX0_text 10 = .ok (.aaload, 1) := by decide +kernel
theorem dX0_text_11 : decode cX0_text 11 = .ok (.areturn, 1) := by decide +kernel
theorem dX0_exchange_0 : decode cX0_exchange 0 = .ok (.aload_n 0, 1) := by decide +kernel
theorem dX0_exchange_1 : decode cX0_exchange 1 = .ok (.iload_n 1, 1) := by decide +kernel
theorem dX0_exchange_2 : decode cX0_exchange 2 = .ok (.invokevirtual 33, 3) := by decide +kernel
theorem dX0_exchange_5 : decode cX0_exchange 5 = .ok (.astore_n 3, 1) := by decide +kernel
theorem dX0_exchange_6 : decode cX0_exchange 6 = .ok (.aload_n 0, 1) := by decide +kernel
theorem dX0_exchange_7 : decode cX0_exchange 7 = .ok (.getfield 11, 3) := by decide +kernel
theorem dX0_exchange_10 : decode cX0_exchange 10 = .ok (.iload_n 1, 1) := by decide +kernel
theorem dX0_exchange_11 : decode cX0_exchange 11 = .ok (.bipush 8, 2) := by decide +kernel
theorem dX0_exchange_13 : decode cX0_exchange 13 = .ok (.invokestatic 27, 3) := by decide +kernel
theorem dX0_exchange_16 : decode cX0_exchange 16 = .ok (.aload_n 0, 1) := by decide +kernel
theorem dX0_exchange_17 : decode cX0_exchange 17 = .ok (.iload_n 2, 1) := by decide +kernel
theorem dX0_exchange_18 : decode cX0_exchange 18 = .ok (.invokevirtual 33, 3) := by decide +kernel
theorem dX0_exchange_21 : decode cX0_exchange 21 = .ok (.aastore, 1) := by decide +kernel
theorem dX0_exchange_22 : decode cX0_exchange 22 = .ok (.aload_n 0, 1) := by decide +kernel
theorem dX0_exchange_23 : decode cX0_exchange 23 = .ok (.getfield 11, 3) := by decide +kernel
theorem dX0_exchange_26 : decode cX0_exchange 26 = .ok (.iload_n 2, 1) := by decide +kernel
theorem dX0_exchange_27 : decode cX0_exchange 27 = .ok (.bipush 8, 2) := by decide +kernel
theorem dX0_exchange_29 : decode cX0_exchange 29 = .ok (.invokestatic 27, 3) := by decide +kernel
theorem dX0_exchange_32 : decode cX0_exchange 32 = .ok (.aload_n 3, 1) := by decide +kernel
theorem dX0_exchange_33 : decode cX0_exchange 33 = .ok (.aastore, 1) := by decide +kernel
theorem dX0_exchange_34 : decode cX0_exchange 34 = .ok (.return_, 1) := by decide +kernel
theorem dX0_become_0 : decode cX0_become 0 = .ok (.iconst 0, 1) := by decide +kernel
theorem dX0_become_1 : decode cX0_become 1 = .ok (.istore_n 2, 1) := by decide +kernel
theorem dX0_become_2 : decode cX0_become 2 = .ok (.iload_n 2, 1) := by decide +kernel
theorem dX0_become_3 : decode cX0_become 3 = .ok (.bipush 8, 2) := by decide +kernel
theorem dX0_become_5 : decode cX0_become 5 = .ok (.if_icmp .ge 24, 3) := by decide +kernel
theorem dX0_become_8 : decode cX0_become 8 = .ok (.aload_n 0, 1) := by decide +kernel
theorem dX0_become_9 : decode cX0_become 9 = .ok (.getfield 11, 3) := by decide +kernel
theorem dX0_become_12 : decode cX0_become 12 = .ok (.iload_n 2, 1) := by decide +kernel
theorem dX0_become_13 : decode cX0_become 13 = .ok (.aaload, 1) := by decide +kernel
theorem dX0_become_14 : decode cX0_become 14 = .ok (.aload_n 1, 1) := by decide +kernel
theorem dX0_become_15 : decode cX0_become 15 = .ok (.getfield 11, 3) := by decide +kernel
theorem dX0_become_18 : decode cX0_become 18 = .ok (.iload_n 2, 1) := by decide +kernel
theorem dX0_become_19 : decode cX0_become 19 = .ok (.aaload, 1) := by decide +kernel
theorem dX0_become_20 : decode cX0_become 20 = .ok (.invokevirtual 37, 3) := by decide +kernel
theorem dX0_become_23 : decode cX0_become 23 = .ok (.iinc 2 1, 3) := by decide +kernel
theorem dX0_become_26 : decode cX0_become 26 = .ok (.goto (-24), 3) := by decide +kernel
theorem dX0_become_29 : decode cX0_become 29 = .ok (.aload_n 0, 1) := by decide +kernel
theorem dX0_become_30 : decode cX0_become 30 = .ok (.getfield 23, 3) := by decide +kernel
theorem dX0_become_33 : decode cX0_become 33 = .ok (.aload_n 1, 1) := by decide +kernel
theorem dX0_become_34 : decode cX0_become 34 = .ok (.getfield 23, 3) := by decide +kernel
theorem dX0_become_37 : decode cX0_become 37 = .ok (.invokevirtual 41, 3) := by decide +kernel
theorem dX0_become_40 : decode cX0_become 40 = .ok (.return_, 1) := by decide +kernel
theorem dX0_sizeOfTexts_0 : decode cX0_sizeOfTexts 0 = .ok (.iconst 0, 1) := by decide +kernel
theorem dX0_sizeOfTexts_1 : decode cX0_sizeOfTexts 1 = .ok (.istore_n 1, 1) := by decide +kernel
theorem dX0_sizeOfTexts_2 : decode cX0_sizeOfTexts 2 = .ok (.iconst 0, 1) := by decide +kernel
theorem dX0_sizeOfTexts_3 : decode cX0_sizeOfTexts 3 = .ok (.istore_n 2, 1) := by decide +kernel
theorem dX0_sizeOfTexts_4 : decode cX0_sizeOfTexts 4 = .ok (.iload_n 2, 1) := by decide +kernel
theorem dX0_sizeOfTexts_5 : decode cX0_sizeOfTexts 5 = .ok (.bipush 8, 2) := by decide +kernel
theorem dX0_sizeOfTexts_7 : decode cX0_sizeOfTexts 7 = .ok (.if_icmp .ge 21, 3) := by decide +kernel
theorem dX0_sizeOfTexts_10 : decode cX0_sizeOfTexts 10 = .ok (.iload_n 1, 1) := by decide +kernel
theorem dX0_sizeOfTexts_11 : decode cX0_sizeOfTexts 11 = .ok (.aload_n 0, 1) := by decide +kernel
theorem dX0_sizeOfTexts_12 : decode cX0_sizeOfTexts 12 = .ok (.getfield 11, 3) := by decide +kernel
theorem dX0_sizeOfTexts_15 : decode cX0_sizeOfTexts 15 = .ok (.iload_n 2, 1) := by decide +kernel
theorem dX0_sizeOfTexts_16 : decode cX0_sizeOfTexts 16 = .ok (.aaload, 1) := by decide +kernel
theorem dX0_sizeOfTexts_17 : decode cX0_sizeOfTexts 17 = .ok (.invokevirtual 44, 3) := by decide +kernel
theorem dX0_sizeOfTexts_20 : decode cX0_sizeOfTexts 20 = .ok (.iadd, 1) := by decide +kernel
theorem dX0_sizeOfTexts_21 : decode cX0_sizeOfTexts 21 = .ok (.istore_n 1, 1) := by decide +kernel
theorem dX0_sizeOfTexts_22 : decode cX0_sizeOfTexts 22 = .ok (.iinc 2 1, 3) := by decide +kernel
theorem dX0_sizeOfTexts_25 : decode cX0_sizeOfTexts 25 = .ok (.goto (-21), 3) := by decide +kernel
theorem dX0_sizeOfTexts_28 : decode cX0_sizeOfTexts 28 = .ok (.iload_n 1, 1) := by decide +kernel
theorem dX0_sizeOfTexts_29 : decode cX0_sizeOfTexts 29 = .ok (.ireturn, 1) := by decide +kernel
theorem dX1_init_0 : decode cX1_init 0 = .ok (.aload_n 0, 1) := by decide +kernel
theorem dX1_init_1 : decode cX1_init 1 = .ok (.invokespecial 3, 3) := by decide +kernel
theorem dX1_init_4 : decode cX1_init 4 = .ok (.aload_n 0, 1) := by decide +kernel
theorem dX1_init_5 : decode cX1_init 5 = .ok (.new 9, 3) := by decide +kernel
theorem dX1_init_8 : decode cX1_init 8 = .ok (.dup, 1) := by decide +kernel
theorem dX1_init_9 : decode cX1_init 9 = .ok (.sipush 300, 3) := by decide +kernel
theorem dX1_init_12 : decode cX1_init 12 = .ok (.invokespecial 11, 3) := by decide +kernel
theorem dX1_init_15 : decode cX1_init 15 = .ok (.putfield 14, 3) := by decide +kernel
theorem dX1_init_18 : decode cX1_init 18 = .ok (.aload_n 0, 1) := by decide +kernel
theorem dX1_init_19 : decode cX1_init 19 = .ok (.sipush 301, 3) := by decide +kernel
theorem dX1_init_22 : decode cX1_init 22 = .ok (.newarray .int, 2) := by decide +kernel
theorem dX1_init_24 : decode cX1_init 24 = .ok (.putfield 20, 3) := by decide +kernel
theorem dX1_init_27 : decode cX1_init 27 = .ok (.return_, 1) := by decide +kernel
theorem dX1_size_0 : decode cX1_size 0 = .ok (.aload_n 0, 1) := by decide +kernel
theorem dX1_size_1 : decode cX1_size 1 = .ok (.getfield 24, 3) := by decide +kernel
theorem dX1_size_4 : decode cX1_size 4 = .ok (.ireturn, 1) := by decide +kernel
theorem dX1_partAnew_0 : decode cX1_partAnew 0 = .ok (.aload_n 0, 1) := by decide +kernel
theorem dX1_partAnew_1 : decode cX1_partAnew 1 = .ok (.getfield 14, 3) := by decide +kernel
theorem dX1_partAnew_4 : decode cX1_partAnew 4 = .ok (.invokevirtual 28, 3) := by decide +kernel
theorem dX1_partAnew_7 : decode cX1_partAnew 7 = .ok (.aload_n 0, 1) := by decide +kernel
theorem dX1_partAnew_8 : decode cX1_partAnew 8 = .ok (.iconst 0, 1) := by decide +kernel
theorem dX1_partAnew_9 : decode cX1_partAnew 9 = .ok (.putfield 24, 3) := by decide +kernel
theorem dX1_partAnew_12 : decode cX1_partAnew 12 = .ok (.iconst 0, 1) := by decide +kernel
theorem dX1_partAnew_13 : decode cX1_partAnew 13 = .ok (.istore 4, 2) := by decide +kernel
theorem dX1_partAnew_15 : decode cX1_partAnew 15 = .ok (.iload 4, 2) := by decide +kernel
theorem dX1_partAnew_17 : decode cX1_partAnew 17 = .ok (.aload_n 1, 1) := by decide +kernel
theorem dX1_partAnew_18 : decode cX1_partAnew 18 = .ok (.invokevirtual 31, 3) := by decide +kernel
theorem dX1_partAnew_21 : decode cX1_partAnew 21 = .ok (.if_icmp .ge 53, 3) := by decide +kernel
theorem dX1_partAnew_24 : decode cX1_partAnew 24 = .ok (.aload_n 1, 1) := by decide +kernel
theorem dX1_partAnew_25 : decode cX1_partAnew 25 = .ok (.iload 4, 2) := by decide +kernel
theorem dX1_partAnew_27 : decode cX1_partAnew 27 = .ok (.invokevirtual 34, 3) := by decide +kernel
theorem dX1_partAnew_30 : decode cX1_partAnew 30 = .ok (.iload_n 2, 1) := by decide +kernel
theorem dX1_partAnew_31 : decode cX1_partAnew 31 = .ok (.if_icmp .ne 24, 3) := by decide +kernel
theorem dX1_partAnew_34 : decode cX1_partAnew 34 = .ok (.iload_n 3, 1) := by decide +kernel
theorem dX1_partAnew_35 : decode cX1_partAnew 35 = .ok (.ifCond .le 13, 3) := by decide +kernel
theorem dX1_partAnew_38 : decode cX1_partAnew 38 = .ok (.aload_n 0, 1) := by decide +kernel
theorem dX1_partAnew_39 : decode cX1_partAnew 39 = .ok (.getfield 24, 3) := by decide +kernel
theorem dX1_partAnew_42 : decode cX1_partAnew 42 = .ok (.iload_n 3, 1) := by decide +kernel
theorem dX1_partAnew_43 : decode cX1_partAnew 43 = .ok (.iconst 1, 1) := by decide +kernel
theorem dX1_partAnew_44 : decode cX1_partAnew 44 = .ok (.isub, 1) := by decide +kernel
theorem dX1_partAnew_45 : decode cX1_partAnew 45 = .ok (.if_icmp .ge 10, 3) := by decide +kernel
theorem dX1_partAnew_48 : decode cX1_partAnew 48 = .ok (.aload_n 0, 1) := by decide +kernel
theorem dX1_partAnew_49 : decode cX1_partAnew 49 = .ok (.invokevirtual 38, 3) := by decide +kernel
theorem dX1_partAnew_52 : decode cX1_partAnew 52 = .ok (.goto 16, 3) := by decide +kernel
theorem dX1_partAnew_55 : decode cX1_partAnew 55 = .ok (.aload_n 0, 1) := by decide +kernel
theorem dX1_partAnew_56 : decode cX1_partAnew 56 = .ok (.getfield 14, 3) := by decide +kernel
theorem dX1_partAnew_59 : decode cX1_partAnew 59 = .ok (.aload_n 1, 1) := by decide +kernel
theorem dX1_partAnew_60 : decode cX1_partAnew 60 = .ok (.iload 4, 2) := by decide +kernel
theorem dX1_partAnew_62 : decode cX1_partAnew 62 = .ok (.invokevirtual 34, 3) := by decide +kernel
theorem dX1_partAnew_65 : decode cX1_partAnew 65 = .ok (.invokevirtual 41, 3) := by decide +kernel
theorem dX1_partAnew_68 : decode cX1_partAnew 68 = .ok (.iinc 4 1, 3) := by decide +kernel
theorem dX1_partAnew_71 : decode cX1_partAnew 71 = .ok (.goto (-56), 3) := by decide +kernel
theorem dX1_partAnew_74 : decode cX1_partAnew 74 = .ok (.aload_n 0, 1) := by decide +kernel
theorem dX1_partAnew_75 : decode cX1_partAnew 75 = .ok (.invokevirtual 38, 3) := by decide +kernel
theorem dX1_partAnew_78 : decode cX1_partAnew 78 = .ok (.iload_n 3, 1) := by decide +kernel
theorem dX1_partAnew_79 : decode cX1_partAnew 79 = .ok (.ifCond .ne 15, 3) := by decide +kernel
theorem dX1_partAnew_82 : decode cX1_partAnew 82 = .ok (.aload_n 0, 1) := by decide +kernel
theorem dX1_partAnew_83 : decode cX1_partAnew 83 = .ok (.getfield 24, 3) := by decide +kernel
theorem dX1_partAnew_86 : decode cX1_partAnew 86 = .ok (.iconst 1, 1) := by decide +kernel
theorem dX1_partAnew_87 : decode cX1_partAnew 87 = .ok (.if_icmp .le 7, 3) := by decide +kernel
theorem dX1_partAnew_90 : decode cX1_partAnew 90 = .ok (.aload_n 0, 1) := by decide +kernel
theorem dX1_partAnew_91 : decode cX1_partAnew 91 = .ok (.invokevirtual 44, 3) := by decide +kernel
theorem dX1_partAnew_94 : decode cX1_partAnew 94 = .ok (.return_, 1) := by decide +kernel
theorem dX1_addPieceTo_0 : decode cX1_addPieceTo 0 = .ok (.aload_n 1, 1) := by decide +kernel
theorem dX1_addPieceTo_1 : decode cX1_addPieceTo 1 = .ok (.aload_n 0, 1) := by decide +kernel
theorem dX1_addPieceTo_2 : decode cX1_addPieceTo 2 = .ok (.getfield 14, 3) := by decide +kernel
theorem dX1_addPieceTo_5 : decode cX1_addPieceTo 5 = .ok (.aload_n 0, 1) := by decide +kernel
theorem dX1_addPieceTo_6 : decode cX1_addPieceTo 6 = .ok (.iload_n 2, 1) := by decide +kernel
theorem dX1_addPieceTo_7 : decode cX1_addPieceTo 7 = .ok (.invokevirtual 47, 3) := by decide +kernel
theorem dX1_addPieceTo_10 : decode cX1_addPieceTo 10 = .ok (.aload_n 0, 1) := by decide +kernel
theorem dX1_addPieceTo_11 : decode cX1_addPieceTo 11 = .ok (.iload_n 2, 1) := by decide +kernel
theorem dX1_addPieceTo_12 : decode cX1_addPieceTo 12 = .ok (.invokevirtual 50, 3) := by decide +kernel
theorem dX1_addPieceTo_15 : decode cX1_addPieceTo 15 = .ok (.invokevirtual 53, 3) := by decide +kernel
theorem dX1_addPieceTo_18 : decode cX1_addPieceTo 18 = .ok (.return_, 1) := by decide +kernel
theorem dX1_addJoinedTo_0 : decode cX1_addJoinedTo 0 = .ok (.iconst 0, 1) := by decide +kernel
theorem dX1_addJoinedTo_1 : decode cX1_addJoinedTo 1 = .ok (.istore_n 3, 1) := by decide +kernel
theorem dX1_addJoinedTo_2 : decode cX1_addJoinedTo 2 = .ok (.iload_n 3, 1) := by decide +kernel
theorem dX1_addJoinedTo_3 : decode cX1_addJoinedTo 3 = .ok (.aload_n 0, 1) := by decide +kernel
theorem dX1_addJoinedTo_4 : decode cX1_addJoinedTo 4 = .ok (.getfield 24, 3) := by decide +kernel
theorem dX1_addJoinedTo_7 : decode cX1_addJoinedTo 7 = .ok (.if_icmp .ge 24, 3) := by decide +kernel
theorem dX1_addJoinedTo_10 : decode cX1_addJoinedTo 10 = .ok (.iload_n 3, 1) := by decide +kernel
theorem dX1_addJoinedTo_11 : decode cX1_addJoinedTo 11 = .ok (.ifCond .le 8, 3) := by decide +kernel
theorem dX1_addJoinedTo_14 : decode cX1_addJoinedTo 14 = .ok (.aload_n 1, 1) := by decide +kernel
theorem dX1_addJoinedTo_15 : decode cX1_addJoinedTo 15 = .ok (.iload_n 2, 1) := by decide +kernel
theorem dX1_addJoinedTo_16 : decode cX1_addJoinedTo 16 = .ok (.invokevirtual 41, 3) := by decide +kernel
theorem dX1_addJoinedTo_19 : decode cX1_addJoinedTo 19 = .ok (.aload_n 0, 1) := by decide +kernel
theorem dX1_addJoinedTo_20 : decode cX1_addJoinedTo 20 = .ok (.aload_n 1, 1) := by decide +kernel
theorem dX1_addJoinedTo_21 : decode cX1_addJoinedTo 21 = .ok (.iload_n 3, 1) := by decide +kernel
theorem dX1_addJoinedTo_22 : decode cX1_addJoinedTo 22 = .ok (.invokevirtual 57, 3) := by decide +kernel
theorem dX1_addJoinedTo_25 : decode cX1_addJoinedTo 25 = .ok (.iinc 3 1, 3) := by decide +kernel
theorem dX1_addJoinedTo_28 : decode cX1_addJoinedTo 28 = .ok (.goto (-26), 3) := by decide +kernel
theorem dX1_addJoinedTo_31 : decode cX1_addJoinedTo 31 = .ok (.return_, 1) := by decide +kernel
theorem dX1_sizeJoined_0 : decode cX1_sizeJoined 0 = .ok (.aload_n 0, 1) := by decide +kernel
theorem dX1_sizeJoined_1 : decode cX1_sizeJoined 1 = .ok (.getfield 14, 3) := by decide +kernel
theorem dX1_sizeJoined_4 : decode cX1_sizeJoined 4 = .ok (.invokevirtual 31, 3) := by decide +kernel
theorem dX1_sizeJoined_7 : decode cX1_sizeJoined 7 = .ok (.iconst 0, 1) := by decide +kernel
theorem dX1_sizeJoined_8 : decode cX1_sizeJoined 8 = .ok (.aload_n 0, 1) := by decide +kernel
theorem dX1_sizeJoined_9 : decode cX1_sizeJoined 9 = .ok (.getfield 24, 3) := by decide +kernel
theorem dX1_sizeJoined_12 : decode cX1_sizeJoined 12 = .ok (.iconst 1, 1) := by decide +kernel
theorem dX1_sizeJoined_13 : decode cX1_sizeJoined 13 = .ok (.isub, 1) := by decide +kernel
theorem dX1_sizeJoined_14 : decode cX1_sizeJoined 14 = .ok (.invokestatic 61, 3) := by decide +kernel
theorem dX1_sizeJoined_17 : decode cX1_sizeJoined 17 = .ok (.iadd, 1) := by decide +kernel
theorem dX1_sizeJoined_18 : decode cX1_sizeJoined 18 = .ok (.ireturn, 1) := by decide +kernel
theorem dX1_become_0 : decode cX1_become 0 = .ok (.aload_n 0, 1) := by decide +kernel
theorem dX1_become_1 : decode cX1_become 1 = .ok (.getfield 14, 3) := by decide +kernel
theorem dX1_become_4 : decode cX1_become 4 = .ok (.aload_n 1, 1) := by decide +kernel
theorem dX1_become_5 : decode cX1_become 5 = .ok (.getfield 14, 3) := by decide +kernel
theorem dX1_become_8 : decode cX1_become 8 = .ok (.invokevirtual 67, 3) := by decide +kernel
theorem dX1_become_11 : decode cX1_become 11 = .ok (.aload_n 0, 1) := by decide +kernel
theorem dX1_become_12 : decode cX1_become 12 = .ok (.iconst 0, 1) := by decide +kernel
theorem dX1_become_13 : decode cX1_become 13 = .ok (.putfield 24, 3) := by decide +kernel
theorem dX1_become_16 : decode cX1_become 16 = .ok (.iconst 0, 1) := by decide +kernel
theorem dX1_become_17 : decode cX1_become 17 = .ok (.istore_n 2, 1) := by decide +kernel
theorem dX1_become_18 : decode cX1_become 18 = .ok (.iload_n 2, 1) := by decide +kernel
theorem dX1_become_19 : decode cX1_become 19 = .ok (.aload_n 1, 1) := by decide +kernel
theorem dX1_become_20 : decode cX1_become 20 = .ok (.getfield 24, 3) := by decide +kernel
theorem dX1_become_23 : decode cX1_become 23 = .ok (.if_icmp .ge 18, 3) := by decide +kernel
theorem dX1_become_26 : decode cX1_become 26 = .ok (.aload_n 0, 1) := by decide +kernel
theorem dX1_become_27 : decode cX1_become 27 = .ok (.aload_n 1, 1) := by decide +kernel
theorem dX1_become_28 : decode cX1_become 28 = .ok (.iload_n 2, 1) := by decide +kernel
theorem dX1_become_29 : decode cX1_become 29 = .ok (.invokevirtual 50, 3) := by decide +kernel
theorem dX1_become_32 : decode cX1_become 32 = .ok (.invokevirtual 71, 3) := by decide +kernel
theorem dX1_become_35 : decode cX1_become 35 = .ok (.iinc 2 1, 3) := by decide +kernel
theorem dX1_become_38 : decode cX1_become 38 = .ok (.goto (-20), 3) := by decide +kernel
theorem dX1_become_41 : decode cX1_become 41 = .ok (.return_, 1) := by decide +kernel
theorem dX1_foldAll_0 : decode cX1_foldAll 0 = .ok (.lload_n 1, 1) := by decide +kernel
theorem dX1_foldAll_1 : decode cX1_foldAll 1 = .ok (.lstore_n 3, 1) := by decide +kernel
theorem dX1_foldAll_2 : decode cX1_foldAll 2 = .ok (.iconst 0, 1) := by decide +kernel
theorem dX1_foldAll_3 : decode cX1_foldAll 3 = .ok (.istore 5, 2) := by decide +kernel
theorem dX1_foldAll_5 : decode cX1_foldAll 5 = .ok (.iload 5, 2) := by decide +kernel
theorem dX1_foldAll_7 : decode cX1_foldAll 7 = .ok (.aload_n 0, 1) := by decide +kernel
theorem dX1_foldAll_8 : decode cX1_foldAll 8 = .ok (.getfield 24, 3) := by decide +kernel
theorem dX1_foldAll_11 : decode cX1_foldAll 11 = .ok (.if_icmp .ge 30, 3) := by decide +kernel
theorem dX1_foldAll_14 : decode cX1_foldAll 14 = .ok (.aload_n 0, 1) := by decide +kernel
theorem dX1_foldAll_15 : decode cX1_foldAll 15 = .ok (.getfield 14, 3) := by decide +kernel
theorem dX1_foldAll_18 : decode cX1_foldAll 18 = .ok (.lload_n 3, 1) := by decide +kernel
theorem dX1_foldAll_19 : decode cX1_foldAll 19 = .ok (.aload_n 0, 1) := by decide +kernel
theorem dX1_foldAll_20 : decode cX1_foldAll 20 = .ok (.iload 5, 2) := by decide +kernel
theorem dX1_foldAll_22 : decode cX1_foldAll 22 = .ok (.invokevirtual 47, 3) := by decide +kernel
theorem dX1_foldAll_25 : decode cX1_foldAll 25 = .ok (.aload_n 0, 1) := by decide +kernel
theorem dX1_foldAll_26 : decode cX1_foldAll 26 = .ok (.iload 5, 2) := by decide +kernel
theorem dX1_foldAll_28 : decode cX1_foldAll 28 = .ok (.invokevirtual 50, 3) := by decide +kernel
theorem dX1_foldAll_31 : decode cX1_foldAll 31 = .ok (.invokevirtual 74, 3) := by decide +kernel
theorem dX1_foldAll_34 : decode cX1_foldAll 34 = .ok (.lstore_n 3, 1) := by decide +kernel
theorem dX1_foldAll_35 : decode cX1_foldAll 35 = .ok (.iinc 5 1, 3) := by decide +kernel
theorem dX1_foldAll_38 : decode cX1_foldAll 38 = .ok (.goto (-33), 3) := by decide +kernel
theorem dX1_foldAll_41 : decode cX1_foldAll 41 = .ok (.lload_n 3, 1) := by decide +kernel
theorem dX1_foldAll_42 : decode cX1_foldAll 42 = .ok (.lreturn, 1) := by decide +kernel
theorem dX1_endPiece_0 : decode cX1_endPiece 0 = .ok (.aload_n 0, 1) := by decide +kernel
theorem dX1_endPiece_1 : decode cX1_endPiece 1 = .ok (.aload_n 0, 1) := by decide +kernel
theorem dX1_endPiece_2 : decode cX1_endPiece 2 = .ok (.getfield 14, 3) := by decide +kernel
theorem dX1_endPiece_5 : decode cX1_endPiece 5 = .ok (.invokevirtual 31, 3) := by decide +kernel
theorem dX1_endPiece_8 : decode cX1_endPiece 8 = .ok (.invokevirtual 71, 3) := by decide +kernel
theorem dX1_endPiece_11 : decode cX1_endPiece 11 = .ok (.return_, 1) := by decide +kernel
theorem dX1_addEnd_0 : decode cX1_addEnd 0 = .ok (.aload_n 0, 1) := by decide +kernel
theorem dX1_addEnd_1 : decode cX1_addEnd 1 = .ok (.getfield 24, 3) := by decide +kernel
theorem dX1_addEnd_4 : decode cX1_addEnd 4 = .ok (.aload_n 0, 1) := by decide +kernel
theorem dX1_addEnd_5 : decode cX1_addEnd 5 = .ok (.getfield 20, 3) := by decide +kernel
theorem dX1_addEnd_8 : decode cX1_addEnd 8 = .ok (.arraylength, 1) := by decide +kernel
theorem dX1_addEnd_9 : decode cX1_addEnd 9 = .ok (.if_icmp .ge 23, 3) := by decide +kernel
theorem dX1_addEnd_12 : decode cX1_addEnd 12 = .ok (.aload_n 0, 1) := by decide +kernel
theorem dX1_addEnd_13 : decode cX1_addEnd 13 = .ok (.getfield 20, 3) := by decide +kernel
theorem dX1_addEnd_16 : decode cX1_addEnd 16 = .ok (.aload_n 0, 1) := by decide +kernel
theorem dX1_addEnd_17 : decode cX1_addEnd 17 = .ok (.getfield 24, 3) := by decide +kernel
theorem dX1_addEnd_20 : decode cX1_addEnd 20 = .ok (.iload_n 1, 1) := by decide +kernel
theorem dX1_addEnd_21 : decode cX1_addEnd 21 = .ok (.iastore, 1) := by decide +kernel
theorem dX1_addEnd_22 : decode cX1_addEnd 22 = .ok (.aload_n 0, 1) := by decide +kernel
theorem dX1_addEnd_23 : decode cX1_addEnd 23 = .ok (.dup, 1) := by decide +kernel
theorem dX1_addEnd_24 : decode cX1_addEnd 24 = .ok (.getfield 24, 3) := by decide +kernel
theorem dX1_addEnd_27 : decode cX1_addEnd 27 = .ok (.iconst 1, 1) := by decide +kernel
theorem dX1_addEnd_28 : decode cX1_addEnd 28 = .ok (.iadd, 1) := by decide +kernel
theorem dX1_addEnd_29 : decode cX1_addEnd 29 = .ok (.putfield 24, 3) := by decide +kernel
theorem dX1_addEnd_32 : decode cX1_addEnd 32 = .ok (.return_, 1) := by decide +kernel
theorem dX1_leaveOutEmptyEnd_0 : decode cX1_leaveOutEmptyEnd 0 = .ok (.aload_n 0, 1) := by decide +kernel
theorem dX1_leaveOutEmptyEnd_1 : decode cX1_leaveOutEmptyEnd 1 = .ok (.getfield 24, 3) := by decide +kernel
theorem dX1_leaveOutEmptyEnd_4 : decode cX1_leaveOutEmptyEnd 4 = .ok (.ifCond .le 39, 3) := by decide +kernel
theorem dX1_leaveOutEmptyEnd_7 : decode cX1_leaveOutEmptyEnd 7 = .ok (.aload_n 0, 1) := by decide +kernel
theorem dX1_leaveOutEmptyEnd_8 : decode cX1_leaveOutEmptyEnd 8 = .ok (.aload_n 0, 1) := by decide +kernel
theorem dX1_leaveOutEmptyEnd_9 : decode cX1_leaveOutEmptyEnd 9 = .ok (.getfield 24, 3) := by decide +kernel
theorem dX1_leaveOutEmptyEnd_12 : decode cX1_leaveOutEmptyEnd 12 = .ok (.iconst 1, 1) := by decide +kernel
theorem dX1_leaveOutEmptyEnd_13 : decode cX1_leaveOutEmptyEnd 13 = .ok (.isub, 1) := by decide +kernel
theorem dX1_leaveOutEmptyEnd_14 : decode cX1_leaveOutEmptyEnd 14 = .ok (.invokevirtual 47, 3) := by decide +kernel
theorem dX1_leaveOutEmptyEnd_17 : decode cX1_leaveOutEmptyEnd 17 = .ok (.aload_n 0, 1) := by decide +kernel
theorem dX1_leaveOutEmptyEnd_18 : decode cX1_leaveOutEmptyEnd 18 = .ok (.aload_n 0, 1) := by decide +kernel
theorem dX1_leaveOutEmptyEnd_19 : decode cX1_leaveOutEmptyEnd 19 = .ok (.getfield 24, 3) := by decide +kernel
theorem dX1_leaveOutEmptyEnd_22 : decode cX1_leaveOutEmptyEnd 22 = .ok (.iconst 1, 1) := by decide +kernel
theorem dX1_leaveOutEmptyEnd_23 : decode cX1_leaveOutEmptyEnd 23 = .ok (.isub, 1) := by decide +kernel
theorem dX1_leaveOutEmptyEnd_24 : decode cX1_leaveOutEmptyEnd 24 = .ok (.invokevirtual 50, 3) := by decide +kernel
theorem dX1_leaveOutEmptyEnd_27 : decode cX1_leaveOutEmptyEnd 27 = .ok (.if_icmp .ne 16, 3) := by decide +kernel
theorem dX1_leaveOutEmptyEnd_30 : decode cX1_leaveOutEmptyEnd 30 = .ok (.aload_n 0, 1) := by decide +kernel
theorem dX1_leaveOutEmptyEnd_31 : decode cX1_leaveOutEmptyEnd 31 = .ok (.dup, 1) := by decide +kernel
theorem dX1_leaveOutEmptyEnd_32 : decode cX1_leaveOutEmptyEnd 32 = .ok (.getfield 24, 3) := by decide +kernel
theorem dX1_leaveOutEmptyEnd_35 : decode cX1_leaveOutEmptyEnd 35 = .ok (.iconst 1, 1) := by decide +kernel
theorem dX1_leaveOutEmptyEnd_36 : decode cX1_leaveOutEmptyEnd 36 = .ok (.isub, 1) := by decide +kernel
theorem dX1_leaveOutEmptyEnd_37 : decode cX1_leaveOutEmptyEnd 37 = .ok (.putfield 24, 3) := by decide +kernel
theorem dX1_leaveOutEmptyEnd_40 : decode cX1_leaveOutEmptyEnd 40 = .ok (.goto (-40), 3) := by decide +kernel
theorem dX1_leaveOutEmptyEnd_43 : decode cX1_leaveOutEmptyEnd 43 = .ok (.return_, 1) := by decide +kernel
theorem dX1_startOf_0 : decode cX1_startOf 0 = .ok (.aload_n 0, 1) := by decide +kernel
theorem dX1_startOf_1 : decode cX1_startOf 1 = .ok (.iload_n 1, 1) := by decide +kernel
theorem dX1_startOf_2 : decode cX1_startOf 2 = .ok (.iconst 1, 1) := by decide +kernel
theorem dX1_startOf_3 : decode cX1_startOf 3 = .ok (.isub, 1) := by decide +kernel
theorem dX1_startOf_4 : decode cX1_startOf 4 = .ok (.invokevirtual 50, 3) := by decide +kernel
theorem dX1_startOf_7 : decode cX1_startOf 7 = .ok (.ireturn, 1) := by decide +kernel
theorem dX1_endOf_0 : decode cX1_endOf 0 = .ok (.iload_n 1, 1) := by decide +kernel
theorem dX1_endOf_1 : decode cX1_endOf 1 = .ok (.ifCond .lt 11, 3) := by decide +kernel
theorem dX1_endOf_4 : decode cX1_endOf 4 = .ok (.iload_n 1, 1) := by decide +kernel
theorem dX1_endOf_5 : decode cX1_endOf 5 = .ok (.aload_n 0, 1) := by decide +kernel
theorem dX1_endOf_6 : decode cX1_endOf 6 = .ok (.getfield 24, 3) := by decide +kernel
theorem dX1_endOf_9 : decode cX1_endOf 9 = .ok (.if_icmp .lt 5, 3) := by decide +kernel
theorem dX1_endOf_12 : decode cX1_endOf 12 = .ok (.iconst 0, 1) := by decide +kernel
theorem dX1_endOf_13 : decode cX1_endOf 13 = .ok (.ireturn, 1) := by decide +kernel
theorem dX1_endOf_14 : decode cX1_endOf 14 = .ok (.aload_n 0, 1) := by decide +kernel
theorem dX1_endOf_15 : decode cX1_endOf 15 = .ok (.getfield 20, 3) := by decide +kernel
theorem dX1_endOf_18 : decode cX1_endOf 18 = .ok (.iload_n 1, 1) := by decide +kernel
theorem dX1_endOf_19 : decode cX1_endOf 19 = .ok (.iaload, 1) := by decide +kernel
theorem dX1_endOf_20 : decode cX1_endOf 20 = .ok (.ireturn, 1) := by decide +kernel
theorem dX2_init_0 : decode cX2_init 0 = .ok (.aload_n 0, 1) := by decide +kernel
theorem dX2_init_1 : decode cX2_init 1 = .ok (.invokespecial 3, 3) := by decide +kernel
theorem dX2_init_4 : decode cX2_init 4 = .ok (.aload_n 0, 1) := by decide +kernel
theorem dX2_init_5 : decode cX2_init 5 = .ok (.iconst 0, 1) := by decide +kernel
theorem dX2_init_6 : decode cX2_init 6 = .ok (.iload_n 1, 1) := by decide +kernel
theorem dX2_init_7 : decode cX2_init 7 = .ok (.invokestatic 9, 3) := by decide +kernel
theorem dX2_init_10 : decode cX2_init 10 = .ok (.newarray .int, 2) := by decide +kernel
theorem dX2_init_12 : decode cX2_init 12 = .ok (.putfield 15, 3) := by decide +kernel
theorem dX2_init_15 : decode cX2_init 15 = .ok (.return_, 1) := by decide +kernel
theorem dX2_size_0 : decode cX2_size 0 = .ok (.aload_n 0, 1) := by decide +kernel
theorem dX2_size_1 : decode cX2_size 1 = .ok (.getfield 21, 3) := by decide +kernel
theorem dX2_size_4 : decode cX2_size 4 = .ok (.ireturn, 1) := by decide +kernel
theorem dX2_at_0 : decode cX2_at 0 = .ok (.iload_n 1, 1) := by decide +kernel
theorem dX2_at_1 : decode cX2_at 1 = .ok (.ifCond .lt 11, 3) := by decide +kernel
theorem dX2_at_4 : decode cX2_at 4 = .ok (.iload_n 1, 1) := by decide +kernel
theorem dX2_at_5 : decode cX2_at 5 = .ok (.aload_n 0, 1) := by decide +kernel
theorem dX2_at_6 : decode cX2_at 6 = .ok (.getfield 21, 3) := by decide +kernel
theorem dX2_at_9 : decode cX2_at 9 = .ok (.if_icmp .lt 5, 3) := by decide +kernel
theorem dX2_at_12 : decode cX2_at 12 = .ok (.iconst (-1), 1) := by decide +kernel
theorem dX2_at_13 : decode cX2_at 13 = .ok (.ireturn, 1) := by decide +kernel
theorem dX2_at_14 : decode cX2_at 14 = .ok (.aload_n 0, 1) := by decide +kernel
theorem dX2_at_15 : decode cX2_at 15 = .ok (.getfield 15, 3) := by decide +kernel
theorem dX2_at_18 : decode cX2_at 18 = .ok (.iload_n 1, 1) := by decide +kernel
theorem dX2_at_19 : decode cX2_at 19 = .ok (.iaload, 1) := by decide +kernel
theorem dX2_at_20 : decode cX2_at 20 = .ok (.ireturn, 1) := by decide +kernel
theorem dX2_clear_0 : decode cX2_clear 0 = .ok (.aload_n 0, 1) := by decide +kernel
theorem dX2_clear_1 : decode cX2_clear 1 = .ok (.iconst 0, 1) := by decide +kernel
theorem dX2_clear_2 : decode cX2_clear 2 = .ok (.putfield 21, 3) := by decide +kernel
theorem dX2_clear_5 : decode cX2_clear 5 = .ok (.return_, 1) := by decide +kernel
theorem dX2_add_0 : decode cX2_add 0 = .ok (.aload_n 0, 1) := by decide +kernel
theorem dX2_add_1 : decode cX2_add 1 = .ok (.getfield 21, 3) := by decide +kernel
theorem dX2_add_4 : decode cX2_add 4 = .ok (.aload_n 0, 1) := by decide +kernel
theorem dX2_add_5 : decode cX2_add 5 = .ok (.getfield 15, 3) := by decide +kernel
theorem dX2_add_8 : decode cX2_add 8 = .ok (.arraylength, 1) := by decide +kernel
theorem dX2_add_9 : decode cX2_add 9 = .ok (.if_icmp .ge 23, 3) := by decide +kernel
theorem dX2_add_12 : decode cX2_add 12 = .ok (.aload_n 0, 1) := by decide +kernel
theorem dX2_add_13 : decode cX2_add 13 = .ok (.getfield 15, 3) := by decide +kernel
theorem dX2_add_16 : decode cX2_add 16 = .ok (.aload_n 0, 1) := by decide +kernel
theorem dX2_add_17 : decode cX2_add 17 = .ok (.getfield 21, 3) := by decide +kernel
theorem dX2_add_20 : decode cX2_add 20 = .ok (.iload_n 1, 1) := by decide +kernel
theorem dX2_add_21 : decode cX2_add 21 = .ok (.iastore, 1) := by decide +kernel
theorem dX2_add_22 : decode cX2_add 22 = .ok (.aload_n 0, 1) := by decide +kernel
theorem dX2_add_23 : decode cX2_add 23 = .ok (.dup, 1) := by decide +kernel
theorem dX2_add_24 : decode cX2_add 24 = .ok (.getfield 21, 3) := by decide +kernel
theorem dX2_add_27 : decode cX2_add 27 = .ok (.iconst 1, 1) := by decide +kernel
theorem dX2_add_28 : decode cX2_add 28 = .ok (.iadd, 1) := by decide +kernel
theorem dX2_add_29 : decode cX2_add 29 = .ok (.putfield 21, 3) := by decide +kernel
theorem dX2_add_32 : decode cX2_add 32 = .ok (.return_, 1) := by decide +kernel
theorem dX2_addSpan_0 : decode cX2_addSpan 0 = .ok (.iload_n 2, 1) := by decide +kernel
theorem dX2_addSpan_1 : decode cX2_addSpan 1 = .ok (.istore 4, 2) := by decide +kernel
theorem dX2_addSpan_3 : decode cX2_addSpan 3 = .ok (.iload 4, 2) := by decide +kernel
theorem dX2_addSpan_5 : decode cX2_addSpan 5 = .ok (.iload_n 3, 1) := by decide +kernel
theorem dX2_addSpan_6 : decode cX2_addSpan 6 = .ok (.if_icmp .ge 19, 3) := by decide +kernel
theorem dX2_addSpan_9 : decode cX2_addSpan 9 = .ok (.aload_n 0, 1) := by decide +kernel
theorem dX2_addSpan_10 : decode cX2_addSpan 10 = .ok (.aload_n 1, 1) := by decide +kernel
theorem dX2_addSpan_11 : decode cX2_addSpan 11 = .ok (.iload 4, 2) := by decide +kernel
theorem dX2_addSpan_13 : decode cX2_addSpan 13 = .ok (.invokevirtual 25, 3) := by decide +kernel
theorem dX2_addSpan_16 : decode cX2_addSpan 16 = .ok (.invokevirtual 29, 3) := by decide +kernel
theorem dX2_addSpan_19 : decode cX2_addSpan 19 = .ok (.iinc 4 1, 3) := by decide +kernel
theorem dX2_addSpan_22 : decode cX2_addSpan 22 = .ok (.goto (-19), 3) := by decide +kernel
theorem dX2_addSpan_25 : decode cX2_addSpan 25 = .ok (.return_, 1) := by decide +kernel
theorem dX2_addText_0 : decode cX2_addText 0 = .ok (.aload_n 0, 1) := by decide +kernel
theorem dX2_addText_1 : decode cX2_addText 1 = .ok (.aload_n 1, 1) := by decide +kernel
theorem dX2_addText_2 : decode cX2_addText 2 = .ok (.iconst 0, 1) := by decide +kernel
theorem dX2_addText_3 : decode cX2_addText 3 = .ok (.aload_n 1, 1) := by decide +kernel
theorem dX2_addText_4 : decode cX2_addText 4 = .ok (.getfield 21, 3) := by decide +kernel
theorem dX2_addText_7 : decode cX2_addText 7 = .ok (.invokevirtual 33, 3) := by decide +kernel
theorem dX2_addText_10 : decode cX2_addText 10 = .ok (.return_, 1) := by decide +kernel
theorem dX2_addTurned_0 : decode cX2_addTurned 0 = .ok (.aload_n 1, 1) := by decide +kernel
theorem dX2_addTurned_1 : decode cX2_addTurned 1 = .ok (.getfield 21, 3) := by decide +kernel
theorem dX2_addTurned_4 : decode cX2_addTurned 4 = .ok (.iconst 1, 1) := by decide +kernel
theorem dX2_addTurned_5 : decode cX2_addTurned 5 = .ok (.isub, 1) := by decide +kernel
theorem dX2_addTurned_6 : decode cX2_addTurned 6 = .ok (.istore_n 2, 1) := by decide +kernel
theorem dX2_addTurned_7 : decode cX2_addTurned 7 = .ok (.iload_n 2, 1) := by decide +kernel
theorem dX2_addTurned_8 : decode cX2_addTurned 8 = .ok (.ifCond .lt 18, 3) := by decide +kernel
theorem dX2_addTurned_11 : decode cX2_addTurned 11 = .ok (.aload_n 0, 1) := by decide +kernel
theorem dX2_addTurned_12 : decode cX2_addTurned 12 = .ok (.aload_n 1, 1) := by decide +kernel
theorem dX2_addTurned_13 : decode cX2_addTurned 13 = .ok (.iload_n 2, 1) := by decide +kernel
theorem dX2_addTurned_14 : decode cX2_addTurned 14 = .ok (.invokevirtual 25, 3) := by decide +kernel
theorem dX2_addTurned_17 : decode cX2_addTurned 17 = .ok (.invokevirtual 29, 3) := by decide +kernel
theorem dX2_addTurned_20 : decode cX2_addTurned 20 = .ok (.iinc 2 (-1), 3) := by decide +kernel
theorem dX2_addTurned_23 : decode cX2_addTurned 23 = .ok (.goto (-16), 3) := by decide +kernel
theorem dX2_addTurned_26 : decode cX2_addTurned 26 = .ok (.return_, 1) := by decide +kernel
theorem dX2_addDigitsFromLowest_0 : decode cX2_addDigitsFromLowest 0 = .ok (.lload_n 1, 1) := by decide +kernel
theorem dX2_addDigitsFromLowest_1 : decode cX2_addDigitsFromLowest 1 = .ok (.lstore_n 3, 1) := by decide +kernel
theorem dX2_addDigitsFromLowest_2 : decode cX2_addDigitsFromLowest 2 = .ok (.iconst 0, 1) := by decide +kernel
theorem dX2_addDigitsFromLowest_3 : decode cX2_addDigitsFromLowest 3 = .ok (.istore 5, 2) := by decide +kernel
theorem dX2_addDigitsFromLowest_5 : decode cX2_addDigitsFromLowest 5 = .ok (.iload 5, 2) := by decide +kernel
theorem dX2_addDigitsFromLowest_7 : decode cX2_addDigitsFromLowest 7 = .ok (.bipush 19, 2) := by decide +kernel
theorem dX2_addDigitsFromLowest_9 : decode cX2_addDigitsFromLowest 9 = .ok (.if_icmp .ge 42, 3) := by decide +kernel
theorem dX2_addDigitsFromLowest_12 : decode cX2_addDigitsFromLowest 12 = .ok (.iload 5, 2) := by decide +kernel
theorem dX2_addDigitsFromLowest_14 : decode cX2_addDigitsFromLowest 14 = .ok (.ifCond .eq 9, 3) := by decide +kernel
theorem dX2_addDigitsFromLowest_17 : decode cX2_addDigitsFromLowest 17 = .ok (.lload_n 3, 1) := by decide +kernel
theorem dX2_addDigitsFromLowest_18 : decode cX2_addDigitsFromLowest 18 = .ok (.lconst 0, 1) := by decide +kernel
theorem dX2_addDigitsFromLowest_19 : decode cX2_addDigitsFromLowest 19 = .ok (.lcmp, 1) := by decide +kernel
theorem dX2_addDigitsFromLowest_20 : decode cX2_addDigitsFromLowest 20 = .ok (.ifCond .eq 31, 3) := by decide +kernel
theorem dX2_addDigitsFromLowest_23 : decode cX2_addDigitsFromLowest 23 = .ok (.aload_n 0, 1) := by decide +kernel
theorem dX2_addDigitsFromLowest_24 : decode cX2_addDigitsFromLowest 24 = .ok (.bipush 48, 2) := by decide +kernel
theorem dX2_addDigitsFromLowest_26 : decode cX2_addDigitsFromLowest 26 = .ok (.lload_n 3, 1) := by decide +kernel
theorem dX2_addDigitsFromLowest_27 : decode cX2_addDigitsFromLowest 27 = .ok (.ldc2_w 37, 3) := by decide +kernel
theorem dX2_addDigitsFromLowest_30 : decode cX2_addDigitsFromLowest 30 = .ok (.lrem, 1) := by decide +kernel
theorem dX2_addDigitsFromLowest_31 : decode cX2_addDigitsFromLowest 31 = .ok (.invokestatic 39, 3) := by decide +kernel
theorem dX2_addDigitsFromLowest_34 : decode cX2_addDigitsFromLowest 34 = .ok (.l2i, 1) := by decide +kernel
theorem dX2_addDigitsFromLowest_35 : decode cX2_addDigitsFromLowest 35 = .ok (.iadd, 1) := by decide +kernel
theorem dX2_addDigitsFromLowest_36 : decode cX2_addDigitsFromLowest 36 = .ok (.invokevirtual 29, 3) := by decide +kernel
theorem dX2_addDigitsFromLowest_39 : decode cX2_addDigitsFromLowest 39 = .ok (.lload_n 3, 1) := by decide +kernel
theorem dX2_addDigitsFromLowest_40 : decode cX2_addDigitsFromLowest 40 = .ok (.ldc2_w 37, 3) := by decide +kernel
theorem dX2_addDigitsFromLowest_43 : decode cX2_addDigitsFromLowest 43 = .ok (.ldiv, 1) := by decide +kernel
theorem dX2_addDigitsFromLowest_44 : decode cX2_addDigitsFromLowest 44 = .ok (.lstore_n 3, 1) := by decide +kernel
theorem dX2_addDigitsFromLowest_45 : decode cX2_addDigitsFromLowest 45 = .ok (.iinc 5 1, 3) := by decide +kernel
theorem dX2_addDigitsFromLowest_48 : decode cX2_addDigitsFromLowest 48 = .ok (.goto (-43), 3) := by decide +kernel
theorem dX2_addDigitsFromLowest_51 : decode cX2_addDigitsFromLowest 51 = .ok (.return_, 1) := by decide +kernel
theorem dX2_addReplaced_0 : decode cX2_addReplaced 0 = .ok (.iconst 0, 1) := by decide +kernel
theorem dX2_addReplaced_1 : decode cX2_addReplaced 1 = .ok (.istore 4, 2) := by decide +kernel
theorem dX2_addReplaced_3 : decode cX2_addReplaced 3 = .ok (.iload 4, 2) := by decide +kernel
theorem dX2_addReplaced_5 : decode cX2_addReplaced 5 = .ok (.aload_n 1, 1) := by decide +kernel
theorem dX2_addReplaced_6 : decode cX2_addReplaced 6 = .ok (.getfield 21, 3) := by decide +kernel
theorem dX2_addReplaced_9 : decode cX2_addReplaced 9 = .ok (.if_icmp .ge 50, 3) := by decide +kernel
theorem dX2_addReplaced_12 : decode cX2_addReplaced 12 = .ok (.aload_n 1, 1) := by decide +kernel
theorem dX2_addReplaced_13 : decode cX2_addReplaced 13 = .ok (.aload_n 2, 1) := by decide +kernel
theorem dX2_addReplaced_14 : decode cX2_addReplaced 14 = .ok (.iload 4, 2) := by decide +kernel
theorem dX2_addReplaced_16 : decode cX2_addReplaced 16 = .ok (.invokevirtual 43, 3) := by decide +kernel
theorem dX2_addReplaced_19 : decode cX2_addReplaced 19 = .ok (.ifCond .eq 24, 3) := by decide +kernel
theorem dX2_addReplaced_22 : decode cX2_addReplaced 22 = .ok (.aload_n 0, 1) := by decide +kernel
theorem dX2_addReplaced_23 : decode cX2_addReplaced 23 = .ok (.aload_n 3, 1) := by decide +kernel
theorem dX2_addReplaced_24 : decode cX2_addReplaced 24 = .ok (.invokevirtual 47, 3) := by decide +kernel
theorem dX2_addReplaced_27 : decode cX2_addReplaced 27 = .ok (.iload 4, 2) := by decide +kernel
theorem dX2_addReplaced_29 : decode cX2_addReplaced 29 = .ok (.iconst 1, 1) := by decide +kernel
theorem dX2_addReplaced_30 : decode cX2_addReplaced 30 = .ok (.aload_n 2, 1) := by decide +kernel
theorem dX2_addReplaced_31 : decode cX2_addReplaced 31 = .ok (.getfield 21, 3) := by decide +kernel
theorem dX2_addReplaced_34 : decode cX2_addReplaced 34 = .ok (.invokestatic 9, 3) := by decide +kernel
theorem dX2_addReplaced_37 : decode cX2_addReplaced 37 = .ok (.iadd, 1) := by decide +kernel
theorem dX2_addReplaced_38 : decode cX2_addReplaced 38 = .ok (.istore 4, 2) := by decide +kernel
theorem dX2_addReplaced_40 : decode cX2_addReplaced 40 = .ok (.goto (-37), 3) := by decide +kernel
theorem dX2_addReplaced_43 : decode cX2_addReplaced 43 = .ok (.aload_n 0, 1) := by decide +kernel
theorem dX2_addReplaced_44 : decode cX2_addReplaced 44 = .ok (.aload_n 1, 1) := by decide +kernel
theorem dX2_addReplaced_45 : decode cX2_addReplaced 45 = .ok (.iload 4, 2) := by decide +kernel
theorem dX2_addReplaced_47 : decode cX2_addReplaced 47 = .ok (.invokevirtual 25, 3) := by decide +kernel
theorem dX2_addReplaced_50 : decode cX2_addReplaced 50 = .ok (.invokevirtual 29, 3) := by decide +kernel
theorem dX2_addReplaced_53 : decode cX2_addReplaced 53 = .ok (.iinc 4 1, 3) := by decide +kernel
theorem dX2_addReplaced_56 : decode cX2_addReplaced 56 = .ok (.goto (-53), 3) := by decide +kernel
theorem dX2_addReplaced_59 : decode cX2_addReplaced 59 = .ok (.return_, 1) := by decide +kernel
theorem dX2_become_0 : decode cX2_become 0 = .ok (.aload_n 0, 1) := by decide +kernel
theorem dX2_become_1 : decode cX2_become 1 = .ok (.invokevirtual 51, 3) := by decide +kernel
theorem dX2_become_4 : decode cX2_become 4 = .ok (.aload_n 0, 1) := by decide +kernel
theorem dX2_become_5 : decode cX2_become 5 = .ok (.aload_n 1, 1) := by decide +kernel
theorem dX2_become_6 : decode cX2_become 6 = .ok (.invokevirtual 47, 3) := by decide +kernel
theorem dX2_become_9 : decode cX2_become 9 = .ok (.return_, 1) := by decide +kernel
theorem dX2_change_0 : decode cX2_change 0 = .ok (.iconst 0, 1) := by decide +kernel
theorem dX2_change_1 : decode cX2_change 1 = .ok (.istore_n 3, 1) := by decide +kernel
theorem dX2_change_2 : decode cX2_change 2 = .ok (.iload_n 3, 1) := by decide +kernel
theorem dX2_change_3 : decode cX2_change 3 = .ok (.aload_n 0, 1) := by decide +kernel
theorem dX2_change_4 : decode cX2_change 4 = .ok (.getfield 21, 3) := by decide +kernel
theorem dX2_change_7 : decode cX2_change 7 = .ok (.if_icmp .ge 35, 3) := by decide +kernel
theorem dX2_change_10 : decode cX2_change 10 = .ok (.iload_n 3, 1) := by decide +kernel
theorem dX2_change_11 : decode cX2_change 11 = .ok (.aload_n 0, 1) := by decide +kernel
theorem dX2_change_12 : decode cX2_change 12 = .ok (.getfield 15, 3) := by decide +kernel
theorem dX2_change_15 : decode cX2_change 15 = .ok (.arraylength, 1) := by decide +kernel
theorem dX2_change_16 : decode cX2_change 16 = .ok (.if_icmp .ge 26, 3) := by decide +kernel
theorem dX2_change_19 : decode cX2_change 19 = .ok (.aload_n 0, 1) := by decide +kernel
theorem dX2_change_20 : decode cX2_change 20 = .ok (.getfield 15, 3) := by decide +kernel
theorem dX2_change_23 : decode cX2_change 23 = .ok (.iload_n 3, 1) := by decide +kernel
theorem dX2_change_24 : decode cX2_change 24 = .ok (.iaload, 1) := by decide +kernel
theorem dX2_change_25 : decode cX2_change 25 = .ok (.iload_n 1, 1) := by decide +kernel
theorem dX2_change_26 : decode cX2_change 26 = .ok (.if_icmp .ne 10, 3) := by decide +kernel
theorem dX2_change_29 : decode cX2_change 29 = .ok (.aload_n 0, 1) := by decide +kernel
theorem dX2_change_30 : decode cX2_change 30 = .ok (.getfield 15, 3) := by decide +kernel
theorem dX2_change_33 : decode cX2_change 33 = .ok (.iload_n 3, 1) := by decide +kernel
theorem dX2_change_34 : decode cX2_change 34 = .ok (.iload_n 2, 1) := by decide +kernel
theorem dX2_change_35 : decode cX2_change 35 = .ok (.iastore, 1) := by decide +kernel
theorem dX2_change_36 : decode cX2_change 36 = .ok (.iinc 3 1, 3) := by decide +kernel
theorem dX2_change_39 : decode cX2_change 39 = .ok (.goto (-37), 3) := by decide +kernel
theorem dX2_change_42 : decode cX2_change 42 = .ok (.return_, 1) := by decide +kernel
theorem dX2_signFrom_0 : decode cX2_signFrom 0 = .ok (.iconst 0, 1) := by decide +kernel
theorem dX2_signFrom_1 : decode cX2_signFrom 1 = .ok (.iload_n 2, 1) := by decide +kernel
theorem dX2_signFrom_2 : decode cX2_signFrom 2 = .ok (.invokestatic 9, 3) := by decide +kernel
theorem dX2_signFrom_5 : decode cX2_signFrom 5 = .ok (.istore_n 3, 1) := by decide +kernel
theorem dX2_signFrom_6 : decode cX2_signFrom 6 = .ok (.iload_n 3, 1) := by decide +kernel
theorem dX2_signFrom_7 : decode cX2_signFrom 7 = .ok (.aload_n 0, 1) := by decide +kernel
theorem dX2_signFrom_8 : decode cX2_signFrom 8 = .ok (.getfield 21, 3) := by decide +kernel
theorem dX2_signFrom_11 : decode cX2_signFrom 11 = .ok (.if_icmp .ge 20, 3) := by decide +kernel
theorem dX2_signFrom_14 : decode cX2_signFrom 14 = .ok (.aload_n 0, 1) := by decide +kernel
theorem dX2_signFrom_15 : decode cX2_signFrom 15 = .ok (.iload_n 3, 1) := by decide +kernel
theorem dX2_signFrom_16 : decode cX2_signFrom 16 = .ok (.invokevirtual 25, 3) := by decide +kernel
theorem dX2_signFrom_19 : decode cX2_signFrom 19 = .ok (.iload_n 1, 1) := by decide +kernel
theorem dX2_signFrom_20 : decode cX2_signFrom 20 = .ok (.if_icmp .ne 5, 3) := by decide +kernel
theorem dX2_signFrom_23 : decode cX2_signFrom 23 = .ok (.iload_n 3, 1) := by decide +kernel
theorem dX2_signFrom_24 : decode cX2_signFrom 24 = .ok (.ireturn, 1) := by decide +kernel
theorem dX2_signFrom_25 : decode cX2_signFrom 25 = .ok (.iinc 3 1, 3) := by decide +kernel
theorem dX2_signFrom_28 : decode cX2_signFrom 28 = .ok (.goto (-22), 3) := by decide +kernel
theorem dX2_signFrom_31 : decode cX2_signFrom 31 = .ok (.iconst (-1), 1) := by decide +kernel
theorem dX2_signFrom_32 : decode cX2_signFrom 32 = .ok (.ireturn, 1) := by decide +kernel
theorem dX2_signBack_0 : decode cX2_signBack 0 = .ok (.iload_n 2, 1) := by decide +kernel
theorem dX2_signBack_1 : decode cX2_signBack 1 = .ok (.aload_n 0, 1) := by decide +kernel
theorem dX2_signBack_2 : decode cX2_signBack 2 = .ok (.getfield 21, 3) := by decide +kernel
theorem dX2_signBack_5 : decode cX2_signBack 5 = .ok (.iconst 1, 1) := by decide +kernel
theorem dX2_signBack_6 : decode cX2_signBack 6 = .ok (.isub, 1) := by decide +kernel
theorem dX2_signBack_7 : decode cX2_signBack 7 = .ok (.invokestatic 54, 3) := by decide +kernel
theorem dX2_signBack_10 : decode cX2_signBack 10 = .ok (.istore_n 3, 1) := by decide +kernel
theorem dX2_signBack_11 : decode cX2_signBack 11 = .ok (.iload_n 3, 1) := by decide +kernel
theorem dX2_signBack_12 : decode cX2_signBack 12 = .ok (.ifCond .lt 20, 3) := by decide +kernel
theorem dX2_signBack_15 : decode cX2_signBack 15 = .ok (.aload_n 0, 1) := by decide +kernel
theorem dX2_signBack_16 : decode cX2_signBack 16 = .ok (.iload_n 3, 1) := by decide +kernel
theorem dX2_signBack_17 : decode cX2_signBack 17 = .ok (.invokevirtual 25, 3) := by decide +kernel
theorem dX2_signBack_20 : decode cX2_signBack 20 = .ok (.iload_n 1, 1) := by decide +kernel
theorem dX2_signBack_21 : decode cX2_signBack 21 = .ok (.if_icmp .ne 5, 3) := by decide +kernel
theorem dX2_signBack_24 : decode cX2_signBack 24 = .ok (.iload_n 3, 1) := by decide +kernel
theorem dX2_signBack_25 : decode cX2_signBack 25 = .ok (.ireturn, 1) := by decide +kernel
theorem dX2_signBack_26 : decode cX2_signBack 26 = .ok (.iinc 3 (-1), 3) := by decide +kernel
theorem dX2_signBack_29 : decode cX2_signBack 29 = .ok (.goto (-18), 3) := by decide +kernel
theorem dX2_signBack_32 : decode cX2_signBack 32 = .ok (.iconst (-1), 1) := by decide +kernel
theorem dX2_signBack_33 : decode cX2_signBack 33 = .ok (.ireturn, 1) := by decide +kernel
theorem dX2_placeFrom_0 : decode cX2_placeFrom 0 = .ok (.iconst 0, 1) := by decide +kernel
theorem dX2_placeFrom_1 : decode cX2_placeFrom 1 = .ok (.iload_n 2, 1) := by decide +kernel
theorem dX2_placeFrom_2 : decode cX2_placeFrom 2 = .ok (.aload_n 0, 1) := by decide +kernel
theorem dX2_placeFrom_3 : decode cX2_placeFrom 3 = .ok (.getfield 21, 3) := by decide +kernel
theorem dX2_placeFrom_6 : decode cX2_placeFrom 6 = .ok (.invokestatic 54, 3) := by decide +kernel
theorem dX2_placeFrom_9 : decode cX2_placeFrom 9 = .ok (.invokestatic 9, 3) := by decide +kernel
theorem dX2_placeFrom_12 : decode cX2_placeFrom 12 = .ok (.istore_n 3, 1) := by decide +kernel
theorem dX2_placeFrom_13 : decode cX2_placeFrom 13 = .ok (.iload_n 3, 1) := by decide +kernel
theorem dX2_placeFrom_14 : decode cX2_placeFrom 14 = .ok (.istore 4, 2) := by decide +kernel
theorem dX2_placeFrom_16 : decode cX2_placeFrom 16 = .ok (.iload 4, 2) := by decide +kernel
theorem dX2_placeFrom_18 : decode cX2_placeFrom 18 = .ok (.aload_n 0, 1) := by decide +kernel
theorem dX2_placeFrom_19 : decode cX2_placeFrom 19 = .ok (.getfield 21, 3) := by decide +kernel
theorem dX2_placeFrom_22 : decode cX2_placeFrom 22 = .ok (.aload_n 1, 1) := by decide +kernel
theorem dX2_placeFrom_23 : decode cX2_placeFrom 23 = .ok (.getfield 21, 3) := by decide +kernel
theorem dX2_placeFrom_26 : decode cX2_placeFrom 26 = .ok (.isub, 1) := by decide +kernel
theorem dX2_placeFrom_27 : decode cX2_placeFrom 27 = .ok (.if_icmp .gt 22, 3) := by decide +kernel
theorem dX2_placeFrom_30 : decode cX2_placeFrom 30 = .ok (.aload_n 0, 1) := by decide +kernel
theorem dX2_placeFrom_31 : decode cX2_placeFrom 31 = .ok (.aload_n 1, 1) := by decide +kernel
theorem dX2_placeFrom_32 : decode cX2_placeFrom 32 = .ok (.iload 4, 2) := by decide +kernel
theorem dX2_placeFrom_34 : decode cX2_placeFrom 34 = .ok (.invokevirtual 43, 3) := by decide +kernel
theorem dX2_placeFrom_37 : decode cX2_placeFrom 37 = .ok (.ifCond .eq 6, 3) := by decide +kernel
theorem dX2_placeFrom_40 : decode cX2_placeFrom 40 = .ok (.iload 4, 2) := by decide +kernel
theorem dX2_placeFrom_42 : decode cX2_placeFrom 42 = .ok (.ireturn, 1) := by decide +kernel
theorem dX2_placeFrom_43 : decode cX2_placeFrom 43 = .ok (.iinc 4 1, 3) := by decide +kernel
theorem dX2_placeFrom_46 : decode cX2_placeFrom 46 = .ok (.goto (-30), 3) := by decide +kernel
theorem dX2_placeFrom_49 : decode cX2_placeFrom 49 = .ok (.iconst (-1), 1) := by decide +kernel
theorem dX2_placeFrom_50 : decode cX2_placeFrom 50 = .ok (.ireturn, 1) := by decide +kernel
theorem dX2_placeBack_0 : decode cX2_placeBack 0 = .ok (.iload_n 2, 1) := by decide +kernel
theorem dX2_placeBack_1 : decode cX2_placeBack 1 = .ok (.aload_n 0, 1) := by decide +kernel
theorem dX2_placeBack_2 : decode cX2_placeBack 2 = .ok (.getfield 21, 3) := by decide +kernel
theorem dX2_placeBack_5 : decode cX2_placeBack 5 = .ok (.aload_n 1, 1) := by decide +kernel
theorem dX2_placeBack_6 : decode cX2_placeBack 6 = .ok (.getfield 21, 3) := by decide +kernel
theorem dX2_placeBack_9 : decode cX2_placeBack 9 = .ok (.isub, 1) := by decide +kernel
theorem dX2_placeBack_10 : decode cX2_placeBack 10 = .ok (.invokestatic 54, 3) := by decide +kernel
theorem dX2_placeBack_13 : decode cX2_placeBack 13 = .ok (.istore_n 3, 1) := by decide +kernel
theorem dX2_placeBack_14 : decode cX2_placeBack 14 = .ok (.iload_n 3, 1) := by decide +kernel
theorem dX2_placeBack_15 : decode cX2_placeBack 15 = .ok (.ifCond .lt 20, 3) := by decide +kernel
theorem dX2_placeBack_18 : decode cX2_placeBack 18 = .ok (.aload_n 0, 1) := by decide +kernel
theorem dX2_placeBack_19 : decode cX2_placeBack 19 = .ok (.aload_n 1, 1) := by decide +kernel
theorem dX2_placeBack_20 : decode cX2_placeBack 20 = .ok (.iload_n 3, 1) := by decide +kernel
theorem dX2_placeBack_21 : decode cX2_placeBack 21 = .ok (.invokevirtual 43, 3) := by decide +kernel
theorem dX2_placeBack_24 : decode cX2_placeBack 24 = .ok (.ifCond .eq 5, 3) := by decide +kernel
theorem dX2_placeBack_27 : decode cX2_placeBack 27 = .ok (.iload_n 3, 1) := by decide +kernel
theorem dX2_placeBack_28 : decode cX2_placeBack 28 = .ok (.ireturn, 1) := by decide +kernel
theorem dX2_placeBack_29 : decode cX2_placeBack 29 = .ok (.iinc 3 (-1), 3) := by decide +kernel
theorem dX2_placeBack_32 : decode cX2_placeBack 32 = .ok (.goto (-18), 3) := by decide +kernel
theorem dX2_placeBack_35 : decode cX2_placeBack 35 = .ok (.iconst (-1), 1) := by decide +kernel
theorem dX2_placeBack_36 : decode cX2_placeBack 36 = .ok (.ireturn, 1) := by decide +kernel
theorem dX2_bears_0 : decode cX2_bears 0 = .ok (.aload_n 0, 1) := by decide +kernel
theorem dX2_bears_1 : decode cX2_bears 1 = .ok (.iload_n 2, 1) := by decide +kernel
theorem dX2_bears_2 : decode cX2_bears 2 = .ok (.aload_n 1, 1) := by decide +kernel
theorem dX2_bears_3 : decode cX2_bears 3 = .ok (.iconst 0, 1) := by decide +kernel
theorem dX2_bears_4 : decode cX2_bears 4 = .ok (.aload_n 1, 1) := by decide +kernel
theorem dX2_bears_5 : decode cX2_bears 5 = .ok (.getfield 21, 3) := by decide +kernel
theorem dX2_bears_8 : decode cX2_bears 8 = .ok (.iconst 1, 1) := by decide +kernel
theorem dX2_bears_9 : decode cX2_bears 9 = .ok (.invokevirtual 57, 3) := by decide +kernel
theorem dX2_bears_12 : decode cX2_bears 12 = .ok (.ireturn, 1) := by decide +kernel
theorem dX2_agreesWholly_0 : decode cX2_agreesWholly 0 = .ok (.aload_n 0, 1) := by decide +kernel
theorem dX2_agreesWholly_1 : decode cX2_agreesWholly 1 = .ok (.getfield 21, 3) := by decide +kernel
theorem dX2_agreesWholly_4 : decode cX2_agreesWholly 4 = .ok (.aload_n 1, 1) := by decide +kernel
theorem dX2_agreesWholly_5 : decode cX2_agreesWholly 5 = .ok (.getfield 21, 3) := by decide +kernel
theorem dX2_agreesWholly_8 : decode cX2_agreesWholly 8 = .ok (.if_icmp .ne 22, 3) := by decide +kernel
theorem dX2_agreesWholly_11 : decode cX2_agreesWholly 11 = .ok (.aload_n 0, 1) := by decide +kernel
theorem dX2_agreesWholly_12 : decode cX2_agreesWholly 12 = .ok (.iconst 0, 1) := by decide +kernel
theorem dX2_agreesWholly_13 : decode cX2_agreesWholly 13 = .ok (.aload_n 1, 1) := by decide +kernel
theorem dX2_agreesWholly_14 : decode cX2_agreesWholly 14 = .ok (.iconst 0, 1) := by decide +kernel
theorem dX2_agreesWholly_15 : decode cX2_agreesWholly 15 = .ok (.aload_n 0, 1) := by decide +kernel
theorem dX2_agreesWholly_16 : decode cX2_agreesWholly 16 = .ok (.getfield 21, 3) := by decide +kernel
theorem dX2_agreesWholly_19 : decode cX2_agreesWholly 19 = .ok (.iload_n 2, 1) := by decide +kernel
theorem dX2_agreesWholly_20 : decode cX2_agreesWholly 20 = .ok (.invokevirtual 57, 3) := by decide +kernel
theorem dX2_agreesWholly_23 : decode cX2_agreesWholly 23 = .ok (.ifCond .eq 7, 3) := by decide +kernel
theorem dX2_agreesWholly_26 : decode cX2_agreesWholly 26 = .ok (.iconst 1, 1) := by decide +kernel
theorem dX2_agreesWholly_27 : decode cX2_agreesWholly 27 = .ok (.goto 4, 3) := by decide +kernel
theorem dX2_agreesWholly_30 : decode cX2_agreesWholly 30 = .ok (.iconst 0, 1) := by decide +kernel
theorem dX2_agreesWholly_31 : decode cX2_agreesWholly 31 = .ok (.ireturn, 1) := by decide +kernel
theorem dX2_agrees_0 : decode cX2_agrees 0 = .ok (.iload_n 1, 1) := by decide +kernel
theorem dX2_agrees_1 : decode cX2_agrees 1 = .ok (.ifCond .lt 7, 3) := by decide +kernel
theorem dX2_agrees_4 : decode cX2_agrees 4 = .ok (.iload_n 3, 1) := by decide +kernel
theorem dX2_agrees_5 : decode cX2_agrees 5 = .ok (.ifCond .ge 5, 3) := by decide +kernel
theorem dX2_agrees_8 : decode cX2_agrees 8 = .ok (.iconst 0, 1) := by decide +kernel
theorem dX2_agrees_9 : decode cX2_agrees 9 = .ok (.ireturn, 1) := by decide +kernel
theorem dX2_agrees_10 : decode cX2_agrees 10 = .ok (.iload_n 1, 1) := by decide +kernel
theorem dX2_agrees_11 : decode cX2_agrees 11 = .ok (.i2l, 1) := by decide +kernel
theorem dX2_agrees_12 : decode cX2_agrees 12 = .ok (.iload 4, 2) := by decide +kernel
theorem dX2_agrees_14 : decode cX2_agrees 14 = .ok (.i2l, 1) := by decide +kernel
theorem dX2_agrees_15 : decode cX2_agrees 15 = .ok (.ladd, 1) := by decide +kernel
theorem dX2_agrees_16 : decode cX2_agrees 16 = .ok (.aload_n 0, 1) := by decide +kernel
theorem dX2_agrees_17 : decode cX2_agrees 17 = .ok (.getfield 21, 3) := by decide +kernel
theorem dX2_agrees_20 : decode cX2_agrees 20 = .ok (.i2l, 1) := by decide +kernel
theorem dX2_agrees_21 : decode cX2_agrees 21 = .ok (.lcmp, 1) := by decide +kernel
theorem dX2_agrees_22 : decode cX2_agrees 22 = .ok (.ifCond .gt 18, 3) := by decide +kernel
theorem dX2_agrees_25 : decode cX2_agrees 25 = .ok (.iload_n 3, 1) := by decide +kernel
theorem dX2_agrees_26 : decode cX2_agrees 26 = .ok (.i2l, 1) := by decide +kernel
theorem dX2_agrees_27 : decode cX2_agrees 27 = .ok (.iload 4, 2) := by decide +kernel
theorem dX2_agrees_29 : decode cX2_agrees 29 = .ok (.i2l, 1) := by decide +kernel
theorem dX2_agrees_30 : decode cX2_agrees 30 = .ok (.ladd, 1) := by decide +kernel
theorem dX2_agrees_31 : decode cX2_agrees 31 = .ok (.aload_n 2, 1) := by decide +kernel
theorem dX2_agrees_32 : decode cX2_agrees 32 = .ok (.getfield 21, 3) := by decide +kernel
theorem dX2_agrees_35 : decode cX2_agrees 35 = .ok (.i2l, 1) := by decide +kernel
theorem dX2_agrees_36 : decode cX2_agrees 36 = .ok (.lcmp, 1) := by decide +kernel
theorem dX2_agrees_37 : decode cX2_agrees 37 = .ok (.ifCond .le 5, 3) := by decide +kernel
theorem dX2_agrees_40 : decode cX2_agrees 40 = .ok (.iconst 0, 1) := by decide +kernel
theorem dX2_agrees_41 : decode cX2_agrees 41 = .ok (.ireturn, 1) := by decide +kernel
theorem dX2_agrees_42 : decode cX2_agrees 42 = .ok (.iconst 0, 1) := by decide +kernel
theorem dX2_agrees_43 : decode cX2_agrees 43 = .ok (.istore 6, 2) := by decide +kernel
theorem dX2_agrees_45 : decode cX2_agrees 45 = .ok (.iload 6, 2) := by decide +kernel
theorem dX2_agrees_47 : decode cX2_agrees 47 = .ok (.iload 4, 2) := by decide +kernel
theorem dX2_agrees_49 : decode cX2_agrees 49 = .ok (.if_icmp .ge 44, 3) := by decide +kernel
theorem dX2_agrees_52 : decode cX2_agrees 52 = .ok (.aload_n 0, 1) := by decide +kernel
theorem dX2_agrees_53 : decode cX2_agrees 53 = .ok (.iload_n 1, 1) := by decide +kernel
theorem dX2_agrees_54 : decode cX2_agrees 54 = .ok (.iload 6, 2) := by decide +kernel
theorem dX2_agrees_56 : decode cX2_agrees 56 = .ok (.iadd, 1) := by decide +kernel
theorem dX2_agrees_57 : decode cX2_agrees 57 = .ok (.invokevirtual 25, 3) := by decide +kernel
theorem dX2_agrees_60 : decode cX2_agrees 60 = .ok (.iload 5, 2) := by decide +kernel
theorem dX2_agrees_62 : decode cX2_agrees 62 = .ok (.invokestatic 61, 3) := by decide +kernel
theorem dX2_agrees_65 : decode cX2_agrees 65 = .ok (.istore 7, 2) := by decide +kernel
theorem dX2_agrees_67 : decode cX2_agrees 67 = .ok (.iload 7, 2) := by decide +kernel
theorem dX2_agrees_69 : decode cX2_agrees 69 = .ok (.aload_n 2, 1) := by decide +kernel
theorem dX2_agrees_70 : decode cX2_agrees 70 = .ok (.iload_n 3, 1) := by decide +kernel
theorem dX2_agrees_71 : decode cX2_agrees 71 = .ok (.iload 6, 2) := by decide +kernel
theorem dX2_agrees_73 : decode cX2_agrees 73 = .ok (.iadd, 1) := by decide +kernel
theorem dX2_agrees_74 : decode cX2_agrees 74 = .ok (.invokevirtual 25, 3) := by decide +kernel
theorem dX2_agrees_77 : decode cX2_agrees 77 = .ok (.iload 5, 2) := by decide +kernel
theorem dX2_agrees_79 : decode cX2_agrees 79 = .ok (.invokestatic 61, 3) := by decide +kernel
theorem dX2_agrees_82 : decode cX2_agrees 82 = .ok (.if_icmp .eq 5, 3) := by decide +kernel
theorem dX2_agrees_85 : decode cX2_agrees 85 = .ok (.iconst 0, 1) := by decide +kernel
theorem dX2_agrees_86 : decode cX2_agrees 86 = .ok (.ireturn, 1) := by decide +kernel
theorem dX2_agrees_87 : decode cX2_agrees 87 = .ok (.iinc 6 1, 3) := by decide +kernel
theorem dX2_agrees_90 : decode cX2_agrees 90 = .ok (.goto (-45), 3) := by decide +kernel
theorem dX2_agrees_93 : decode cX2_agrees 93 = .ok (.iconst 1, 1) := by decide +kernel
theorem dX2_agrees_94 : decode cX2_agrees 94 = .ok (.ireturn, 1) := by decide +kernel
theorem dX2_order_0 : decode cX2_order 0 = .ok (.iconst 0, 1) := by decide +kernel
theorem dX2_order_1 : decode cX2_order 1 = .ok (.istore_n 3, 1) := by decide +kernel
theorem dX2_order_2 : decode cX2_order 2 = .ok (.iload_n 3, 1) := by decide +kernel
theorem dX2_order_3 : decode cX2_order 3 = .ok (.aload_n 0, 1) := by decide +kernel
theorem dX2_order_4 : decode cX2_order 4 = .ok (.getfield 21, 3) := by decide +kernel
theorem dX2_order_7 : decode cX2_order 7 = .ok (.if_icmp .ge 46, 3) := by decide +kernel
theorem dX2_order_10 : decode cX2_order 10 = .ok (.iload_n 3, 1) := by decide +kernel
theorem dX2_order_11 : decode cX2_order 11 = .ok (.aload_n 1, 1) := by decide +kernel
theorem dX2_order_12 : decode cX2_order 12 = .ok (.getfield 21, 3) := by decide +kernel
theorem dX2_order_15 : decode cX2_order 15 = .ok (.if_icmp .ge 38, 3) := by decide +kernel
theorem dX2_order_18 : decode cX2_order 18 = .ok (.aload_n 0, 1) := by decide +kernel
theorem dX2_order_19 : decode cX2_order 19 = .ok (.iload_n 3, 1) := by decide +kernel
theorem dX2_order_20 : decode cX2_order 20 = .ok (.invokevirtual 25, 3) := by decide +kernel
theorem dX2_order_23 : decode cX2_order 23 = .ok (.iload_n 2, 1) := by decide +kernel
theorem dX2_order_24 : decode cX2_order 24 = .ok (.invokestatic 61, 3) := by decide +kernel
theorem dX2_order_27 : decode cX2_order 27 = .ok (.aload_n 1, 1) := by decide +kernel
theorem dX2_order_28 : decode cX2_order 28 = .ok (.iload_n 3, 1) := by decide +kernel
theorem dX2_order_29 : decode cX2_order 29 = .ok (.invokevirtual 25, 3) := by decide +kernel
theorem dX2_order_32 : decode cX2_order 32 = .ok (.iload_n 2, 1) := by decide +kernel
theorem dX2_order_33 : decode cX2_order 33 = .ok (.invokestatic 61, 3) := by decide +kernel
theorem dX2_order_36 : decode cX2_order 36 = .ok (.isub, 1) := by decide +kernel
theorem dX2_order_37 : decode cX2_order 37 = .ok (.istore 4, 2) := by decide +kernel
theorem dX2_order_39 : decode cX2_order 39 = .ok (.iload 4, 2) := by decide +kernel
theorem dX2_order_41 : decode cX2_order 41 = .ok (.ifCond .eq 6, 3) := by decide +kernel
theorem dX2_order_44 : decode cX2_order 44 = .ok (.iload 4, 2) := by decide +kernel
theorem dX2_order_46 : decode cX2_order 46 = .ok (.ireturn, 1) := by decide +kernel
theorem dX2_order_47 : decode cX2_order 47 = .ok (.iinc 3 1, 3) := by decide +kernel
theorem dX2_order_50 : decode cX2_order 50 = .ok (.goto (-48), 3) := by decide +kernel
theorem dX2_order_53 : decode cX2_order 53 = .ok (.aload_n 0, 1) := by decide +kernel
theorem dX2_order_54 : decode cX2_order 54 = .ok (.getfield 21, 3) := by decide +kernel
theorem dX2_order_57 : decode cX2_order 57 = .ok (.aload_n 1, 1) := by decide +kernel
theorem dX2_order_58 : decode cX2_order 58 = .ok (.getfield 21, 3) := by decide +kernel
theorem dX2_order_61 : decode cX2_order 61 = .ok (.isub, 1) := by decide +kernel
theorem dX2_order_62 : decode cX2_order 62 = .ok (.ireturn, 1) := by decide +kernel
theorem dX2_finds_0 : decode cX2_finds 0 = .ok (.iconst 0, 1) := by decide +kernel
theorem dX2_finds_1 : decode cX2_finds 1 = .ok (.istore_n 2, 1) := by decide +kernel
theorem dX2_finds_2 : decode cX2_finds 2 = .ok (.iconst 0, 1) := by decide +kernel
theorem dX2_finds_3 : decode cX2_finds 3 = .ok (.istore_n 3, 1) := by decide +kernel
theorem dX2_finds_4 : decode cX2_finds 4 = .ok (.iload_n 3, 1) := by decide +kernel
theorem dX2_finds_5 : decode cX2_finds 5 = .ok (.aload_n 0, 1) := by decide +kernel
theorem dX2_finds_6 : decode cX2_finds 6 = .ok (.getfield 21, 3) := by decide +kernel
theorem dX2_finds_9 : decode cX2_finds 9 = .ok (.if_icmp .ge 35, 3) := by decide +kernel
theorem dX2_finds_12 : decode cX2_finds 12 = .ok (.aload_n 0, 1) := by decide +kernel
theorem dX2_finds_13 : decode cX2_finds 13 = .ok (.aload_n 1, 1) := by decide +kernel
theorem dX2_finds_14 : decode cX2_finds 14 = .ok (.iload_n 3, 1) := by decide +kernel
theorem dX2_finds_15 : decode cX2_finds 15 = .ok (.invokevirtual 43, 3) := by decide +kernel
theorem dX2_finds_18 : decode cX2_finds 18 = .ok (.ifCond .eq 20, 3) := by decide +kernel
theorem dX2_finds_21 : decode cX2_finds 21 = .ok (.iinc 2 1, 3) := by decide +kernel
theorem dX2_finds_24 : decode cX2_finds 24 = .ok (.iload_n 3, 1) := by decide +kernel
theorem dX2_finds_25 : decode cX2_finds 25 = .ok (.iconst 1, 1) := by decide +kernel
theorem dX2_finds_26 : decode cX2_finds 26 = .ok (.aload_n 1, 1) := by decide +kernel
theorem dX2_finds_27 : decode cX2_finds 27 = .ok (.getfield 21, 3) := by decide +kernel
theorem dX2_finds_30 : decode cX2_finds 30 = .ok (.invokestatic 9, 3) := by decide +kernel
theorem dX2_finds_33 : decode cX2_finds 33 = .ok (.iadd, 1) := by decide +kernel
theorem dX2_finds_34 : decode cX2_finds 34 = .ok (.istore_n 3, 1) := by decide +kernel
theorem dX2_finds_35 : decode cX2_finds 35 = .ok (.goto (-31), 3) := by decide +kernel
theorem dX2_finds_38 : decode cX2_finds 38 = .ok (.iinc 3 1, 3) := by decide +kernel
theorem dX2_finds_41 : decode cX2_finds 41 = .ok (.goto (-37), 3) := by decide +kernel
theorem dX2_finds_44 : decode cX2_finds 44 = .ok (.iload_n 2, 1) := by decide +kernel
theorem dX2_finds_45 : decode cX2_finds 45 = .ok (.ireturn, 1) := by decide +kernel
theorem dX2_sharedFront_0 : decode cX2_sharedFront 0 = .ok (.aload_n 0, 1) := by decide +kernel
theorem dX2_sharedFront_1 : decode cX2_sharedFront 1 = .ok (.getfield 21, 3) := by decide +kernel
theorem dX2_sharedFront_4 : decode cX2_sharedFront 4 = .ok (.aload_n 1, 1) := by decide +kernel
theorem dX2_sharedFront_5 : decode cX2_sharedFront 5 = .ok (.getfield 21, 3) := by decide +kernel
theorem dX2_sharedFront_8 : decode cX2_sharedFront 8 = .ok (.invokestatic 54, 3) := by decide +kernel
theorem dX2_sharedFront_11 : decode cX2_sharedFront 11 = .ok (.istore_n 2, 1) := by decide +kernel
theorem dX2_sharedFront_12 : decode cX2_sharedFront 12 = .ok (.iconst 0, 1) := by decide +kernel
theorem dX2_sharedFront_13 : decode cX2_sharedFront 13 = .ok (.istore_n 3, 1) := by decide +kernel
theorem dX2_sharedFront_14 : decode cX2_sharedFront 14 = .ok (.iload_n 3, 1) := by decide +kernel
theorem dX2_sharedFront_15 : decode cX2_sharedFront 15 = .ok (.iload_n 2, 1) := by decide +kernel
theorem dX2_sharedFront_16 : decode cX2_sharedFront 16 = .ok (.if_icmp .ge 22, 3) := by decide +kernel
theorem dX2_sharedFront_19 : decode cX2_sharedFront 19 = .ok (.aload_n 0, 1) := by decide +kernel
theorem dX2_sharedFront_20 : decode cX2_sharedFront 20 = .ok (.iload_n 3, 1) := by decide +kernel
theorem dX2_sharedFront_21 : decode cX2_sharedFront 21 = .ok (.invokevirtual 25, 3) := by decide +kernel
theorem dX2_sharedFront_24 : decode cX2_sharedFront 24 = .ok (.aload_n 1, 1) := by decide +kernel
theorem dX2_sharedFront_25 : decode cX2_sharedFront 25 = .ok (.iload_n 3, 1) := by decide +kernel
theorem dX2_sharedFront_26 : decode cX2_sharedFront 26 = .ok (.invokevirtual 25, 3) := by decide +kernel
theorem dX2_sharedFront_29 : decode cX2_sharedFront 29 = .ok (.if_icmp .ne 9, 3) := by decide +kernel
theorem dX2_sharedFront_32 : decode cX2_sharedFront 32 = .ok (.iinc 3 1, 3) := by decide +kernel
theorem dX2_sharedFront_35 : decode cX2_sharedFront 35 = .ok (.goto (-21), 3) := by decide +kernel
theorem dX2_sharedFront_38 : decode cX2_sharedFront 38 = .ok (.iload_n 3, 1) := by decide +kernel
theorem dX2_sharedFront_39 : decode cX2_sharedFront 39 = .ok (.ireturn, 1) := by decide +kernel
theorem dX2_sharedRear_0 : decode cX2_sharedRear 0 = .ok (.aload_n 0, 1) := by decide +kernel
theorem dX2_sharedRear_1 : decode cX2_sharedRear 1 = .ok (.getfield 21, 3) := by decide +kernel
theorem dX2_sharedRear_4 : decode cX2_sharedRear 4 = .ok (.aload_n 1, 1) := by decide +kernel
theorem dX2_sharedRear_5 : decode cX2_sharedRear 5 = .ok (.getfield 21, 3) := by decide +kernel
theorem dX2_sharedRear_8 : decode cX2_sharedRear 8 = .ok (.invokestatic 54, 3) := by decide +kernel
theorem dX2_sharedRear_11 : decode cX2_sharedRear 11 = .ok (.istore_n 2, 1) := by decide +kernel
theorem dX2_sharedRear_12 : decode cX2_sharedRear 12 = .ok (.iconst 0, 1) := by decide +kernel
theorem dX2_sharedRear_13 : decode cX2_sharedRear 13 = .ok (.istore_n 3, 1) := by decide +kernel
theorem dX2_sharedRear_14 : decode cX2_sharedRear 14 = .ok (.iload_n 3, 1) := by decide +kernel
theorem dX2_sharedRear_15 : decode cX2_sharedRear 15 = .ok (.iload_n 2, 1) := by decide +kernel
theorem dX2_sharedRear_16 : decode cX2_sharedRear 16 = .ok (.if_icmp .ge 36, 3) := by decide +kernel
theorem dX2_sharedRear_19 : decode cX2_sharedRear 19 = .ok (.aload_n 0, 1) := by decide +kernel
theorem dX2_sharedRear_20 : decode cX2_sharedRear 20 = .ok (.aload_n 0, 1) := by decide +kernel
theorem dX2_sharedRear_21 : decode cX2_sharedRear 21 = .ok (.getfield 21, 3) := by decide +kernel
theorem dX2_sharedRear_24 : decode cX2_sharedRear 24 = .ok (.iconst 1, 1) := by decide +kernel
theorem dX2_sharedRear_25 : decode cX2_sharedRear 25 = .ok (.isub, 1) := by decide +kernel
theorem dX2_sharedRear_26 : decode cX2_sharedRear 26 = .ok (.iload_n 3, 1) := by decide +kernel
theorem dX2_sharedRear_27 : decode cX2_sharedRear 27 = .ok (.isub, 1) := by decide +kernel
theorem dX2_sharedRear_28 : decode cX2_sharedRear 28 = .ok (.invokevirtual 25, 3) := by decide +kernel
theorem dX2_sharedRear_31 : decode cX2_sharedRear 31 = .ok (.aload_n 1, 1) := by decide +kernel
theorem dX2_sharedRear_32 : decode cX2_sharedRear 32 = .ok (.aload_n 1, 1) := by decide +kernel
theorem dX2_sharedRear_33 : decode cX2_sharedRear 33 = .ok (.getfield 21, 3) := by decide +kernel
theorem dX2_sharedRear_36 : decode cX2_sharedRear 36 = .ok (.iconst 1, 1) := by decide +kernel
theorem dX2_sharedRear_37 : decode cX2_sharedRear 37 = .ok (.isub, 1) := by decide +kernel
theorem dX2_sharedRear_38 : decode cX2_sharedRear 38 = .ok (.iload_n 3, 1) := by decide +kernel
theorem dX2_sharedRear_39 : decode cX2_sharedRear 39 = .ok (.isub, 1) := by decide +kernel
theorem dX2_sharedRear_40 : decode cX2_sharedRear 40 = .ok (.invokevirtual 25, 3) := by decide +kernel
theorem dX2_sharedRear_43 : decode cX2_sharedRear 43 = .ok (.if_icmp .ne 9, 3) := by decide +kernel
theorem dX2_sharedRear_46 : decode cX2_sharedRear 46 = .ok (.iinc 3 1, 3) := by decide +kernel
theorem dX2_sharedRear_49 : decode cX2_sharedRear 49 = .ok (.goto (-35), 3) := by decide +kernel
theorem dX2_sharedRear_52 : decode cX2_sharedRear 52 = .ok (.iload_n 3, 1) := by decide +kernel
theorem dX2_sharedRear_53 : decode cX2_sharedRear 53 = .ok (.ireturn, 1) := by decide +kernel
theorem dX2_endOfFront_0 : decode cX2_endOfFront 0 = .ok (.iconst 0, 1) := by decide +kernel
theorem dX2_endOfFront_1 : decode cX2_endOfFront 1 = .ok (.istore_n 2, 1) := by decide +kernel
theorem dX2_endOfFront_2 : decode cX2_endOfFront 2 = .ok (.iload_n 2, 1) := by decide +kernel
theorem dX2_endOfFront_3 : decode cX2_endOfFront 3 = .ok (.aload_n 0, 1) := by decide +kernel
theorem dX2_endOfFront_4 : decode cX2_endOfFront 4 = .ok (.getfield 21, 3) := by decide +kernel
theorem dX2_endOfFront_7 : decode cX2_endOfFront 7 = .ok (.if_icmp .ge 21, 3) := by decide +kernel
theorem dX2_endOfFront_10 : decode cX2_endOfFront 10 = .ok (.aload_n 0, 1) := by decide +kernel
theorem dX2_endOfFront_11 : decode cX2_endOfFront 11 = .ok (.iload_n 2, 1) := by decide +kernel
theorem dX2_endOfFront_12 : decode cX2_endOfFront 12 = .ok (.invokevirtual 25, 3) := by decide +kernel
theorem dX2_endOfFront_15 : decode cX2_endOfFront 15 = .ok (.iload_n 1, 1) := by decide +kernel
theorem dX2_endOfFront_16 : decode cX2_endOfFront 16 = .ok (.invokestatic 65, 3) := by decide +kernel
theorem dX2_endOfFront_19 : decode cX2_endOfFront 19 = .ok (.ifCond .eq 9, 3) := by decide +kernel
theorem dX2_endOfFront_22 : decode cX2_endOfFront 22 = .ok (.iinc 2 1, 3) := by decide +kernel
theorem dX2_endOfFront_25 : decode cX2_endOfFront 25 = .ok (.goto (-23), 3) := by decide +kernel
theorem dX2_endOfFront_28 : decode cX2_endOfFront 28 = .ok (.iload_n 2, 1) := by decide +kernel
theorem dX2_endOfFront_29 : decode cX2_endOfFront 29 = .ok (.ireturn, 1) := by decide +kernel
theorem dX2_startOfRear_0 : decode cX2_startOfRear 0 = .ok (.aload_n 0, 1) := by decide +kernel
theorem dX2_startOfRear_1 : decode cX2_startOfRear 1 = .ok (.getfield 21, 3) := by decide +kernel
theorem dX2_startOfRear_4 : decode cX2_startOfRear 4 = .ok (.istore_n 3, 1) := by decide +kernel
theorem dX2_startOfRear_5 : decode cX2_startOfRear 5 = .ok (.iload_n 3, 1) := by decide +kernel
theorem dX2_startOfRear_6 : decode cX2_startOfRear 6 = .ok (.iload_n 1, 1) := by decide +kernel
theorem dX2_startOfRear_7 : decode cX2_startOfRear 7 = .ok (.if_icmp .le 23, 3) := by decide +kernel
theorem dX2_startOfRear_10 : decode cX2_startOfRear 10 = .ok (.aload_n 0, 1) := by decide +kernel
theorem dX2_startOfRear_11 : decode cX2_startOfRear 11 = .ok (.iload_n 3, 1) := by decide +kernel
theorem dX2_startOfRear_12 : decode cX2_startOfRear 12 = .ok (.iconst 1, 1) := by decide +kernel
theorem dX2_startOfRear_13 : decode cX2_startOfRear 13 = .ok (.isub, 1) := by decide +kernel
theorem dX2_startOfRear_14 : decode cX2_startOfRear 14 = .ok (.invokevirtual 25, 3) := by decide +kernel
theorem dX2_startOfRear_17 : decode cX2_startOfRear 17 = .ok (.iload_n 2, 1) := by decide +kernel
theorem dX2_startOfRear_18 : decode cX2_startOfRear 18 = .ok (.invokestatic 65, 3) := by decide +kernel
theorem dX2_startOfRear_21 : decode cX2_startOfRear 21 = .ok (.ifCond .eq 9, 3) := by decide +kernel
theorem dX2_startOfRear_24 : decode cX2_startOfRear 24 = .ok (.iinc 3 (-1), 3) := by decide +kernel
theorem dX2_startOfRear_27 : decode cX2_startOfRear 27 = .ok (.goto (-22), 3) := by decide +kernel
theorem dX2_startOfRear_30 : decode cX2_startOfRear 30 = .ok (.iload_n 3, 1) := by decide +kernel
theorem dX2_startOfRear_31 : decode cX2_startOfRear 31 = .ok (.ireturn, 1) := by decide +kernel
theorem dX2_foldSpan_0 : decode cX2_foldSpan 0 = .ok (.ldc2_w 69, 3) := by decide +kernel
theorem dX2_foldSpan_3 : decode cX2_foldSpan 3 = .ok (.lload_n 1, 1) := by decide +kernel
theorem dX2_foldSpan_4 : decode cX2_foldSpan 4 = .ok (.lmul, 1) := by decide +kernel
theorem dX2_foldSpan_5 : decode cX2_foldSpan 5 = .ok (.iload 4, 2) := by decide +kernel
theorem dX2_foldSpan_7 : decode cX2_foldSpan 7 = .ok (.iload_n 3, 1) := by decide +kernel
theorem dX2_foldSpan_8 : decode cX2_foldSpan 8 = .ok (.isub, 1) := by decide +kernel
theorem dX2_foldSpan_9 : decode cX2_foldSpan 9 = .ok (.i2l, 1) := by decide +kernel
theorem dX2_foldSpan_10 : decode cX2_foldSpan 10 = .ok (.ladd, 1) := by decide +kernel
theorem dX2_foldSpan_11 : decode cX2_foldSpan 11 = .ok (.lstore 5, 2) := by decide +kernel
theorem dX2_foldSpan_13 : decode cX2_foldSpan 13 = .ok (.iload_n 3, 1) := by decide +kernel
theorem dX2_foldSpan_14 : decode cX2_foldSpan 14 = .ok (.istore 7, 2) := by decide +kernel
theorem dX2_foldSpan_16 : decode cX2_foldSpan 16 = .ok (.iload 7, 2) := by decide +kernel
theorem dX2_foldSpan_18 : decode cX2_foldSpan 18 = .ok (.iload 4, 2) := by decide +kernel
theorem dX2_foldSpan_20 : decode cX2_foldSpan 20 = .ok (.if_icmp .ge 25, 3) := by decide +kernel
theorem dX2_foldSpan_23 : decode cX2_foldSpan 23 = .ok (.ldc2_w 69, 3) := by decide +kernel
theorem dX2_foldSpan_26 : decode cX2_foldSpan 26 = .ok (.lload 5, 2) := by decide +kernel
theorem dX2_foldSpan_28 : decode cX2_foldSpan 28 = .ok (.lmul, 1) := by decide +kernel
theorem dX2_foldSpan_29 : decode cX2_foldSpan 29 = .ok (.aload_n 0, 1) := by decide +kernel
theorem dX2_foldSpan_30 : decode cX2_foldSpan 30 = .ok (.iload 7, 2) := by decide +kernel
theorem dX2_foldSpan_32 : decode cX2_foldSpan 32 = .ok (.invokevirtual 25, 3) := by decide +kernel
theorem dX2_foldSpan_35 : decode cX2_foldSpan 35 = .ok (.i2l, 1) := by decide +kernel
theorem dX2_foldSpan_36 : decode cX2_foldSpan 36 = .ok (.ladd, 1) := by decide +kernel
theorem dX2_foldSpan_37 : decode cX2_foldSpan 37 = .ok (.lstore 5, 2) := by decide +kernel
theorem dX2_foldSpan_39 : decode cX2_foldSpan 39 = .ok (.iinc 7 1, 3) := by decide +kernel
theorem dX2_foldSpan_42 : decode cX2_foldSpan 42 = .ok (.goto (-26), 3) := by decide +kernel
theorem dX2_foldSpan_45 : decode cX2_foldSpan 45 = .ok (.lload 5, 2) := by decide +kernel
theorem dX2_foldSpan_47 : decode cX2_foldSpan 47 = .ok (.lreturn, 1) := by decide +kernel
theorem dX3_init_0 : decode cX3_init 0 = .ok (.aload_n 0, 1) := by decide +kernel
theorem dX3_init_1 : decode cX3_init 1 = .ok (.invokespecial 1, 3) := by decide +kernel
theorem dX3_init_4 : decode cX3_init 4 = .ok (.aload_n 0, 1) := by decide +kernel
theorem dX3_init_5 : decode cX3_init 5 = .ok (.new 7, 3) := by decide +kernel
theorem dX3_init_8 : decode cX3_init 8 = .ok (.dup, 1) := by decide +kernel
theorem dX3_init_9 : decode cX3_init 9 = .ok (.invokespecial 9, 3) := by decide +kernel
theorem dX3_init_12 : decode cX3_init 12 = .ok (.putfield 10, 3) := by decide +kernel
theorem dX3_init_15 : decode cX3_init 15 = .ok (.aload_n 0, 1) := by decide +kernel
theorem dX3_init_16 : decode cX3_init 16 = .ok (.iconst 2, 1) := by decide +kernel
theorem dX3_init_17 : decode cX3_init 17 = .ok (.anewarray 7, 3) := by decide +kernel
theorem dX3_init_20 : decode cX3_init 20 = .ok (.putfield 16, 3) := by decide +kernel
theorem dX3_init_23 : decode cX3_init 23 = .ok (.iconst 0, 1) := by decide +kernel
theorem dX3_init_24 : decode cX3_init 24 = .ok (.istore_n 1, 1) := by decide +kernel
theorem dX3_init_25 : decode cX3_init 25 = .ok (.iload_n 1, 1) := by decide +kernel
theorem dX3_init_26 : decode cX3_init 26 = .ok (.iconst 2, 1) := by decide +kernel
theorem dX3_init_27 : decode cX3_init 27 = .ok (.if_icmp .ge 22, 3) := by decide +kernel
theorem dX3_init_30 : decode cX3_init 30 = .ok (.aload_n 0, 1) := by decide +kernel
theorem dX3_init_31 : decode cX3_init 31 = .ok (.getfield 16, 3) := by decide +kernel
theorem dX3_init_34 : decode cX3_init 34 = .ok (.iload_n 1, 1) := by decide +kernel
theorem dX3_init_35 : decode cX3_init 35 = .ok (.new 7, 3) := by decide +kernel
theorem dX3_init_38 : decode cX3_init 38 = .ok (.dup, 1) := by decide +kernel
theorem dX3_init_39 : decode cX3_init 39 = .ok (.invokespecial 9, 3) := by decide +kernel
theorem dX3_init_42 : decode cX3_init 42 = .ok (.aastore, 1) := by decide +kernel
theorem dX3_init_43 : decode cX3_init 43 = .ok (.iinc 1 1, 3) := by decide +kernel
theorem dX3_init_46 : decode cX3_init 46 = .ok (.goto (-21), 3) := by decide +kernel
theorem dX3_init_49 : decode cX3_init 49 = .ok (.aload_n 0, 1) := by decide +kernel
theorem dX3_init_50 : decode cX3_init 50 = .ok (.new 20, 3) := by decide +kernel
theorem dX3_init_53 : decode cX3_init 53 = .ok (.dup, 1) := by decide +kernel
theorem dX3_init_54 : decode cX3_init 54 = .ok (.sipush 600, 3) := by decide +kernel
theorem dX3_init_57 : decode cX3_init 57 = .ok (.invokespecial 22, 3) := by decide +kernel
theorem dX3_init_60 : decode cX3_init 60 = .ok (.putfield 25, 3) := by decide +kernel
theorem dX3_init_63 : decode cX3_init 63 = .ok (.aload_n 0, 1) := by decide +kernel
theorem dX3_init_64 : decode cX3_init 64 = .ok (.new 20, 3) := by decide +kernel
theorem dX3_init_67 : decode cX3_init 67 = .ok (.dup, 1) := by decide +kernel
theorem dX3_init_68 : decode cX3_init 68 = .ok (.sipush 600, 3) := by decide +kernel
theorem dX3_init_71 : decode cX3_init 71 = .ok (.invokespecial 22, 3) := by decide +kernel
theorem dX3_init_74 : decode cX3_init 74 = .ok (.putfield 29, 3) := by decide +kernel
theorem dX3_init_77 : decode cX3_init 77 = .ok (.aload_n 0, 1) := by decide +kernel
theorem dX3_init_78 : decode cX3_init 78 = .ok (.new 32, 3) := by decide +kernel
theorem dX3_init_81 : decode cX3_init 81 = .ok (.dup, 1) := by decide +kernel
theorem dX3_init_82 : decode cX3_init 82 = .ok (.invokespecial 34, 3) := by decide +kernel
theorem dX3_init_85 : decode cX3_init 85 = .ok (.putfield 35, 3) := by decide +kernel
theorem dX3_init_88 : decode cX3_init 88 = .ok (.return_, 1) := by decide +kernel
theorem dX3_wipe_0 : decode cX3_wipe 0 = .ok (.aload_n 0, 1) := by decide +kernel
theorem dX3_wipe_1 : decode cX3_wipe 1 = .ok (.getfield 10, 3) := by decide +kernel
theorem dX3_wipe_4 : decode cX3_wipe 4 = .ok (.iload_n 1, 1) := by decide +kernel
theorem dX3_wipe_5 : decode cX3_wipe 5 = .ok (.invokevirtual 39, 3) := by decide +kernel
theorem dX3_wipe_8 : decode cX3_wipe 8 = .ok (.astore_n 2, 1) := by decide +kernel
theorem dX3_wipe_9 : decode cX3_wipe 9 = .ok (.aload_n 2, 1) := by decide +kernel
theorem dX3_wipe_10 : decode cX3_wipe 10 = .ok (.invokevirtual 43, 3) := by decide +kernel
theorem dX3_wipe_13 : decode cX3_wipe 13 = .ok (.istore_n 3, 1) := by decide +kernel
theorem dX3_wipe_14 : decode cX3_wipe 14 = .ok (.aload_n 2, 1) := by decide +kernel
theorem dX3_wipe_15 : decode cX3_wipe 15 = .ok (.invokevirtual 47, 3) := by decide +kernel
theorem dX3_wipe_18 : decode cX3_wipe 18 = .ok (.iload_n 3, 1) := by decide +kernel
theorem dX3_wipe_19 : decode cX3_wipe 19 = .ok (.ireturn, 1) := by decide +kernel
theorem dX3_type_0 : decode cX3_type 0 = .ok (.aload_n 0, 1) := by decide +kernel
theorem dX3_type_1 : decode cX3_type 1 = .ok (.getfield 10, 3) := by decide +kernel
theorem dX3_type_4 : decode cX3_type 4 = .ok (.iload_n 1, 1) := by decide +kernel
theorem dX3_type_5 : decode cX3_type 5 = .ok (.invokevirtual 39, 3) := by decide +kernel
theorem dX3_type_8 : decode cX3_type 8 = .ok (.astore_n 3, 1) := by decide +kernel
theorem dX3_type_9 : decode cX3_type 9 = .ok (.iload_n 2, 1) := by decide +kernel
theorem dX3_type_10 : decode cX3_type 10 = .ok (.invokestatic 50, 3) := by decide +kernel
theorem dX3_type_13 : decode cX3_type 13 = .ok (.ifCond .ne 6, 3) := by decide +kernel
theorem dX3_type_16 : decode cX3_type 16 = .ok (.ldc 54, 2) := by decide +kernel
theorem dX3_type_18 : decode cX3_type 18 = .ok (.ireturn, 1) := by decide +kernel
theorem dX3_type_19 : decode cX3_type 19 = .ok (.aload_n 3, 1) := by decide +kernel
theorem dX3_type_20 : decode cX3_type 20 = .ok (.invokevirtual 43, 3) := by decide +kernel
theorem dX3_type_23 : decode cX3_type 23 = .ok (.sipush 300, 3) := by decide +kernel
theorem dX3_type_26 : decode cX3_type 26 = .ok (.if_icmp .lt 6, 3) := by decide +kernel
theorem dX3_type_29 : decode cX3_type 29 = .ok (.ldc 55, 2) := by decide +kernel
theorem dX3_type_31 : decode cX3_type 31 = .ok (.ireturn, 1) := by decide +kernel
theorem dX3_type_32 : decode cX3_type 32 = .ok (.aload_n 3, 1) := by decide +kernel
theorem dX3_type_33 : decode cX3_type 33 = .ok (.iload_n 2, 1) := by decide +kernel
theorem dX3_type_34 : decode cX3_type 34 = .ok (.invokevirtual 56, 3) := by decide +kernel
theorem dX3_type_37 : decode cX3_type 37 = .ok (.aload_n 3, 1) := by decide +kernel
theorem dX3_type_38 : decode cX3_type 38 = .ok (.invokevirtual 43, 3) := by decide +kernel
theorem dX3_type_41 : decode cX3_type 41 = .ok (.ireturn, 1) := by decide +kernel
theorem dX3_feed_0 : decode cX3_feed 0 = .ok (.aload_n 0, 1) := by decide +kernel
theorem dX3_feed_1 : decode cX3_feed 1 = .ok (.getfield 10, 3) := by decide +kernel
theorem dX3_feed_4 : decode cX3_feed 4 = .ok (.iload_n 1, 1) := by decide +kernel
theorem dX3_feed_5 : decode cX3_feed 5 = .ok (.invokevirtual 39, 3) := by decide +kernel
theorem dX3_feed_8 : decode cX3_feed 8 = .ok (.astore 5, 2) := by decide +kernel
theorem dX3_feed_10 : decode cX3_feed 10 = .ok (.iload 4, 2) := by decide +kernel
theorem dX3_feed_12 : decode cX3_feed 12 = .ok (.iconst 1, 1) := by decide +kernel
theorem dX3_feed_13 : decode cX3_feed 13 = .ok (.if_icmp .lt 19, 3) := by decide +kernel
theorem dX3_feed_16 : decode cX3_feed 16 = .ok (.iload 4, 2) := by decide +kernel
theorem dX3_feed_18 : decode cX3_feed 18 = .ok (.bipush 8, 2) := by decide +kernel
theorem dX3_feed_20 : decode cX3_feed 20 = .ok (.if_icmp .gt 12, 3) := by decide +kernel
theorem dX3_feed_23 : decode cX3_feed 23 = .ok (.lload_n 2, 1) := by decide +kernel
theorem dX3_feed_24 : decode cX3_feed 24 = .ok (.iload 4, 2) := by decide +kernel
theorem dX3_feed_26 : decode cX3_feed 26 = .ok (.invokestatic 59, 3) := by decide +kernel
theorem dX3_feed_29 : decode cX3_feed 29 = .ok (.ifCond .ne 6, 3) := by decide +kernel
theorem dX3_feed_32 : decode cX3_feed 32 = .ok (.ldc 54, 2) := by decide +kernel
theorem dX3_feed_34 : decode cX3_feed 34 = .ok (.ireturn, 1) := by decide +kernel
theorem dX3_feed_35 : decode cX3_feed 35 = .ok (.aload 5, 2) := by decide +kernel
theorem dX3_feed_37 : decode cX3_feed 37 = .ok (.invokevirtual 43, 3) := by decide +kernel
theorem dX3_feed_40 : decode cX3_feed 40 = .ok (.iload 4, 2) := by decide +kernel
theorem dX3_feed_42 : decode cX3_feed 42 = .ok (.iadd, 1) := by decide +kernel
theorem dX3_feed_43 : decode cX3_feed 43 = .ok (.sipush 300, 3) := by decide +kernel
theorem dX3_feed_46 : decode cX3_feed 46 = .ok (.if_icmp .le 6, 3) := by decide +kernel
theorem dX3_feed_49 : decode cX3_feed 49 = .ok (.ldc 55, 2) := by decide +kernel
theorem dX3_feed_51 : decode cX3_feed 51 = .ok (.ireturn, 1) := by decide +kernel
theorem dX3_feed_52 : decode cX3_feed 52 = .ok (.iconst 0, 1) := by decide +kernel
theorem dX3_feed_53 : decode cX3_feed 53 = .ok (.istore 6, 2) := by decide +kernel
theorem dX3_feed_55 : decode cX3_feed 55 = .ok (.iload 6, 2) := by decide +kernel
theorem dX3_feed_57 : decode cX3_feed 57 = .ok (.iload 4, 2) := by decide +kernel
theorem dX3_feed_59 : decode cX3_feed 59 = .ok (.if_icmp .ge 20, 3) := by decide +kernel
theorem dX3_feed_62 : decode cX3_feed 62 = .ok (.aload 5, 2) := by decide +kernel
theorem dX3_feed_64 : decode cX3_feed 64 = .ok (.lload_n 2, 1) := by decide +kernel
theorem dX3_feed_65 : decode cX3_feed 65 = .ok (.iload 6, 2) := by decide +kernel
theorem dX3_feed_67 : decode cX3_feed 67 = .ok (.invokestatic 63, 3) := by decide +kernel
theorem dX3_feed_70 : decode cX3_feed 70 = .ok (.invokevirtual 56, 3) := by decide +kernel
theorem dX3_feed_73 : decode cX3_feed 73 = .ok (.iinc 6 1, 3) := by decide +kernel
theorem dX3_feed_76 : decode cX3_feed 76 = .ok (.goto (-21), 3) := by decide +kernel
theorem dX3_feed_79 : decode cX3_feed 79 = .ok (.aload 5, 2) := by decide +kernel
theorem dX3_feed_81 : decode cX3_feed 81 = .ok (.invokevirtual 43, 3) := by decide +kernel
theorem dX3_feed_84 : decode cX3_feed 84 = .ok (.ireturn, 1) := by decide +kernel
theorem dX3_copy_0 : decode cX3_copy 0 = .ok (.aload_n 0, 1) := by decide +kernel
theorem dX3_copy_1 : decode cX3_copy 1 = .ok (.getfield 25, 3) := by decide +kernel
theorem dX3_copy_4 : decode cX3_copy 4 = .ok (.aload_n 0, 1) := by decide +kernel
theorem dX3_copy_5 : decode cX3_copy 5 = .ok (.getfield 10, 3) := by decide +kernel
theorem dX3_copy_8 : decode cX3_copy 8 = .ok (.iload_n 1, 1) := by decide +kernel
theorem dX3_copy_9 : decode cX3_copy 9 = .ok (.invokevirtual 39, 3) := by decide +kernel
theorem dX3_copy_12 : decode cX3_copy 12 = .ok (.invokevirtual 67, 3) := by decide +kernel
theorem dX3_copy_15 : decode cX3_copy 15 = .ok (.aload_n 0, 1) := by decide +kernel
theorem dX3_copy_16 : decode cX3_copy 16 = .ok (.iload_n 2, 1) := by decide +kernel
theorem dX3_copy_17 : decode cX3_copy 17 = .ok (.invokevirtual 71, 3) := by decide +kernel
theorem dX3_copy_20 : decode cX3_copy 20 = .ok (.ireturn, 1) := by decide +kernel
theorem dX3_swap_0 : decode cX3_swap 0 = .ok (.aload_n 0, 1) := by decide +kernel
theorem dX3_swap_1 : decode cX3_swap 1 = .ok (.getfield 10, 3) := by decide +kernel
theorem dX3_swap_4 : decode cX3_swap 4 = .ok (.iload_n 1, 1) := by decide +kernel
theorem dX3_swap_5 : decode cX3_swap 5 = .ok (.iload_n 2, 1) := by decide +kernel
theorem dX3_swap_6 : decode cX3_swap 6 = .ok (.invokevirtual 75, 3) := by decide +kernel
theorem dX3_swap_9 : decode cX3_swap 9 = .ok (.aload_n 0, 1) := by decide +kernel
theorem dX3_swap_10 : decode cX3_swap 10 = .ok (.getfield 10, 3) := by decide +kernel
theorem dX3_swap_13 : decode cX3_swap 13 = .ok (.iload_n 1, 1) := by decide +kernel
theorem dX3_swap_14 : decode cX3_swap 14 = .ok (.invokevirtual 39, 3) := by decide +kernel
theorem dX3_swap_17 : decode cX3_swap 17 = .ok (.invokevirtual 43, 3) := by decide +kernel
theorem dX3_swap_20 : decode cX3_swap 20 = .ok (.ireturn, 1) := by decide +kernel
theorem dX3_concat_0 : decode cX3_concat 0 = .ok (.aload_n 0, 1) := by decide +kernel
theorem dX3_concat_1 : decode cX3_concat 1 = .ok (.getfield 10, 3) := by decide +kernel
theorem dX3_concat_4 : decode cX3_concat 4 = .ok (.iload_n 1, 1) := by decide +kernel
theorem dX3_concat_5 : decode cX3_concat 5 = .ok (.invokevirtual 39, 3) := by decide +kernel
theorem dX3_concat_8 : decode cX3_concat 8 = .ok (.astore 4, 2) := by decide +kernel
theorem dX3_concat_10 : decode cX3_concat 10 = .ok (.aload_n 0, 1) := by decide +kernel
theorem dX3_concat_11 : decode cX3_concat 11 = .ok (.getfield 10, 3) := by decide +kernel
theorem dX3_concat_14 : decode cX3_concat 14 = .ok (.iload_n 2, 1) := by decide +kernel
theorem dX3_concat_15 : decode cX3_concat 15 = .ok (.invokevirtual 39, 3) := by decide +kernel
theorem dX3_concat_18 : decode cX3_concat 18 = .ok (.astore 5, 2) := by decide +kernel
theorem dX3_concat_20 : decode cX3_concat 20 = .ok (.aload 4, 2) := by decide +kernel
theorem dX3_concat_22 : decode cX3_concat 22 = .ok (.invokevirtual 43, 3) := by decide +kernel
theorem dX3_concat_25 : decode cX3_concat 25 = .ok (.aload 5, 2) := by decide +kernel
theorem dX3_concat_27 : decode cX3_concat 27 = .ok (.invokevirtual 43, 3) := by decide +kernel
theorem dX3_concat_30 : decode cX3_concat 30 = .ok (.iadd, 1) := by decide +kernel
theorem dX3_concat_31 : decode cX3_concat 31 = .ok (.sipush 300, 3) := by decide +kernel
theorem dX3_concat_34 : decode cX3_concat 34 = .ok (.if_icmp .le 6, 3) := by decide +kernel
theorem dX3_concat_37 : decode cX3_concat 37 = .ok (.ldc 55, 2) := by decide +kernel
theorem dX3_concat_39 : decode cX3_concat 39 = .ok (.ireturn, 1) := by decide +kernel
theorem dX3_concat_40 : decode cX3_concat 40 = .ok (.aload_n 0, 1) := by decide +kernel
theorem dX3_concat_41 : decode cX3_concat 41 = .ok (.getfield 25, 3) := by decide +kernel
theorem dX3_concat_44 : decode cX3_concat 44 = .ok (.aload 4, 2) := by decide +kernel
theorem dX3_concat_46 : decode cX3_concat 46 = .ok (.invokevirtual 67, 3) := by decide +kernel
theorem dX3_concat_49 : decode cX3_concat 49 = .ok (.aload_n 0, 1) := by decide +kernel
theorem dX3_concat_50 : decode cX3_concat 50 = .ok (.getfield 25, 3) := by decide +kernel
theorem dX3_concat_53 : decode cX3_concat 53 = .ok (.aload 5, 2) := by decide +kernel
theorem dX3_concat_55 : decode cX3_concat 55 = .ok (.invokevirtual 79, 3) := by decide +kernel
theorem dX3_concat_58 : decode cX3_concat 58 = .ok (.aload_n 0, 1) := by decide +kernel
theorem dX3_concat_59 : decode cX3_concat 59 = .ok (.iload_n 3, 1) := by decide +kernel
theorem dX3_concat_60 : decode cX3_concat 60 = .ok (.invokevirtual 71, 3) := by decide +kernel
theorem dX3_concat_63 : decode cX3_concat 63 = .ok (.ireturn, 1) := by decide +kernel
theorem dX3_substring_0 : decode cX3_substring 0 = .ok (.aload_n 0, 1) := by decide +kernel
theorem dX3_substring_1 : decode cX3_substring 1 = .ok (.getfield 10, 3) := by decide +kernel
theorem dX3_substring_4 : decode cX3_substring 4 = .ok (.iload_n 1, 1) := by decide +kernel
theorem dX3_substring_5 : decode cX3_substring 5 = .ok (.invokevirtual 39, 3) := by decide +kernel
theorem dX3_substring_8 : decode cX3_substring 8 = .ok (.astore 5, 2) := by decide +kernel
theorem dX3_substring_10 : decode cX3_substring 10 = .ok (.iload_n 2, 1) := by decide +kernel
theorem dX3_substring_11 : decode cX3_substring 11 = .ok (.ifCond .lt 17, 3) := by decide +kernel
theorem dX3_substring_14 : decode cX3_substring 14 = .ok (.iload_n 3, 1) := by decide +kernel
theorem dX3_substring_15 : decode cX3_substring 15 = .ok (.aload 5, 2) := by decide +kernel
theorem dX3_substring_17 : decode cX3_substring 17 = .ok (.invokevirtual 43, 3) := by decide +kernel
theorem dX3_substring_20 : decode cX3_substring 20 = .ok (.if_icmp .gt 8, 3) := by decide +kernel
theorem dX3_substring_23 : decode cX3_substring 23 = .ok (.iload_n 2, 1) := by decide +kernel
theorem dX3_substring_24 : decode cX3_substring 24 = .ok (.iload_n 3, 1) := by decide +kernel
theorem dX3_substring_25 : decode cX3_substring 25 = .ok (.if_icmp .le 6, 3) := by decide +kernel
theorem dX3_substring_28 : decode cX3_substring 28 = .ok (.ldc 82, 2) := by decide +kernel
theorem dX3_substring_30 : decode cX3_substring 30 = .ok (.ireturn, 1) := by decide +kernel
theorem dX3_substring_31 : decode cX3_substring 31 = .ok (.aload_n 0, 1) := by decide +kernel
theorem dX3_substring_32 : decode cX3_substring 32 = .ok (.getfield 25, 3) := by decide +kernel
theorem dX3_substring_35 : decode cX3_substring 35 = .ok (.invokevirtual 47, 3) := by decide +kernel
theorem dX3_substring_38 : decode cX3_substring 38 = .ok (.aload_n 0, 1) := by decide +kernel
theorem dX3_substring_39 : decode cX3_substring 39 = .ok (.getfield 25, 3) := by decide +kernel
theorem dX3_substring_42 : decode cX3_substring 42 = .ok (.aload 5, 2) := by decide +kernel
theorem dX3_substring_44 : decode cX3_substring 44 = .ok (.iload_n 2, 1) := by decide +kernel
theorem dX3_substring_45 : decode cX3_substring 45 = .ok (.iload_n 3, 1) := by decide +kernel
theorem dX3_substring_46 : decode cX3_substring 46 = .ok (.invokevirtual 83, 3) := by decide +kernel
theorem dX3_substring_49 : decode cX3_substring 49 = .ok (.aload_n 0, 1) := by decide +kernel
theorem dX3_substring_50 : decode cX3_substring 50 = .ok (.iload 4, 2) := by decide +kernel
theorem dX3_substring_52 : decode cX3_substring 52 = .ok (.invokevirtual 71, 3) := by decide +kernel
theorem dX3_substring_55 : decode cX3_substring 55 = .ok (.ireturn, 1) := by decide +kernel
theorem dX3_tail_0 : decode cX3_tail 0 = .ok (.aload_n 0, 1) := by decide +kernel
theorem dX3_tail_1 : decode cX3_tail 1 = .ok (.iload_n 1, 1) := by decide +kernel
theorem dX3_tail_2 : decode cX3_tail 2 = .ok (.iload_n 2, 1) := by decide +kernel
theorem dX3_tail_3 : decode cX3_tail 3 = .ok (.aload_n 0, 1) := by decide +kernel
theorem dX3_tail_4 : decode cX3_tail 4 = .ok (.getfield 10, 3) := by decide +kernel
theorem dX3_tail_7 : decode cX3_tail 7 = .ok (.iload_n 1, 1) := by decide +kernel
theorem dX3_tail_8 : decode cX3_tail 8 = .ok (.invokevirtual 39, 3) := by decide +kernel
theorem dX3_tail_11 : decode cX3_tail 11 = .ok (.invokevirtual 43, 3) := by decide +kernel
theorem dX3_tail_14 : decode cX3_tail 14 = .ok (.iload_n 3, 1) := by decide +kernel
theorem dX3_tail_15 : decode cX3_tail 15 = .ok (.invokevirtual 87, 3) := by decide +kernel
theorem dX3_tail_18 : decode cX3_tail 18 = .ok (.ireturn, 1) := by decide +kernel
theorem dX3_number_0 : decode cX3_number 0 = .ok (.aload_n 0, 1) := by decide +kernel
theorem dX3_number_1 : decode cX3_number 1 = .ok (.iload_n 1, 1) := by decide +kernel
theorem dX3_number_2 : decode cX3_number 2 = .ok (.i2l, 1) := by decide +kernel
theorem dX3_number_3 : decode cX3_number 3 = .ok (.iload_n 2, 1) := by decide +kernel
theorem dX3_number_4 : decode cX3_number 4 = .ok (.invokevirtual 91, 3) := by decide +kernel
theorem dX3_number_7 : decode cX3_number 7 = .ok (.ireturn, 1) := by decide +kernel
theorem dX3_big_0 : decode cX3_big 0 = .ok (.aload_n 0, 1) := by decide +kernel
theorem dX3_big_1 : decode cX3_big 1 = .ok (.getfield 29, 3) := by decide +kernel
theorem dX3_big_4 : decode cX3_big 4 = .ok (.invokevirtual 47, 3) := by decide +kernel
theorem dX3_big_7 : decode cX3_big 7 = .ok (.aload_n 0, 1) := by decide +kernel
theorem dX3_big_8 : decode cX3_big 8 = .ok (.getfield 29, 3) := by decide +kernel
theorem dX3_big_11 : decode cX3_big 11 = .ok (.lload_n 1, 1) := by decide +kernel
theorem dX3_big_12 : decode cX3_big 12 = .ok (.invokevirtual 94, 3) := by decide +kernel
theorem dX3_big_15 : decode cX3_big 15 = .ok (.lload_n 1, 1) := by decide +kernel
theorem dX3_big_16 : decode cX3_big 16 = .ok (.lconst 0, 1) := by decide +kernel
theorem dX3_big_17 : decode cX3_big 17 = .ok (.lcmp, 1) := by decide +kernel
theorem dX3_big_18 : decode cX3_big 18 = .ok (.ifCond .ge 12, 3) := by decide +kernel
theorem dX3_big_21 : decode cX3_big 21 = .ok (.aload_n 0, 1) := by decide +kernel
theorem dX3_big_22 : decode cX3_big 22 = .ok (.getfield 29, 3) := by decide +kernel
theorem dX3_big_25 : decode cX3_big 25 = .ok (.bipush 45, 2) := by decide +kernel
theorem dX3_big_27 : decode cX3_big 27 = .ok (.invokevirtual 56, 3) := by decide +kernel
theorem dX3_big_30 : decode cX3_big 30 = .ok (.aload_n 0, 1) := by decide +kernel
theorem dX3_big_31 : decode cX3_big 31 = .ok (.getfield 25, 3) := by decide +kernel
theorem dX3_big_34 : decode cX3_big 34 = .ok (.invokevirtual 47, 3) := by decide +kernel
theorem dX3_big_37 : decode cX3_big 37 = .ok (.aload_n 0, 1) := by decide +kernel
theorem dX3_big_38 : decode cX3_big 38 = .ok (.getfield 25, 3) := by decide +kernel
theorem dX3_big_41 : decode cX3_big 41 = .ok (.aload_n 0, 1) := by decide +kernel
theorem dX3_big_42 : decode cX3_big 42 = .ok (.getfield 29, 3) := by decide +kernel
theorem dX3_big_45 : decode cX3_big 45 = .ok (.invokevirtual 98, 3) := by decide +kernel
theorem dX3_big_48 : decode cX3_big 48 = .ok (.aload_n 0, 1) := by decide +kernel
theorem dX3_big_49 : decode cX3_big 49 = .ok (.iload_n 3, 1) := by decide +kernel
theorem dX3_big_50 : decode cX3_big 50 = .ok (.invokevirtual 71, 3) := by decide +kernel
theorem dX3_big_53 : decode cX3_big 53 = .ok (.ireturn, 1) := by decide +kernel
theorem dX3_length_0 : decode cX3_length 0 = .ok (.aload_n 0, 1) := by decide +kernel
theorem dX3_length_1 : decode cX3_length 1 = .ok (.getfield 10, 3) := by decide +kernel
theorem dX3_length_4 : decode cX3_length 4 = .ok (.iload_n 1, 1) := by decide +kernel
theorem dX3_length_5 : decode cX3_length 5 = .ok (.invokevirtual 39, 3) := by decide +kernel
theorem dX3_length_8 : decode cX3_length 8 = .ok (.invokevirtual 43, 3) := by decide +kernel
theorem dX3_length_11 : decode cX3_length 11 = .ok (.ireturn, 1) := by decide +kernel
theorem dX3_isEmpty_0 : decode cX3_isEmpty 0 = .ok (.aload_n 0, 1) := by decide +kernel
theorem dX3_isEmpty_1 : decode cX3_isEmpty 1 = .ok (.getfield 10, 3) := by decide +kernel
theorem dX3_isEmpty_4 : decode cX3_isEmpty 4 = .ok (.iload_n 1, 1) := by decide +kernel
theorem dX3_isEmpty_5 : decode cX3_isEmpty 5 = .ok (.invokevirtual 39, 3) := by decide +kernel
theorem dX3_isEmpty_8 : decode cX3_isEmpty 8 = .ok (.invokevirtual 43, 3) := by decide +kernel
theorem dX3_isEmpty_11 : decode cX3_isEmpty 11 = .ok (.ifCond .ne 7, 3) := by decide +kernel
theorem dX3_isEmpty_14 : decode cX3_isEmpty 14 = .ok (.iconst 1, 1) := by decide +kernel
theorem dX3_isEmpty_15 : decode cX3_isEmpty 15 = .ok (.goto 4, 3) := by decide +kernel
theorem dX3_isEmpty_18 : decode cX3_isEmpty 18 = .ok (.iconst 0, 1) := by decide +kernel
theorem dX3_isEmpty_19 : decode cX3_isEmpty 19 = .ok (.ireturn, 1) := by decide +kernel
theorem dX3_isBlank_0 : decode cX3_isBlank 0 = .ok (.aload_n 0, 1) := by decide +kernel
theorem dX3_isBlank_1 : decode cX3_isBlank 1 = .ok (.getfield 10, 3) := by decide +kernel
theorem dX3_isBlank_4 : decode cX3_isBlank 4 = .ok (.iload_n 1, 1) := by decide +kernel
theorem dX3_isBlank_5 : decode cX3_isBlank 5 = .ok (.invokevirtual 39, 3) := by decide +kernel
theorem dX3_isBlank_8 : decode cX3_isBlank 8 = .ok (.astore_n 2, 1) := by decide +kernel
theorem dX3_isBlank_9 : decode cX3_isBlank 9 = .ok (.aload_n 2, 1) := by decide +kernel
theorem dX3_isBlank_10 : decode cX3_isBlank 10 = .ok (.iconst 1, 1) := by decide +kernel
theorem dX3_isBlank_11 : decode cX3_isBlank 11 = .ok (.invokevirtual 101, 3) := by decide +kernel
theorem dX3_isBlank_14 : decode cX3_isBlank 14 = .ok (.aload_n 2, 1) := by decide +kernel
theorem dX3_isBlank_15 : decode cX3_isBlank 15 = .ok (.invokevirtual 43, 3) := by decide +kernel
theorem dX3_isBlank_18 : decode cX3_isBlank 18 = .ok (.if_icmp .ne 7, 3) := by decide +kernel
theorem dX3_isBlank_21 : decode cX3_isBlank 21 = .ok (.iconst 1, 1) := by decide +kernel
theorem dX3_isBlank_22 : decode cX3_isBlank 22 = .ok (.goto 4, 3) := by decide +kernel
theorem dX3_isBlank_25 : decode cX3_isBlank 25 = .ok (.iconst 0, 1) := by decide +kernel
theorem dX3_isBlank_26 : decode cX3_isBlank 26 = .ok (.ireturn, 1) := by decide +kernel
theorem dX3_charAt_0 : decode cX3_charAt 0 = .ok (.aload_n 0, 1) := by decide +kernel
theorem dX3_charAt_1 : decode cX3_charAt 1 = .ok (.getfield 10, 3) := by decide +kernel
theorem dX3_charAt_4 : decode cX3_charAt 4 = .ok (.iload_n 1, 1) := by decide +kernel
theorem dX3_charAt_5 : decode cX3_charAt 5 = .ok (.invokevirtual 39, 3) := by decide +kernel
theorem dX3_charAt_8 : decode cX3_charAt 8 = .ok (.astore_n 3, 1) := by decide +kernel
theorem dX3_charAt_9 : decode cX3_charAt 9 = .ok (.iload_n 2, 1) := by decide +kernel
theorem dX3_charAt_10 : decode cX3_charAt 10 = .ok (.ifCond .lt 11, 3) := by decide +kernel
theorem dX3_charAt_13 : decode cX3_charAt 13 = .ok (.iload_n 2, 1) := by decide +kernel
theorem dX3_charAt_14 : decode cX3_charAt 14 = .ok (.aload_n 3, 1) := by decide +kernel
theorem dX3_charAt_15 : decode cX3_charAt 15 = .ok (.invokevirtual 43, 3) := by decide +kernel
theorem dX3_charAt_18 : decode cX3_charAt 18 = .ok (.if_icmp .lt 6, 3) := by decide +kernel
theorem dX3_charAt_21 : decode cX3_charAt 21 = .ok (.ldc 82, 2) := by decide +kernel
theorem dX3_charAt_23 : decode cX3_charAt 23 = .ok (.ireturn, 1) := by decide +kernel
theorem dX3_charAt_24 : decode cX3_charAt 24 = .ok (.aload_n 3, 1) := by decide +kernel
theorem dX3_charAt_25 : decode cX3_charAt 25 = .ok (.iload_n 2, 1) := by decide +kernel
theorem dX3_charAt_26 : decode cX3_charAt 26 = .ok (.invokevirtual 105, 3) := by decide +kernel
theorem dX3_charAt_29 : decode cX3_charAt 29 = .ok (.ireturn, 1) := by decide +kernel
theorem dX3_hash_0 : decode cX3_hash 0 = .ok (.aload_n 0, 1) := by decide +kernel
theorem dX3_hash_1 : decode cX3_hash 1 = .ok (.getfield 10, 3) := by decide +kernel
theorem dX3_hash_4 : decode cX3_hash 4 = .ok (.iload_n 1, 1) := by decide +kernel
theorem dX3_hash_5 : decode cX3_hash 5 = .ok (.invokevirtual 39, 3) := by decide +kernel
theorem dX3_hash_8 : decode cX3_hash 8 = .ok (.astore_n 2, 1) := by decide +kernel
theorem dX3_hash_9 : decode cX3_hash 9 = .ok (.iconst 0, 1) := by decide +kernel
theorem dX3_hash_10 : decode cX3_hash 10 = .ok (.istore_n 3, 1) := by decide +kernel
theorem dX3_hash_11 : decode cX3_hash 11 = .ok (.iconst 0, 1) := by decide +kernel
theorem dX3_hash_12 : decode cX3_hash 12 = .ok (.istore 4, 2) := by decide +kernel
theorem dX3_hash_14 : decode cX3_hash 14 = .ok (.iload 4, 2) := by decide +kernel
theorem dX3_hash_16 : decode cX3_hash 16 = .ok (.aload_n 2, 1) := by decide +kernel
theorem dX3_hash_17 : decode cX3_hash 17 = .ok (.invokevirtual 43, 3) := by decide +kernel
theorem dX3_hash_20 : decode cX3_hash 20 = .ok (.if_icmp .ge 21, 3) := by decide +kernel
theorem dX3_hash_23 : decode cX3_hash 23 = .ok (.bipush 31, 2) := by decide +kernel
theorem dX3_hash_25 : decode cX3_hash 25 = .ok (.iload_n 3, 1) := by decide +kernel
theorem dX3_hash_26 : decode cX3_hash 26 = .ok (.imul, 1) := by decide +kernel
theorem dX3_hash_27 : decode cX3_hash 27 = .ok (.aload_n 2, 1) := by decide +kernel
theorem dX3_hash_28 : decode cX3_hash 28 = .ok (.iload 4, 2) := by decide +kernel
theorem dX3_hash_30 : decode cX3_hash 30 = .ok (.invokevirtual 105, 3) := by decide +kernel
theorem dX3_hash_33 : decode cX3_hash 33 = .ok (.iadd, 1) := by decide +kernel
theorem dX3_hash_34 : decode cX3_hash 34 = .ok (.istore_n 3, 1) := by decide +kernel
theorem dX3_hash_35 : decode cX3_hash 35 = .ok (.iinc 4 1, 3) := by decide +kernel
theorem dX3_hash_38 : decode cX3_hash 38 = .ok (.goto (-24), 3) := by decide +kernel
theorem dX3_hash_41 : decode cX3_hash 41 = .ok (.iload_n 3, 1) := by decide +kernel
theorem dX3_hash_42 : decode cX3_hash 42 = .ok (.ireturn, 1) := by decide +kernel
theorem dX3_first_0 : decode cX3_first 0 = .ok (.aload_n 0, 1) := by decide +kernel
theorem dX3_first_1 : decode cX3_first 1 = .ok (.iload_n 1, 1) := by decide +kernel
theorem dX3_first_2 : decode cX3_first 2 = .ok (.iload_n 2, 1) := by decide +kernel
theorem dX3_first_3 : decode cX3_first 3 = .ok (.iconst 0, 1) := by decide +kernel
theorem dX3_first_4 : decode cX3_first 4 = .ok (.invokevirtual 108, 3) := by decide +kernel
theorem dX3_first_7 : decode cX3_first 7 = .ok (.ireturn, 1) := by decide +kernel
theorem dX3_firstFrom_0 : decode cX3_firstFrom 0 = .ok (.aload_n 0, 1) := by decide +kernel
theorem dX3_firstFrom_1 : decode cX3_firstFrom 1 = .ok (.getfield 10, 3) := by decide +kernel
theorem dX3_firstFrom_4 : decode cX3_firstFrom 4 = .ok (.iload_n 1, 1) := by decide +kernel
theorem dX3_firstFrom_5 : decode cX3_firstFrom 5 = .ok (.invokevirtual 39, 3) := by decide +kernel
theorem dX3_firstFrom_8 : decode cX3_firstFrom 8 = .ok (.iload_n 2, 1) := by decide +kernel
theorem dX3_firstFrom_9 : decode cX3_firstFrom 9 = .ok (.iload_n 3, 1) := by decide +kernel
theorem dX3_firstFrom_10 : decode cX3_firstFrom 10 = .ok (.invokevirtual 112, 3) := by decide +kernel
theorem dX3_firstFrom_13 : decode cX3_firstFrom 13 = .ok (.ireturn, 1) := by decide +kernel
theorem dX3_last_0 : decode cX3_last 0 = .ok (.aload_n 0, 1) := by decide +kernel
theorem dX3_last_1 : decode cX3_last 1 = .ok (.iload_n 1, 1) := by decide +kernel
theorem dX3_last_2 : decode cX3_last 2 = .ok (.iload_n 2, 1) := by decide +kernel
theorem dX3_last_3 : decode cX3_last 3 = .ok (.sipush 300, 3) := by decide +kernel
theorem dX3_last_6 : decode cX3_last 6 = .ok (.invokevirtual 116, 3) := by decide +kernel
theorem dX3_last_9 : decode cX3_last 9 = .ok (.ireturn, 1) := by decide +kernel
theorem dX3_lastFrom_0 : decode cX3_lastFrom 0 = .ok (.aload_n 0, 1) := by decide +kernel
theorem dX3_lastFrom_1 : decode cX3_lastFrom 1 = .ok (.getfield 10, 3) := by decide +kernel
theorem dX3_lastFrom_4 : decode cX3_lastFrom 4 = .ok (.iload_n 1, 1) := by decide +kernel
theorem dX3_lastFrom_5 : decode cX3_lastFrom 5 = .ok (.invokevirtual 39, 3) := by decide +kernel
theorem dX3_lastFrom_8 : decode cX3_lastFrom 8 = .ok (.iload_n 2, 1) := by decide +kernel
theorem dX3_lastFrom_9 : decode cX3_lastFrom 9 = .ok (.iload_n 3, 1) := by decide +kernel
theorem dX3_lastFrom_10 : decode cX3_lastFrom 10 = .ok (.invokevirtual 119, 3) := by decide +kernel
theorem dX3_lastFrom_13 : decode cX3_lastFrom 13 = .ok (.ireturn, 1) := by decide +kernel
theorem dX3_find_0 : decode cX3_find 0 = .ok (.aload_n 0, 1) := by decide +kernel
theorem dX3_find_1 : decode cX3_find 1 = .ok (.iload_n 1, 1) := by decide +kernel
theorem dX3_find_2 : decode cX3_find 2 = .ok (.iload_n 2, 1) := by decide +kernel
theorem dX3_find_3 : decode cX3_find 3 = .ok (.iconst 0, 1) := by decide +kernel
theorem dX3_find_4 : decode cX3_find 4 = .ok (.invokevirtual 122, 3) := by decide +kernel
theorem dX3_find_7 : decode cX3_find 7 = .ok (.ireturn, 1) := by decide +kernel
theorem dX3_findFrom_0 : decode cX3_findFrom 0 = .ok (.aload_n 0, 1) := by decide +kernel
theorem dX3_findFrom_1 : decode cX3_findFrom 1 = .ok (.getfield 10, 3) := by decide +kernel
theorem dX3_findFrom_4 : decode cX3_findFrom 4 = .ok (.iload_n 1, 1) := by decide +kernel
theorem dX3_findFrom_5 : decode cX3_findFrom 5 = .ok (.invokevirtual 39, 3) := by decide +kernel
theorem dX3_findFrom_8 : decode cX3_findFrom 8 = .ok (.aload_n 0, 1) := by decide +kernel
theorem dX3_findFrom_9 : decode cX3_findFrom 9 = .ok (.getfield 10, 3) := by decide +kernel
theorem dX3_findFrom_12 : decode cX3_findFrom 12 = .ok (.iload_n 2, 1) := by decide +kernel
theorem dX3_findFrom_13 : decode cX3_findFrom 13 = .ok (.invokevirtual 39, 3) := by decide +kernel
theorem dX3_findFrom_16 : decode cX3_findFrom 16 = .ok (.iload_n 3, 1) := by decide +kernel
theorem dX3_findFrom_17 : decode cX3_findFrom 17 = .ok (.invokevirtual 125, 3) := by decide +kernel
theorem dX3_findFrom_20 : decode cX3_findFrom 20 = .ok (.ireturn, 1) := by decide +kernel
theorem dX3_findLast_0 : decode cX3_findLast 0 = .ok (.aload_n 0, 1) := by decide +kernel
theorem dX3_findLast_1 : decode cX3_findLast 1 = .ok (.iload_n 1, 1) := by decide +kernel
theorem dX3_findLast_2 : decode cX3_findLast 2 = .ok (.iload_n 2, 1) := by decide +kernel
theorem dX3_findLast_3 : decode cX3_findLast 3 = .ok (.sipush 300, 3) := by decide +kernel
theorem dX3_findLast_6 : decode cX3_findLast 6 = .ok (.invokevirtual 129, 3) := by decide +kernel
theorem dX3_findLast_9 : decode cX3_findLast 9 = .ok (.ireturn, 1) := by decide +kernel
theorem dX3_findLastFrom_0 : decode cX3_findLastFrom 0 = .ok (.aload_n 0, 1) := by decide +kernel
theorem dX3_findLastFrom_1 : decode cX3_findLastFrom 1 = .ok (.getfield 10, 3) := by decide +kernel
theorem dX3_findLastFrom_4 : decode cX3_findLastFrom 4 = .ok (.iload_n 1, 1) := by decide +kernel
theorem dX3_findLastFrom_5 : decode cX3_findLastFrom 5 = .ok (.invokevirtual 39, 3) := by decide +kernel
theorem dX3_findLastFrom_8 : decode cX3_findLastFrom 8 = .ok (.aload_n 0, 1) := by decide +kernel
theorem dX3_findLastFrom_9 : decode cX3_findLastFrom 9 = .ok (.getfield 10, 3) := by decide +kernel
theorem dX3_findLastFrom_12 : decode cX3_findLastFrom 12 = .ok (.iload_n 2, 1) := by decide +kernel
theorem dX3_findLastFrom_13 : decode cX3_findLastFrom 13 = .ok (.invokevirtual 39, 3) := by decide +kernel
theorem dX3_findLastFrom_16 : decode cX3_findLastFrom 16 = .ok (.iload_n 3, 1) := by decide +kernel
theorem dX3_findLastFrom_17 : decode cX3_findLastFrom 17 = .ok (.invokevirtual 132, 3) := by decide +kernel
theorem dX3_findLastFrom_20 : decode cX3_findLastFrom 20 = .ok (.ireturn, 1) := by decide +kernel
theorem dX3_contains_0 : decode cX3_contains 0 = .ok (.aload_n 0, 1) := by decide +kernel
theorem dX3_contains_1 : decode cX3_contains 1 = .ok (.iload_n 1, 1) := by decide +kernel
theorem dX3_contains_2 : decode cX3_contains 2 = .ok (.iload_n 2, 1) := by decide +kernel
theorem dX3_contains_3 : decode cX3_contains 3 = .ok (.invokevirtual 135, 3) := by decide +kernel
theorem dX3_contains_6 : decode cX3_contains 6 = .ok (.iconst (-1), 1) := by decide +kernel
theorem dX3_contains_7 : decode cX3_contains 7 = .ok (.if_icmp .eq 7, 3) := by decide +kernel
theorem dX3_contains_10 : decode cX3_contains 10 = .ok (.iconst 1, 1) := by decide +kernel
theorem dX3_contains_11 : decode cX3_contains 11 = .ok (.goto 4, 3) := by decide +kernel
theorem dX3_contains_14 : decode cX3_contains 14 = .ok (.iconst 0, 1) := by decide +kernel
theorem dX3_contains_15 : decode cX3_contains 15 = .ok (.ireturn, 1) := by decide +kernel
theorem dX3_starts_0 : decode cX3_starts 0 = .ok (.aload_n 0, 1) := by decide +kernel
theorem dX3_starts_1 : decode cX3_starts 1 = .ok (.iload_n 1, 1) := by decide +kernel
theorem dX3_starts_2 : decode cX3_starts 2 = .ok (.iload_n 2, 1) := by decide +kernel
theorem dX3_starts_3 : decode cX3_starts 3 = .ok (.iconst 0, 1) := by decide +kernel
theorem dX3_starts_4 : decode cX3_starts 4 = .ok (.invokevirtual 138, 3) := by decide +kernel
theorem dX3_starts_7 : decode cX3_starts 7 = .ok (.ireturn, 1) := by decide +kernel
theorem dX3_startsAt_0 : decode cX3_startsAt 0 = .ok (.aload_n 0, 1) := by decide +kernel
theorem dX3_startsAt_1 : decode cX3_startsAt 1 = .ok (.getfield 10, 3) := by decide +kernel
theorem dX3_startsAt_4 : decode cX3_startsAt 4 = .ok (.iload_n 1, 1) := by decide +kernel
theorem dX3_startsAt_5 : decode cX3_startsAt 5 = .ok (.invokevirtual 39, 3) := by decide +kernel
theorem dX3_startsAt_8 : decode cX3_startsAt 8 = .ok (.aload_n 0, 1) := by decide +kernel
theorem dX3_startsAt_9 : decode cX3_startsAt 9 = .ok (.getfield 10, 3) := by decide +kernel
theorem dX3_startsAt_12 : decode cX3_startsAt 12 = .ok (.iload_n 2, 1) := by decide +kernel
theorem dX3_startsAt_13 : decode cX3_startsAt 13 = .ok (.invokevirtual 39, 3) := by decide +kernel
theorem dX3_startsAt_16 : decode cX3_startsAt 16 = .ok (.iload_n 3, 1) := by decide +kernel
theorem dX3_startsAt_17 : decode cX3_startsAt 17 = .ok (.invokevirtual 142, 3) := by decide +kernel
theorem dX3_startsAt_20 : decode cX3_startsAt 20 = .ok (.ireturn, 1) := by decide +kernel
theorem dX3_ends_0 : decode cX3_ends 0 = .ok (.aload_n 0, 1) := by decide +kernel
theorem dX3_ends_1 : decode cX3_ends 1 = .ok (.iload_n 1, 1) := by decide +kernel
theorem dX3_ends_2 : decode cX3_ends 2 = .ok (.iload_n 2, 1) := by decide +kernel
theorem dX3_ends_3 : decode cX3_ends 3 = .ok (.aload_n 0, 1) := by decide +kernel
theorem dX3_ends_4 : decode cX3_ends 4 = .ok (.iload_n 1, 1) := by decide +kernel
theorem dX3_ends_5 : decode cX3_ends 5 = .ok (.invokevirtual 146, 3) := by decide +kernel
theorem dX3_ends_8 : decode cX3_ends 8 = .ok (.aload_n 0, 1) := by decide +kernel
theorem dX3_ends_9 : decode cX3_ends 9 = .ok (.iload_n 2, 1) := by decide +kernel
theorem dX3_ends_10 : decode cX3_ends 10 = .ok (.invokevirtual 146, 3) := by decide +kernel
theorem dX3_ends_13 : decode cX3_ends 13 = .ok (.isub, 1) := by decide +kernel
theorem dX3_ends_14 : decode cX3_ends 14 = .ok (.invokevirtual 138, 3) := by decide +kernel
theorem dX3_ends_17 : decode cX3_ends 17 = .ok (.ireturn, 1) := by decide +kernel
theorem dX3_region_0 : decode cX3_region 0 = .ok (.aload_n 0, 1) := by decide +kernel
theorem dX3_region_1 : decode cX3_region 1 = .ok (.getfield 10, 3) := by decide +kernel
theorem dX3_region_4 : decode cX3_region 4 = .ok (.iload_n 1, 1) := by decide +kernel
theorem dX3_region_5 : decode cX3_region 5 = .ok (.invokevirtual 39, 3) := by decide +kernel
theorem dX3_region_8 : decode cX3_region 8 = .ok (.iload_n 2, 1) := by decide +kernel
theorem dX3_region_9 : decode cX3_region 9 = .ok (.aload_n 0, 1) := by decide +kernel
theorem dX3_region_10 : decode cX3_region 10 = .ok (.getfield 10, 3) := by decide +kernel
theorem dX3_region_13 : decode cX3_region 13 = .ok (.iload_n 3, 1) := by decide +kernel
theorem dX3_region_14 : decode cX3_region 14 = .ok (.invokevirtual 39, 3) := by decide +kernel
theorem dX3_region_17 : decode cX3_region 17 = .ok (.iload 4, 2) := by decide +kernel
theorem dX3_region_19 : decode cX3_region 19 = .ok (.iload 5, 2) := by decide +kernel
theorem dX3_region_21 : decode cX3_region 21 = .ok (.iconst 1, 1) := by decide +kernel
theorem dX3_region_22 : decode cX3_region 22 = .ok (.invokevirtual 149, 3) := by decide +kernel
theorem dX3_region_25 : decode cX3_region 25 = .ok (.ireturn, 1) := by decide +kernel
theorem dX3_regionAlike_0 : decode cX3_regionAlike 0 = .ok (.aload_n 0, 1) := by decide +kernel
theorem dX3_regionAlike_1 : decode cX3_regionAlike 1 = .ok (.getfield 10, 3) := by decide +kernel
theorem dX3_regionAlike_4 : decode cX3_regionAlike 4 = .ok (.iload_n 1, 1) := by decide +kernel
theorem dX3_regionAlike_5 : decode cX3_regionAlike 5 = .ok (.invokevirtual 39, 3) := by decide +kernel
theorem dX3_regionAlike_8 : decode cX3_regionAlike 8 = .ok (.iload_n 2, 1) := by decide +kernel
theorem dX3_regionAlike_9 : decode cX3_regionAlike 9 = .ok (.aload_n 0, 1) := by decide +kernel
theorem dX3_regionAlike_10 : decode cX3_regionAlike 10 = .ok (.getfield 10, 3) := by decide +kernel
theorem dX3_regionAlike_13 : decode cX3_regionAlike 13 = .ok (.iload_n 3, 1) := by decide +kernel
theorem dX3_regionAlike_14 : decode cX3_regionAlike 14 = .ok (.invokevirtual 39, 3) := by decide +kernel
theorem dX3_regionAlike_17 : decode cX3_regionAlike 17 = .ok (.iload 4, 2) := by decide +kernel
theorem dX3_regionAlike_19 : decode cX3_regionAlike 19 = .ok (.iload 5, 2) := by decide +kernel
theorem dX3_regionAlike_21 : decode cX3_regionAlike 21 = .ok (.iconst 0, 1) := by decide +kernel
theorem dX3_regionAlike_22 : decode cX3_regionAlike 22 = .ok (.invokevirtual 149, 3) := by decide +kernel
theorem dX3_regionAlike_25 : decode cX3_regionAlike 25 = .ok (.ireturn, 1) := by decide +kernel
theorem dX3_same_0 : decode cX3_same 0 = .ok (.aload_n 0, 1) := by decide +kernel
theorem dX3_same_1 : decode cX3_same 1 = .ok (.getfield 10, 3) := by decide +kernel
theorem dX3_same_4 : decode cX3_same 4 = .ok (.iload_n 1, 1) := by decide +kernel
theorem dX3_same_5 : decode cX3_same 5 = .ok (.invokevirtual 39, 3) := by decide +kernel
theorem dX3_same_8 : decode cX3_same 8 = .ok (.aload_n 0, 1) := by decide +kernel
theorem dX3_same_9 : decode cX3_same 9 = .ok (.getfield 10, 3) := by decide +kernel
theorem dX3_same_12 : decode cX3_same 12 = .ok (.iload_n 2, 1) := by decide +kernel
theorem dX3_same_13 : decode cX3_same 13 = .ok (.invokevirtual 39, 3) := by decide +kernel
theorem dX3_same_16 : decode cX3_same 16 = .ok (.iconst 1, 1) := by decide +kernel
theorem dX3_same_17 : decode cX3_same 17 = .ok (.invokevirtual 153, 3) := by decide +kernel
theorem dX3_same_20 : decode cX3_same 20 = .ok (.ireturn, 1) := by decide +kernel
theorem dX3_alike_0 : decode cX3_alike 0 = .ok (.aload_n 0, 1) := by decide +kernel
theorem dX3_alike_1 : decode cX3_alike 1 = .ok (.getfield 10, 3) := by decide +kernel
theorem dX3_alike_4 : decode cX3_alike 4 = .ok (.iload_n 1, 1) := by decide +kernel
theorem dX3_alike_5 : decode cX3_alike 5 = .ok (.invokevirtual 39, 3) := by decide +kernel
theorem dX3_alike_8 : decode cX3_alike 8 = .ok (.aload_n 0, 1) := by decide +kernel
theorem dX3_alike_9 : decode cX3_alike 9 = .ok (.getfield 10, 3) := by decide +kernel
theorem dX3_alike_12 : decode cX3_alike 12 = .ok (.iload_n 2, 1) := by decide +kernel
theorem dX3_alike_13 : decode cX3_alike 13 = .ok (.invokevirtual 39, 3) := by decide +kernel
theorem dX3_alike_16 : decode cX3_alike 16 = .ok (.iconst 0, 1) := by decide +kernel
theorem dX3_alike_17 : decode cX3_alike 17 = .ok (.invokevirtual 153, 3) := by decide +kernel
theorem dX3_alike_20 : decode cX3_alike 20 = .ok (.ireturn, 1) := by decide +kernel
theorem dX3_compare_0 : decode cX3_compare 0 = .ok (.aload_n 0, 1) := by decide +kernel
theorem dX3_compare_1 : decode cX3_compare 1 = .ok (.getfield 10, 3) := by decide +kernel
theorem dX3_compare_4 : decode cX3_compare 4 = .ok (.iload_n 1, 1) := by decide +kernel
theorem dX3_compare_5 : decode cX3_compare 5 = .ok (.invokevirtual 39, 3) := by decide +kernel
theorem dX3_compare_8 : decode cX3_compare 8 = .ok (.aload_n 0, 1) := by decide +kernel
theorem dX3_compare_9 : decode cX3_compare 9 = .ok (.getfield 10, 3) := by decide +kernel
theorem dX3_compare_12 : decode cX3_compare 12 = .ok (.iload_n 2, 1) := by decide +kernel
theorem dX3_compare_13 : decode cX3_compare 13 = .ok (.invokevirtual 39, 3) := by decide +kernel
theorem dX3_compare_16 : decode cX3_compare 16 = .ok (.iconst 1, 1) := by decide +kernel
theorem dX3_compare_17 : decode cX3_compare 17 = .ok (.invokevirtual 157, 3) := by decide +kernel
theorem dX3_compare_20 : decode cX3_compare 20 = .ok (.ireturn, 1) := by decide +kernel
theorem dX3_compareAlike_0 : decode cX3_compareAlike 0 = .ok (.aload_n 0, 1) := by decide +kernel
theorem dX3_compareAlike_1 : decode cX3_compareAlike 1 = .ok (.getfield 10, 3) := by decide +kernel
theorem dX3_compareAlike_4 : decode cX3_compareAlike 4 = .ok (.iload_n 1, 1) := by decide +kernel
theorem dX3_compareAlike_5 : decode cX3_compareAlike 5 = .ok (.invokevirtual 39, 3) := by decide +kernel
theorem dX3_compareAlike_8 : decode cX3_compareAlike 8 = .ok (.aload_n 0, 1) := by decide +kernel
theorem dX3_compareAlike_9 : decode cX3_compareAlike 9 = .ok (.getfield 10, 3) := by decide +kernel
theorem dX3_compareAlike_12 : decode cX3_compareAlike 12 = .ok (.iload_n 2, 1) := by decide +kernel
theorem dX3_compareAlike_13 : decode cX3_compareAlike 13 = .ok (.invokevirtual 39, 3) := by decide +kernel
theorem dX3_compareAlike_16 : decode cX3_compareAlike 16 = .ok (.iconst 0, 1) := by decide +kernel
theorem dX3_compareAlike_17 : decode cX3_compareAlike 17 = .ok (.invokevirtual 157, 3) := by decide +kernel
theorem dX3_compareAlike_20 : decode cX3_compareAlike 20 = .ok (.iconst 0, 1) := by decide +kernel
theorem dX3_compareAlike_21 : decode cX3_compareAlike 21 = .ok (.invokestatic 161, 3) := by decide +kernel
theorem dX3_compareAlike_24 : decode cX3_compareAlike 24 = .ok (.ireturn, 1) := by decide +kernel
theorem dX3_replaceSign_0 : decode cX3_replaceSign 0 = .ok (.iload_n 2, 1) := by decide +kernel
theorem dX3_replaceSign_1 : decode cX3_replaceSign 1 = .ok (.invokestatic 50, 3) := by decide +kernel
theorem dX3_replaceSign_4 : decode cX3_replaceSign 4 = .ok (.ifCond .eq 10, 3) := by decide +kernel
theorem dX3_replaceSign_7 : decode cX3_replaceSign 7 = .ok (.iload_n 3, 1) := by decide +kernel
theorem dX3_replaceSign_8 : decode cX3_replaceSign 8 = .ok (.invokestatic 50, 3) := by decide +kernel
theorem dX3_replaceSign_11 : decode cX3_replaceSign 11 = .ok (.ifCond .ne 6, 3) := by decide +kernel
theorem dX3_replaceSign_14 : decode cX3_replaceSign 14 = .ok (.ldc 54, 2) := by decide +kernel
theorem dX3_replaceSign_16 : decode cX3_replaceSign 16 = .ok (.ireturn, 1) := by decide +kernel
theorem dX3_replaceSign_17 : decode cX3_replaceSign 17 = .ok (.aload_n 0, 1) := by decide +kernel
theorem dX3_replaceSign_18 : decode cX3_replaceSign 18 = .ok (.getfield 25, 3) := by decide +kernel
theorem dX3_replaceSign_21 : decode cX3_replaceSign 21 = .ok (.aload_n 0, 1) := by decide +kernel
theorem dX3_replaceSign_22 : decode cX3_replaceSign 22 = .ok (.getfield 10, 3) := by decide +kernel
theorem dX3_replaceSign_25 : decode cX3_replaceSign 25 = .ok (.iload_n 1, 1) := by decide +kernel
theorem dX3_replaceSign_26 : decode cX3_replaceSign 26 = .ok (.invokevirtual 39, 3) := by decide +kernel
theorem dX3_replaceSign_29 : decode cX3_replaceSign 29 = .ok (.invokevirtual 67, 3) := by decide +kernel
theorem dX3_replaceSign_32 : decode cX3_replaceSign 32 = .ok (.aload_n 0, 1) := by decide +kernel
theorem dX3_replaceSign_33 : decode cX3_replaceSign 33 = .ok (.getfield 25, 3) := by decide +kernel
theorem dX3_replaceSign_36 : decode cX3_replaceSign 36 = .ok (.iload_n 2, 1) := by decide +kernel
theorem dX3_replaceSign_37 : decode cX3_replaceSign 37 = .ok (.iload_n 3, 1) := by decide +kernel
theorem dX3_replaceSign_38 : decode cX3_replaceSign 38 = .ok (.invokevirtual 166, 3) := by decide +kernel
theorem dX3_replaceSign_41 : decode cX3_replaceSign 41 = .ok (.aload_n 0, 1) := by decide +kernel
theorem dX3_replaceSign_42 : decode cX3_replaceSign 42 = .ok (.iload 4, 2) := by decide +kernel
theorem dX3_replaceSign_44 : decode cX3_replaceSign 44 = .ok (.invokevirtual 71, 3) := by decide +kernel
theorem dX3_replaceSign_47 : decode cX3_replaceSign 47 = .ok (.ireturn, 1) := by decide +kernel
theorem dX3_replaceText_0 : decode cX3_replaceText 0 = .ok (.aload_n 0, 1) := by decide +kernel
theorem dX3_replaceText_1 : decode cX3_replaceText 1 = .ok (.getfield 10, 3) := by decide +kernel
theorem dX3_replaceText_4 : decode cX3_replaceText 4 = .ok (.iload_n 1, 1) := by decide +kernel
theorem dX3_replaceText_5 : decode cX3_replaceText 5 = .ok (.invokevirtual 39, 3) := by decide +kernel
theorem dX3_replaceText_8 : decode cX3_replaceText 8 = .ok (.astore 5, 2) := by decide +kernel
theorem dX3_replaceText_10 : decode cX3_replaceText 10 = .ok (.aload_n 0, 1) := by decide +kernel
theorem dX3_replaceText_11 : decode cX3_replaceText 11 = .ok (.getfield 10, 3) := by decide +kernel
theorem dX3_replaceText_14 : decode cX3_replaceText 14 = .ok (.iload_n 2, 1) := by decide +kernel
theorem dX3_replaceText_15 : decode cX3_replaceText 15 = .ok (.invokevirtual 39, 3) := by decide +kernel
theorem dX3_replaceText_18 : decode cX3_replaceText 18 = .ok (.astore 6, 2) := by decide +kernel
theorem dX3_replaceText_20 : decode cX3_replaceText 20 = .ok (.aload_n 0, 1) := by decide +kernel
theorem dX3_replaceText_21 : decode cX3_replaceText 21 = .ok (.getfield 10, 3) := by decide +kernel
theorem dX3_replaceText_24 : decode cX3_replaceText 24 = .ok (.iload_n 3, 1) := by decide +kernel
theorem dX3_replaceText_25 : decode cX3_replaceText 25 = .ok (.invokevirtual 39, 3) := by decide +kernel
theorem dX3_replaceText_28 : decode cX3_replaceText 28 = .ok (.astore 7, 2) := by decide +kernel
theorem dX3_replaceText_30 : decode cX3_replaceText 30 = .ok (.aload 6, 2) := by decide +kernel
theorem dX3_replaceText_32 : decode cX3_replaceText 32 = .ok (.invokevirtual 43, 3) := by decide +kernel
theorem dX3_replaceText_35 : decode cX3_replaceText 35 = .ok (.ifCond .ne 6, 3) := by decide +kernel
theorem dX3_replaceText_38 : decode cX3_replaceText 38 = .ok (.ldc 54, 2) := by decide +kernel
theorem dX3_replaceText_40 : decode cX3_replaceText 40 = .ok (.ireturn, 1) := by decide +kernel
theorem dX3_replaceText_41 : decode cX3_replaceText 41 = .ok (.aload 5, 2) := by decide +kernel
theorem dX3_replaceText_43 : decode cX3_replaceText 43 = .ok (.invokevirtual 43, 3) := by decide +kernel
theorem dX3_replaceText_46 : decode cX3_replaceText 46 = .ok (.aload 5, 2) := by decide +kernel
theorem dX3_replaceText_48 : decode cX3_replaceText 48 = .ok (.aload 6, 2) := by decide +kernel
theorem dX3_replaceText_50 : decode cX3_replaceText 50 = .ok (.invokevirtual 169, 3) := by decide +kernel
theorem dX3_replaceText_53 : decode cX3_replaceText 53 = .ok (.aload 7, 2) := by decide +kernel
theorem dX3_replaceText_55 : decode cX3_replaceText 55 = .ok (.invokevirtual 43, 3) := by decide +kernel
theorem dX3_replaceText_58 : decode cX3_replaceText 58 = .ok (.aload 6, 2) := by decide +kernel
theorem dX3_replaceText_60 : decode cX3_replaceText 60 = .ok (.invokevirtual 43, 3) := by decide +kernel
theorem dX3_replaceText_63 : decode cX3_replaceText 63 = .ok (.isub, 1) := by decide +kernel
theorem dX3_replaceText_64 : decode cX3_replaceText 64 = .ok (.imul, 1) := by decide +kernel
theorem dX3_replaceText_65 : decode cX3_replaceText 65 = .ok (.iadd, 1) := by decide +kernel
theorem dX3_replaceText_66 : decode cX3_replaceText 66 = .ok (.sipush 300, 3) := by decide +kernel
theorem dX3_replaceText_69 : decode cX3_replaceText 69 = .ok (.if_icmp .le 6, 3) := by decide +kernel
theorem dX3_replaceText_72 : decode cX3_replaceText 72 = .ok (.ldc 55, 2) := by decide +kernel
theorem dX3_replaceText_74 : decode cX3_replaceText 74 = .ok (.ireturn, 1) := by decide +kernel
theorem dX3_replaceText_75 : decode cX3_replaceText 75 = .ok (.aload_n 0, 1) := by decide +kernel
theorem dX3_replaceText_76 : decode cX3_replaceText 76 = .ok (.getfield 25, 3) := by decide +kernel
theorem dX3_replaceText_79 : decode cX3_replaceText 79 = .ok (.invokevirtual 47, 3) := by decide +kernel
theorem dX3_replaceText_82 : decode cX3_replaceText 82 = .ok (.aload_n 0, 1) := by decide +kernel
theorem dX3_replaceText_83 : decode cX3_replaceText 83 = .ok (.getfield 25, 3) := by decide +kernel
theorem dX3_replaceText_86 : decode cX3_replaceText 86 = .ok (.aload 5, 2) := by decide +kernel
theorem dX3_replaceText_88 : decode cX3_replaceText 88 = .ok (.aload 6, 2) := by decide +kernel
theorem dX3_replaceText_90 : decode cX3_replaceText 90 = .ok (.aload 7, 2) := by decide +kernel
theorem dX3_replaceText_92 : decode cX3_replaceText 92 = .ok (.invokevirtual 173, 3) := by decide +kernel
theorem dX3_replaceText_95 : decode cX3_replaceText 95 = .ok (.aload_n 0, 1) := by decide +kernel
theorem dX3_replaceText_96 : decode cX3_replaceText 96 = .ok (.iload 4, 2) := by decide +kernel
theorem dX3_replaceText_98 : decode cX3_replaceText 98 = .ok (.invokevirtual 71, 3) := by decide +kernel
theorem dX3_replaceText_101 : decode cX3_replaceText 101 = .ok (.ireturn, 1) := by decide +kernel
theorem dX3_trim_0 : decode cX3_trim 0 = .ok (.aload_n 0, 1) := by decide +kernel
theorem dX3_trim_1 : decode cX3_trim 1 = .ok (.iload_n 1, 1) := by decide +kernel
theorem dX3_trim_2 : decode cX3_trim 2 = .ok (.iconst 0, 1) := by decide +kernel
theorem dX3_trim_3 : decode cX3_trim 3 = .ok (.iload_n 2, 1) := by decide +kernel
theorem dX3_trim_4 : decode cX3_trim 4 = .ok (.invokevirtual 177, 3) := by decide +kernel
theorem dX3_trim_7 : decode cX3_trim 7 = .ok (.ireturn, 1) := by decide +kernel
theorem dX3_strip_0 : decode cX3_strip 0 = .ok (.aload_n 0, 1) := by decide +kernel
theorem dX3_strip_1 : decode cX3_strip 1 = .ok (.iload_n 1, 1) := by decide +kernel
theorem dX3_strip_2 : decode cX3_strip 2 = .ok (.iconst 1, 1) := by decide +kernel
theorem dX3_strip_3 : decode cX3_strip 3 = .ok (.iload_n 2, 1) := by decide +kernel
theorem dX3_strip_4 : decode cX3_strip 4 = .ok (.invokevirtual 177, 3) := by decide +kernel
theorem dX3_strip_7 : decode cX3_strip 7 = .ok (.ireturn, 1) := by decide +kernel
theorem dX3_repeat_0 : decode cX3_repeat 0 = .ok (.aload_n 0, 1) := by decide +kernel
theorem dX3_repeat_1 : decode cX3_repeat 1 = .ok (.getfield 10, 3) := by decide +kernel
theorem dX3_repeat_4 : decode cX3_repeat 4 = .ok (.iload_n 1, 1) := by decide +kernel
theorem dX3_repeat_5 : decode cX3_repeat 5 = .ok (.invokevirtual 39, 3) := by decide +kernel
theorem dX3_repeat_8 : decode cX3_repeat 8 = .ok (.astore 4, 2) := by decide +kernel
theorem dX3_repeat_10 : decode cX3_repeat 10 = .ok (.iload_n 2, 1) := by decide +kernel
theorem dX3_repeat_11 : decode cX3_repeat 11 = .ok (.ifCond .ge 6, 3) := by decide +kernel
theorem dX3_repeat_14 : decode cX3_repeat 14 = .ok (.ldc 181, 2) := by decide +kernel
theorem dX3_repeat_16 : decode cX3_repeat 16 = .ok (.ireturn, 1) := by decide +kernel
theorem dX3_repeat_17 : decode cX3_repeat 17 = .ok (.aload 4, 2) := by decide +kernel
theorem dX3_repeat_19 : decode cX3_repeat 19 = .ok (.invokevirtual 43, 3) := by decide +kernel
theorem dX3_repeat_22 : decode cX3_repeat 22 = .ok (.i2l, 1) := by decide +kernel
theorem dX3_repeat_23 : decode cX3_repeat 23 = .ok (.iload_n 2, 1) := by decide +kernel
theorem dX3_repeat_24 : decode cX3_repeat 24 = .ok (.i2l, 1) := by decide +kernel
theorem dX3_repeat_25 : decode cX3_repeat 25 = .ok (.lmul, 1) := by decide +kernel
theorem dX3_repeat_26 : decode cX3_repeat 26 = .ok (.ldc2_w 182, 3) := by decide +kernel
theorem dX3_repeat_29 : decode cX3_repeat 29 = .ok (.lcmp, 1) := by decide +kernel
theorem dX3_repeat_30 : decode cX3_repeat 30 = .ok (.ifCond .le 6, 3) := by decide +kernel
theorem dX3_repeat_33 : decode cX3_repeat 33 = .ok (.ldc 55, 2) := by decide +kernel
theorem dX3_repeat_35 : decode cX3_repeat 35 = .ok (.ireturn, 1) := by decide +kernel
theorem dX3_repeat_36 : decode cX3_repeat 36 = .ok (.aload_n 0, 1) := by decide +kernel
theorem dX3_repeat_37 : decode cX3_repeat 37 = .ok (.getfield 25, 3) := by decide +kernel
theorem dX3_repeat_40 : decode cX3_repeat 40 = .ok (.invokevirtual 47, 3) := by decide +kernel
theorem dX3_repeat_43 : decode cX3_repeat 43 = .ok (.aload 4, 2) := by decide +kernel
theorem dX3_repeat_45 : decode cX3_repeat 45 = .ok (.invokevirtual 43, 3) := by decide +kernel
theorem dX3_repeat_48 : decode cX3_repeat 48 = .ok (.ifCond .ne 7, 3) := by decide +kernel
theorem dX3_repeat_51 : decode cX3_repeat 51 = .ok (.iconst 0, 1) := by decide +kernel
theorem dX3_repeat_52 : decode cX3_repeat 52 = .ok (.goto 4, 3) := by decide +kernel
theorem dX3_repeat_55 : decode cX3_repeat 55 = .ok (.iload_n 2, 1) := by decide +kernel
theorem dX3_repeat_56 : decode cX3_repeat 56 = .ok (.istore 5, 2) := by decide +kernel
theorem dX3_repeat_58 : decode cX3_repeat 58 = .ok (.iconst 0, 1) := by decide +kernel
theorem dX3_repeat_59 : decode cX3_repeat 59 = .ok (.istore 6, 2) := by decide +kernel
theorem dX3_repeat_61 : decode cX3_repeat 61 = .ok (.iload 6, 2) := by decide +kernel
theorem dX3_repeat_63 : decode cX3_repeat 63 = .ok (.iload 5, 2) := by decide +kernel
theorem dX3_repeat_65 : decode cX3_repeat 65 = .ok (.if_icmp .ge 18, 3) := by decide +kernel
theorem dX3_repeat_68 : decode cX3_repeat 68 = .ok (.aload_n 0, 1) := by decide +kernel
theorem dX3_repeat_69 : decode cX3_repeat 69 = .ok (.getfield 25, 3) := by decide +kernel
theorem dX3_repeat_72 : decode cX3_repeat 72 = .ok (.aload 4, 2) := by decide +kernel
theorem dX3_repeat_74 : decode cX3_repeat 74 = .ok (.invokevirtual 79, 3) := by decide +kernel
theorem dX3_repeat_77 : decode cX3_repeat 77 = .ok (.iinc 6 1, 3) := by decide +kernel
theorem dX3_repeat_80 : decode cX3_repeat 80 = .ok (.goto (-19), 3) := by decide +kernel
theorem dX3_repeat_83 : decode cX3_repeat 83 = .ok (.aload_n 0, 1) := by decide +kernel
theorem dX3_repeat_84 : decode cX3_repeat 84 = .ok (.iload_n 3, 1) := by decide +kernel
theorem dX3_repeat_85 : decode cX3_repeat 85 = .ok (.invokevirtual 71, 3) := by decide +kernel
theorem dX3_repeat_88 : decode cX3_repeat 88 = .ok (.ireturn, 1) := by decide +kernel
theorem dX3_turn_0 : decode cX3_turn 0 = .ok (.aload_n 0, 1) := by decide +kernel
theorem dX3_turn_1 : decode cX3_turn 1 = .ok (.getfield 25, 3) := by decide +kernel
theorem dX3_turn_4 : decode cX3_turn 4 = .ok (.invokevirtual 47, 3) := by decide +kernel
theorem dX3_turn_7 : decode cX3_turn 7 = .ok (.aload_n 0, 1) := by decide +kernel
theorem dX3_turn_8 : decode cX3_turn 8 = .ok (.getfield 25, 3) := by decide +kernel
theorem dX3_turn_11 : decode cX3_turn 11 = .ok (.aload_n 0, 1) := by decide +kernel
theorem dX3_turn_12 : decode cX3_turn 12 = .ok (.getfield 10, 3) := by decide +kernel
theorem dX3_turn_15 : decode cX3_turn 15 = .ok (.iload_n 1, 1) := by decide +kernel
theorem dX3_turn_16 : decode cX3_turn 16 = .ok (.invokevirtual 39, 3) := by decide +kernel
theorem dX3_turn_19 : decode cX3_turn 19 = .ok (.invokevirtual 98, 3) := by decide +kernel
theorem dX3_turn_22 : decode cX3_turn 22 = .ok (.aload_n 0, 1) := by decide +kernel
theorem dX3_turn_23 : decode cX3_turn 23 = .ok (.iload_n 2, 1) := by decide +kernel
theorem dX3_turn_24 : decode cX3_turn 24 = .ok (.invokevirtual 71, 3) := by decide +kernel
theorem dX3_turn_27 : decode cX3_turn 27 = .ok (.ireturn, 1) := by decide +kernel
theorem dX3_part_0 : decode cX3_part 0 = .ok (.iload_n 2, 1) := by decide +kernel
theorem dX3_part_1 : decode cX3_part 1 = .ok (.invokestatic 50, 3) := by decide +kernel
theorem dX3_part_4 : decode cX3_part 4 = .ok (.ifCond .eq 13, 3) := by decide +kernel
theorem dX3_part_7 : decode cX3_part 7 = .ok (.ldc 184, 2) := by decide +kernel
theorem dX3_part_9 : decode cX3_part 9 = .ok (.iload_n 2, 1) := by decide +kernel
theorem dX3_part_10 : decode cX3_part 10 = .ok (.i2c, 1) := by decide +kernel
theorem dX3_part_11 : decode cX3_part 11 = .ok (.invokevirtual 186, 3) := by decide +kernel
theorem dX3_part_14 : decode cX3_part 14 = .ok (.ifCond .lt 6, 3) := by decide +kernel
theorem dX3_part_17 : decode cX3_part 17 = .ok (.ldc 54, 2) := by decide +kernel
theorem dX3_part_19 : decode cX3_part 19 = .ok (.ireturn, 1) := by decide +kernel
theorem dX3_part_20 : decode cX3_part 20 = .ok (.aload_n 0, 1) := by decide +kernel
theorem dX3_part_21 : decode cX3_part 21 = .ok (.getfield 10, 3) := by decide +kernel
theorem dX3_part_24 : decode cX3_part 24 = .ok (.getfield 191, 3) := by decide +kernel
theorem dX3_part_27 : decode cX3_part 27 = .ok (.aload_n 0, 1) := by decide +kernel
theorem dX3_part_28 : decode cX3_part 28 = .ok (.getfield 10, 3) := by decide +kernel
theorem dX3_part_31 : decode cX3_part 31 = .ok (.iload_n 1, 1) := by decide +kernel
theorem dX3_part_32 : decode cX3_part 32 = .ok (.invokevirtual 39, 3) := by decide +kernel
theorem dX3_part_35 : decode cX3_part 35 = .ok (.iload_n 2, 1) := by decide +kernel
theorem dX3_part_36 : decode cX3_part 36 = .ok (.iload_n 3, 1) := by decide +kernel
theorem dX3_part_37 : decode cX3_part 37 = .ok (.invokevirtual 194, 3) := by decide +kernel
theorem dX3_part_40 : decode cX3_part 40 = .ok (.aload_n 0, 1) := by decide +kernel
theorem dX3_part_41 : decode cX3_part 41 = .ok (.getfield 10, 3) := by decide +kernel
theorem dX3_part_44 : decode cX3_part 44 = .ok (.getfield 191, 3) := by decide +kernel
theorem dX3_part_47 : decode cX3_part 47 = .ok (.invokevirtual 197, 3) := by decide +kernel
theorem dX3_part_50 : decode cX3_part 50 = .ok (.ireturn, 1) := by decide +kernel
theorem dX3_pieces_0 : decode cX3_pieces 0 = .ok (.aload_n 0, 1) := by decide +kernel
theorem dX3_pieces_1 : decode cX3_pieces 1 = .ok (.getfield 10, 3) := by decide +kernel
theorem dX3_pieces_4 : decode cX3_pieces 4 = .ok (.getfield 191, 3) := by decide +kernel
theorem dX3_pieces_7 : decode cX3_pieces 7 = .ok (.invokevirtual 197, 3) := by decide +kernel
theorem dX3_pieces_10 : decode cX3_pieces 10 = .ok (.ireturn, 1) := by decide +kernel
theorem dX3_piece_0 : decode cX3_piece 0 = .ok (.iload_n 1, 1) := by decide +kernel
theorem dX3_piece_1 : decode cX3_piece 1 = .ok (.ifCond .lt 17, 3) := by decide +kernel
theorem dX3_piece_4 : decode cX3_piece 4 = .ok (.iload_n 1, 1) := by decide +kernel
theorem dX3_piece_5 : decode cX3_piece 5 = .ok (.aload_n 0, 1) := by decide +kernel
theorem dX3_piece_6 : decode cX3_piece 6 = .ok (.getfield 10, 3) := by decide +kernel
theorem dX3_piece_9 : decode cX3_piece 9 = .ok (.getfield 191, 3) := by decide +kernel
theorem dX3_piece_12 : decode cX3_piece 12 = .ok (.invokevirtual 197, 3) := by decide +kernel
theorem dX3_piece_15 : decode cX3_piece 15 = .ok (.if_icmp .lt 6, 3) := by decide +kernel
theorem dX3_piece_18 : decode cX3_piece 18 = .ok (.ldc 82, 2) := by decide +kernel
theorem dX3_piece_20 : decode cX3_piece 20 = .ok (.ireturn, 1) := by decide +kernel
theorem dX3_piece_21 : decode cX3_piece 21 = .ok (.aload_n 0, 1) := by decide +kernel
theorem dX3_piece_22 : decode cX3_piece 22 = .ok (.getfield 25, 3) := by decide +kernel
theorem dX3_piece_25 : decode cX3_piece 25 = .ok (.invokevirtual 47, 3) := by decide +kernel
theorem dX3_piece_28 : decode cX3_piece 28 = .ok (.aload_n 0, 1) := by decide +kernel
theorem dX3_piece_29 : decode cX3_piece 29 = .ok (.getfield 10, 3) := by decide +kernel
theorem dX3_piece_32 : decode cX3_piece 32 = .ok (.getfield 191, 3) := by decide +kernel
theorem dX3_piece_35 : decode cX3_piece 35 = .ok (.aload_n 0, 1) := by decide +kernel
theorem dX3_piece_36 : decode cX3_piece 36 = .ok (.getfield 25, 3) := by decide +kernel
theorem dX3_piece_39 : decode cX3_piece 39 = .ok (.iload_n 1, 1) := by decide +kernel
theorem dX3_piece_40 : decode cX3_piece 40 = .ok (.invokevirtual 198, 3) := by decide +kernel
theorem dX3_piece_43 : decode cX3_piece 43 = .ok (.aload_n 0, 1) := by decide +kernel
theorem dX3_piece_44 : decode cX3_piece 44 = .ok (.iload_n 2, 1) := by decide +kernel
theorem dX3_piece_45 : decode cX3_piece 45 = .ok (.invokevirtual 71, 3) := by decide +kernel
theorem dX3_piece_48 : decode cX3_piece 48 = .ok (.ireturn, 1) := by decide +kernel
theorem dX3_join_0 : decode cX3_join 0 = .ok (.iload_n 1, 1) := by decide +kernel
theorem dX3_join_1 : decode cX3_join 1 = .ok (.invokestatic 50, 3) := by decide +kernel
theorem dX3_join_4 : decode cX3_join 4 = .ok (.ifCond .ne 6, 3) := by decide +kernel
theorem dX3_join_7 : decode cX3_join 7 = .ok (.ldc 54, 2) := by decide +kernel
theorem dX3_join_9 : decode cX3_join 9 = .ok (.ireturn, 1) := by decide +kernel
theorem dX3_join_10 : decode cX3_join 10 = .ok (.aload_n 0, 1) := by decide +kernel
theorem dX3_join_11 : decode cX3_join 11 = .ok (.getfield 10, 3) := by decide +kernel
theorem dX3_join_14 : decode cX3_join 14 = .ok (.getfield 191, 3) := by decide +kernel
theorem dX3_join_17 : decode cX3_join 17 = .ok (.invokevirtual 202, 3) := by decide +kernel
theorem dX3_join_20 : decode cX3_join 20 = .ok (.sipush 300, 3) := by decide +kernel
theorem dX3_join_23 : decode cX3_join 23 = .ok (.if_icmp .le 6, 3) := by decide +kernel
theorem dX3_join_26 : decode cX3_join 26 = .ok (.ldc 55, 2) := by decide +kernel
theorem dX3_join_28 : decode cX3_join 28 = .ok (.ireturn, 1) := by decide +kernel
theorem dX3_join_29 : decode cX3_join 29 = .ok (.aload_n 0, 1) := by decide +kernel
theorem dX3_join_30 : decode cX3_join 30 = .ok (.getfield 25, 3) := by decide +kernel
theorem dX3_join_33 : decode cX3_join 33 = .ok (.invokevirtual 47, 3) := by decide +kernel
theorem dX3_join_36 : decode cX3_join 36 = .ok (.aload_n 0, 1) := by decide +kernel
theorem dX3_join_37 : decode cX3_join 37 = .ok (.getfield 10, 3) := by decide +kernel
theorem dX3_join_40 : decode cX3_join 40 = .ok (.getfield 191, 3) := by decide +kernel
theorem dX3_join_43 : decode cX3_join 43 = .ok (.aload_n 0, 1) := by decide +kernel
theorem dX3_join_44 : decode cX3_join 44 = .ok (.getfield 25, 3) := by decide +kernel
theorem dX3_join_47 : decode cX3_join 47 = .ok (.iload_n 1, 1) := by decide +kernel
theorem dX3_join_48 : decode cX3_join 48 = .ok (.invokevirtual 205, 3) := by decide +kernel
theorem dX3_join_51 : decode cX3_join 51 = .ok (.aload_n 0, 1) := by decide +kernel
theorem dX3_join_52 : decode cX3_join 52 = .ok (.iload_n 2, 1) := by decide +kernel
theorem dX3_join_53 : decode cX3_join 53 = .ok (.invokevirtual 71, 3) := by decide +kernel
theorem dX3_join_56 : decode cX3_join 56 = .ok (.ireturn, 1) := by decide +kernel
theorem dX3_count_0 : decode cX3_count 0 = .ok (.aload_n 0, 1) := by decide +kernel
theorem dX3_count_1 : decode cX3_count 1 = .ok (.getfield 10, 3) := by decide +kernel
theorem dX3_count_4 : decode cX3_count 4 = .ok (.iload_n 2, 1) := by decide +kernel
theorem dX3_count_5 : decode cX3_count 5 = .ok (.invokevirtual 39, 3) := by decide +kernel
theorem dX3_count_8 : decode cX3_count 8 = .ok (.astore_n 3, 1) := by decide +kernel
theorem dX3_count_9 : decode cX3_count 9 = .ok (.aload_n 3, 1) := by decide +kernel
theorem dX3_count_10 : decode cX3_count 10 = .ok (.invokevirtual 43, 3) := by decide +kernel
theorem dX3_count_13 : decode cX3_count 13 = .ok (.ifCond .ne 6, 3) := by decide +kernel
theorem dX3_count_16 : decode cX3_count 16 = .ok (.ldc 54, 2) := by decide +kernel
theorem dX3_count_18 : decode cX3_count 18 = .ok (.ireturn, 1) := by decide +kernel
theorem dX3_count_19 : decode cX3_count 19 = .ok (.aload_n 0, 1) := by decide +kernel
theorem dX3_count_20 : decode cX3_count 20 = .ok (.getfield 10, 3) := by decide +kernel
theorem dX3_count_23 : decode cX3_count 23 = .ok (.iload_n 1, 1) := by decide +kernel
theorem dX3_count_24 : decode cX3_count 24 = .ok (.invokevirtual 39, 3) := by decide +kernel
theorem dX3_count_27 : decode cX3_count 27 = .ok (.aload_n 3, 1) := by decide +kernel
theorem dX3_count_28 : decode cX3_count 28 = .ok (.invokevirtual 169, 3) := by decide +kernel
theorem dX3_count_31 : decode cX3_count 31 = .ok (.ireturn, 1) := by decide +kernel
theorem dX3_head_0 : decode cX3_head 0 = .ok (.aload_n 0, 1) := by decide +kernel
theorem dX3_head_1 : decode cX3_head 1 = .ok (.getfield 10, 3) := by decide +kernel
theorem dX3_head_4 : decode cX3_head 4 = .ok (.iload_n 1, 1) := by decide +kernel
theorem dX3_head_5 : decode cX3_head 5 = .ok (.invokevirtual 39, 3) := by decide +kernel
theorem dX3_head_8 : decode cX3_head 8 = .ok (.aload_n 0, 1) := by decide +kernel
theorem dX3_head_9 : decode cX3_head 9 = .ok (.getfield 10, 3) := by decide +kernel
theorem dX3_head_12 : decode cX3_head 12 = .ok (.iload_n 2, 1) := by decide +kernel
theorem dX3_head_13 : decode cX3_head 13 = .ok (.invokevirtual 39, 3) := by decide +kernel
theorem dX3_head_16 : decode cX3_head 16 = .ok (.invokevirtual 208, 3) := by decide +kernel
theorem dX3_head_19 : decode cX3_head 19 = .ok (.ireturn, 1) := by decide +kernel
theorem dX3_foot_0 : decode cX3_foot 0 = .ok (.aload_n 0, 1) := by decide +kernel
theorem dX3_foot_1 : decode cX3_foot 1 = .ok (.getfield 10, 3) := by decide +kernel
theorem dX3_foot_4 : decode cX3_foot 4 = .ok (.iload_n 1, 1) := by decide +kernel
theorem dX3_foot_5 : decode cX3_foot 5 = .ok (.invokevirtual 39, 3) := by decide +kernel
theorem dX3_foot_8 : decode cX3_foot 8 = .ok (.aload_n 0, 1) := by decide +kernel
theorem dX3_foot_9 : decode cX3_foot 9 = .ok (.getfield 10, 3) := by decide +kernel
theorem dX3_foot_12 : decode cX3_foot 12 = .ok (.iload_n 2, 1) := by decide +kernel
theorem dX3_foot_13 : decode cX3_foot 13 = .ok (.invokevirtual 39, 3) := by decide +kernel
theorem dX3_foot_16 : decode cX3_foot 16 = .ok (.invokevirtual 211, 3) := by decide +kernel
theorem dX3_foot_19 : decode cX3_foot 19 = .ok (.ireturn, 1) := by decide +kernel
theorem dX3_holds_0 : decode cX3_holds 0 = .ok (.aload_n 0, 1) := by decide +kernel
theorem dX3_holds_1 : decode cX3_holds 1 = .ok (.iload_n 1, 1) := by decide +kernel
theorem dX3_holds_2 : decode cX3_holds 2 = .ok (.iload_n 2, 1) := by decide +kernel
theorem dX3_holds_3 : decode cX3_holds 3 = .ok (.iload_n 3, 1) := by decide +kernel
theorem dX3_holds_4 : decode cX3_holds 4 = .ok (.invokevirtual 214, 3) := by decide +kernel
theorem dX3_holds_7 : decode cX3_holds 7 = .ok (.ifCond .eq 79, 3) := by decide +kernel
theorem dX3_holds_10 : decode cX3_holds 10 = .ok (.aload_n 0, 1) := by decide +kernel
theorem dX3_holds_11 : decode cX3_holds 11 = .ok (.iload_n 1, 1) := by decide +kernel
theorem dX3_holds_12 : decode cX3_holds 12 = .ok (.iload_n 2, 1) := by decide +kernel
theorem dX3_holds_13 : decode cX3_holds 13 = .ok (.iload_n 3, 1) := by decide +kernel
theorem dX3_holds_14 : decode cX3_holds 14 = .ok (.invokevirtual 217, 3) := by decide +kernel
theorem dX3_holds_17 : decode cX3_holds 17 = .ok (.ifCond .eq 69, 3) := by decide +kernel
theorem dX3_holds_20 : decode cX3_holds 20 = .ok (.aload_n 0, 1) := by decide +kernel
theorem dX3_holds_21 : decode cX3_holds 21 = .ok (.iload_n 1, 1) := by decide +kernel
theorem dX3_holds_22 : decode cX3_holds 22 = .ok (.iload_n 2, 1) := by decide +kernel
theorem dX3_holds_23 : decode cX3_holds 23 = .ok (.invokevirtual 220, 3) := by decide +kernel
theorem dX3_holds_26 : decode cX3_holds 26 = .ok (.ifCond .eq 60, 3) := by decide +kernel
theorem dX3_holds_29 : decode cX3_holds 29 = .ok (.aload_n 0, 1) := by decide +kernel
theorem dX3_holds_30 : decode cX3_holds 30 = .ok (.aload_n 0, 1) := by decide +kernel
theorem dX3_holds_31 : decode cX3_holds 31 = .ok (.getfield 10, 3) := by decide +kernel
theorem dX3_holds_34 : decode cX3_holds 34 = .ok (.iload_n 1, 1) := by decide +kernel
theorem dX3_holds_35 : decode cX3_holds 35 = .ok (.invokevirtual 39, 3) := by decide +kernel
theorem dX3_holds_38 : decode cX3_holds 38 = .ok (.aload_n 0, 1) := by decide +kernel
theorem dX3_holds_39 : decode cX3_holds 39 = .ok (.getfield 10, 3) := by decide +kernel
theorem dX3_holds_42 : decode cX3_holds 42 = .ok (.iload_n 2, 1) := by decide +kernel
theorem dX3_holds_43 : decode cX3_holds 43 = .ok (.invokevirtual 39, 3) := by decide +kernel
theorem dX3_holds_46 : decode cX3_holds 46 = .ok (.invokevirtual 224, 3) := by decide +kernel
theorem dX3_holds_49 : decode cX3_holds 49 = .ok (.ifCond .eq 37, 3) := by decide +kernel
theorem dX3_holds_52 : decode cX3_holds 52 = .ok (.aload_n 0, 1) := by decide +kernel
theorem dX3_holds_53 : decode cX3_holds 53 = .ok (.aload_n 0, 1) := by decide +kernel
theorem dX3_holds_54 : decode cX3_holds 54 = .ok (.getfield 10, 3) := by decide +kernel
theorem dX3_holds_57 : decode cX3_holds 57 = .ok (.iload_n 1, 1) := by decide +kernel
theorem dX3_holds_58 : decode cX3_holds 58 = .ok (.invokevirtual 39, 3) := by decide +kernel
theorem dX3_holds_61 : decode cX3_holds 61 = .ok (.invokevirtual 228, 3) := by decide +kernel
theorem dX3_holds_64 : decode cX3_holds 64 = .ok (.ifCond .eq 22, 3) := by decide +kernel
theorem dX3_holds_67 : decode cX3_holds 67 = .ok (.aload_n 0, 1) := by decide +kernel
theorem dX3_holds_68 : decode cX3_holds 68 = .ok (.aload_n 0, 1) := by decide +kernel
theorem dX3_holds_69 : decode cX3_holds 69 = .ok (.getfield 10, 3) := by decide +kernel
theorem dX3_holds_72 : decode cX3_holds 72 = .ok (.iload_n 2, 1) := by decide +kernel
theorem dX3_holds_73 : decode cX3_holds 73 = .ok (.invokevirtual 39, 3) := by decide +kernel
theorem dX3_holds_76 : decode cX3_holds 76 = .ok (.invokevirtual 228, 3) := by decide +kernel
theorem dX3_holds_79 : decode cX3_holds 79 = .ok (.ifCond .eq 7, 3) := by decide +kernel
theorem dX3_holds_82 : decode cX3_holds 82 = .ok (.iconst 1, 1) := by decide +kernel
theorem dX3_holds_83 : decode cX3_holds 83 = .ok (.goto 4, 3) := by decide +kernel
theorem dX3_holds_86 : decode cX3_holds 86 = .ok (.iconst 0, 1) := by decide +kernel
theorem dX3_holds_87 : decode cX3_holds 87 = .ok (.ireturn, 1) := by decide +kernel
theorem dX3_keep_0 : decode cX3_keep 0 = .ok (.aload_n 0, 1) := by decide +kernel
theorem dX3_keep_1 : decode cX3_keep 1 = .ok (.getfield 16, 3) := by decide +kernel
theorem dX3_keep_4 : decode cX3_keep 4 = .ok (.iload_n 1, 1) := by decide +kernel
theorem dX3_keep_5 : decode cX3_keep 5 = .ok (.iconst 2, 1) := by decide +kernel
theorem dX3_keep_6 : decode cX3_keep 6 = .ok (.invokestatic 232, 3) := by decide +kernel
theorem dX3_keep_9 : decode cX3_keep 9 = .ok (.aaload, 1) := by decide +kernel
theorem dX3_keep_10 : decode cX3_keep 10 = .ok (.aload_n 0, 1) := by decide +kernel
theorem dX3_keep_11 : decode cX3_keep 11 = .ok (.getfield 10, 3) := by decide +kernel
theorem dX3_keep_14 : decode cX3_keep 14 = .ok (.invokevirtual 237, 3) := by decide +kernel
theorem dX3_keep_17 : decode cX3_keep 17 = .ok (.aload_n 0, 1) := by decide +kernel
theorem dX3_keep_18 : decode cX3_keep 18 = .ok (.getfield 10, 3) := by decide +kernel
theorem dX3_keep_21 : decode cX3_keep 21 = .ok (.invokevirtual 240, 3) := by decide +kernel
theorem dX3_keep_24 : decode cX3_keep 24 = .ok (.ireturn, 1) := by decide +kernel
theorem dX3_back_0 : decode cX3_back 0 = .ok (.aload_n 0, 1) := by decide +kernel
theorem dX3_back_1 : decode cX3_back 1 = .ok (.getfield 10, 3) := by decide +kernel
theorem dX3_back_4 : decode cX3_back 4 = .ok (.aload_n 0, 1) := by decide +kernel
theorem dX3_back_5 : decode cX3_back 5 = .ok (.getfield 16, 3) := by decide +kernel
theorem dX3_back_8 : decode cX3_back 8 = .ok (.iload_n 1, 1) := by decide +kernel
theorem dX3_back_9 : decode cX3_back 9 = .ok (.iconst 2, 1) := by decide +kernel
theorem dX3_back_10 : decode cX3_back 10 = .ok (.invokestatic 232, 3) := by decide +kernel
theorem dX3_back_13 : decode cX3_back 13 = .ok (.aaload, 1) := by decide +kernel
theorem dX3_back_14 : decode cX3_back 14 = .ok (.invokevirtual 237, 3) := by decide +kernel
theorem dX3_back_17 : decode cX3_back 17 = .ok (.aload_n 0, 1) := by decide +kernel
theorem dX3_back_18 : decode cX3_back 18 = .ok (.getfield 10, 3) := by decide +kernel
theorem dX3_back_21 : decode cX3_back 21 = .ok (.invokevirtual 240, 3) := by decide +kernel
theorem dX3_back_24 : decode cX3_back 24 = .ok (.ireturn, 1) := by decide +kernel
theorem dX3_digest_0 : decode cX3_digest 0 = .ok (.ldc2_w 243, 3) := by decide +kernel
theorem dX3_digest_3 : decode cX3_digest 3 = .ok (.lstore_n 1, 1) := by decide +kernel
theorem dX3_digest_4 : decode cX3_digest 4 = .ok (.iconst 0, 1) := by decide +kernel
theorem dX3_digest_5 : decode cX3_digest 5 = .ok (.istore_n 3, 1) := by decide +kernel
theorem dX3_digest_6 : decode cX3_digest 6 = .ok (.iload_n 3, 1) := by decide +kernel
theorem dX3_digest_7 : decode cX3_digest 7 = .ok (.bipush 8, 2) := by decide +kernel
theorem dX3_digest_9 : decode cX3_digest 9 = .ok (.if_icmp .ge 32, 3) := by decide +kernel
theorem dX3_digest_12 : decode cX3_digest 12 = .ok (.aload_n 0, 1) := by decide +kernel
theorem dX3_digest_13 : decode cX3_digest 13 = .ok (.getfield 10, 3) := by decide +kernel
theorem dX3_digest_16 : decode cX3_digest 16 = .ok (.iload_n 3, 1) := by decide +kernel
theorem dX3_digest_17 : decode cX3_digest 17 = .ok (.invokevirtual 39, 3) := by decide +kernel
theorem dX3_digest_20 : decode cX3_digest 20 = .ok (.astore 4, 2) := by decide +kernel
theorem dX3_digest_22 : decode cX3_digest 22 = .ok (.aload 4, 2) := by decide +kernel
theorem dX3_digest_24 : decode cX3_digest 24 = .ok (.lload_n 1, 1) := by decide +kernel
theorem dX3_digest_25 : decode cX3_digest 25 = .ok (.iconst 0, 1) := by decide +kernel
theorem dX3_digest_26 : decode cX3_digest 26 = .ok (.aload 4, 2) := by decide +kernel
theorem dX3_digest_28 : decode cX3_digest 28 = .ok (.invokevirtual 43, 3) := by decide +kernel
theorem dX3_digest_31 : decode cX3_digest 31 = .ok (.invokevirtual 245, 3) := by decide +kernel
theorem dX3_digest_34 : decode cX3_digest 34 = .ok (.lstore_n 1, 1) := by decide +kernel
theorem dX3_digest_35 : decode cX3_digest 35 = .ok (.iinc 3 1, 3) := by decide +kernel
theorem dX3_digest_38 : decode cX3_digest 38 = .ok (.goto (-32), 3) := by decide +kernel
theorem dX3_digest_41 : decode cX3_digest 41 = .ok (.aload_n 0, 1) := by decide +kernel
theorem dX3_digest_42 : decode cX3_digest 42 = .ok (.getfield 10, 3) := by decide +kernel
theorem dX3_digest_45 : decode cX3_digest 45 = .ok (.getfield 191, 3) := by decide +kernel
theorem dX3_digest_48 : decode cX3_digest 48 = .ok (.lload_n 1, 1) := by decide +kernel
theorem dX3_digest_49 : decode cX3_digest 49 = .ok (.invokevirtual 249, 3) := by decide +kernel
theorem dX3_digest_52 : decode cX3_digest 52 = .ok (.lreturn, 1) := by decide +kernel
theorem dX3_lay_0 : decode cX3_lay 0 = .ok (.aload_n 0, 1) := by decide +kernel
theorem dX3_lay_1 : decode cX3_lay 1 = .ok (.getfield 10, 3) := by decide +kernel
theorem dX3_lay_4 : decode cX3_lay 4 = .ok (.iload_n 1, 1) := by decide +kernel
theorem dX3_lay_5 : decode cX3_lay 5 = .ok (.invokevirtual 39, 3) := by decide +kernel
theorem dX3_lay_8 : decode cX3_lay 8 = .ok (.astore_n 2, 1) := by decide +kernel
theorem dX3_lay_9 : decode cX3_lay 9 = .ok (.aload_n 2, 1) := by decide +kernel
theorem dX3_lay_10 : decode cX3_lay 10 = .ok (.aload_n 0, 1) := by decide +kernel
theorem dX3_lay_11 : decode cX3_lay 11 = .ok (.getfield 25, 3) := by decide +kernel
theorem dX3_lay_14 : decode cX3_lay 14 = .ok (.invokevirtual 67, 3) := by decide +kernel
theorem dX3_lay_17 : decode cX3_lay 17 = .ok (.aload_n 2, 1) := by decide +kernel
theorem dX3_lay_18 : decode cX3_lay 18 = .ok (.invokevirtual 43, 3) := by decide +kernel
theorem dX3_lay_21 : decode cX3_lay 21 = .ok (.ireturn, 1) := by decide +kernel
theorem dX3_layBare_0 : decode cX3_layBare 0 = .ok (.aload_n 0, 1) := by decide +kernel
theorem dX3_layBare_1 : decode cX3_layBare 1 = .ok (.getfield 10, 3) := by decide +kernel
theorem dX3_layBare_4 : decode cX3_layBare 4 = .ok (.iload_n 1, 1) := by decide +kernel
theorem dX3_layBare_5 : decode cX3_layBare 5 = .ok (.invokevirtual 39, 3) := by decide +kernel
theorem dX3_layBare_8 : decode cX3_layBare 8 = .ok (.astore 4, 2) := by decide +kernel
theorem dX3_layBare_10 : decode cX3_layBare 10 = .ok (.aload 4, 2) := by decide +kernel
theorem dX3_layBare_12 : decode cX3_layBare 12 = .ok (.iload_n 2, 1) := by decide +kernel
theorem dX3_layBare_13 : decode cX3_layBare 13 = .ok (.invokevirtual 101, 3) := by decide +kernel
theorem dX3_layBare_16 : decode cX3_layBare 16 = .ok (.istore 5, 2) := by decide +kernel
theorem dX3_layBare_18 : decode cX3_layBare 18 = .ok (.aload_n 0, 1) := by decide +kernel
theorem dX3_layBare_19 : decode cX3_layBare 19 = .ok (.getfield 25, 3) := by decide +kernel
theorem dX3_layBare_22 : decode cX3_layBare 22 = .ok (.invokevirtual 47, 3) := by decide +kernel
theorem dX3_layBare_25 : decode cX3_layBare 25 = .ok (.aload_n 0, 1) := by decide +kernel
theorem dX3_layBare_26 : decode cX3_layBare 26 = .ok (.getfield 25, 3) := by decide +kernel
theorem dX3_layBare_29 : decode cX3_layBare 29 = .ok (.aload 4, 2) := by decide +kernel
theorem dX3_layBare_31 : decode cX3_layBare 31 = .ok (.iload 5, 2) := by decide +kernel
theorem dX3_layBare_33 : decode cX3_layBare 33 = .ok (.aload 4, 2) := by decide +kernel
theorem dX3_layBare_35 : decode cX3_layBare 35 = .ok (.iload 5, 2) := by decide +kernel
theorem dX3_layBare_37 : decode cX3_layBare 37 = .ok (.iload_n 2, 1) := by decide +kernel
theorem dX3_layBare_38 : decode cX3_layBare 38 = .ok (.invokevirtual 253, 3) := by decide +kernel
theorem dX3_layBare_41 : decode cX3_layBare 41 = .ok (.invokevirtual 83, 3) := by decide +kernel
theorem dX3_layBare_44 : decode cX3_layBare 44 = .ok (.aload_n 0, 1) := by decide +kernel
theorem dX3_layBare_45 : decode cX3_layBare 45 = .ok (.iload_n 3, 1) := by decide +kernel
theorem dX3_layBare_46 : decode cX3_layBare 46 = .ok (.invokevirtual 71, 3) := by decide +kernel
theorem dX3_layBare_49 : decode cX3_layBare 49 = .ok (.ireturn, 1) := by decide +kernel
theorem dX3_firstPlaceHolds_0 : decode cX3_firstPlaceHolds 0 = .ok (.iconst 0, 1) := by decide +kernel
theorem dX3_firstPlaceHolds_1 : decode cX3_firstPlaceHolds 1 = .ok (.iload_n 3, 1) := by decide +kernel
theorem dX3_firstPlaceHolds_2 : decode cX3_firstPlaceHolds 2 = .ok (.aload_n 0, 1) := by decide +kernel
theorem dX3_firstPlaceHolds_3 : decode cX3_firstPlaceHolds 3 = .ok (.iload_n 1, 1) := by decide +kernel
theorem dX3_firstPlaceHolds_4 : decode cX3_firstPlaceHolds 4 = .ok (.invokevirtual 146, 3) := by decide +kernel
theorem dX3_firstPlaceHolds_7 : decode cX3_firstPlaceHolds 7 = .ok (.invokestatic 257, 3) := by decide +kernel
theorem dX3_firstPlaceHolds_10 : decode cX3_firstPlaceHolds 10 = .ok (.invokestatic 260, 3) := by decide +kernel
theorem dX3_firstPlaceHolds_13 : decode cX3_firstPlaceHolds 13 = .ok (.istore 4, 2) := by decide +kernel
theorem dX3_firstPlaceHolds_15 : decode cX3_firstPlaceHolds 15 = .ok (.aload_n 0, 1) := by decide +kernel
theorem dX3_firstPlaceHolds_16 : decode cX3_firstPlaceHolds 16 = .ok (.iload_n 1, 1) := by decide +kernel
theorem dX3_firstPlaceHolds_17 : decode cX3_firstPlaceHolds 17 = .ok (.iload_n 2, 1) := by decide +kernel
theorem dX3_firstPlaceHolds_18 : decode cX3_firstPlaceHolds 18 = .ok (.iload_n 3, 1) := by decide +kernel
theorem dX3_firstPlaceHolds_19 : decode cX3_firstPlaceHolds 19 = .ok (.invokevirtual 122, 3) := by decide +kernel
theorem dX3_firstPlaceHolds_22 : decode cX3_firstPlaceHolds 22 = .ok (.istore 5, 2) := by decide +kernel
theorem dX3_firstPlaceHolds_24 : decode cX3_firstPlaceHolds 24 = .ok (.iload 5, 2) := by decide +kernel
theorem dX3_firstPlaceHolds_26 : decode cX3_firstPlaceHolds 26 = .ok (.iconst (-1), 1) := by decide +kernel
theorem dX3_firstPlaceHolds_27 : decode cX3_firstPlaceHolds 27 = .ok (.if_icmp .ne 13, 3) := by decide +kernel
theorem dX3_firstPlaceHolds_30 : decode cX3_firstPlaceHolds 30 = .ok (.aload_n 0, 1) := by decide +kernel
theorem dX3_firstPlaceHolds_31 : decode cX3_firstPlaceHolds 31 = .ok (.iload_n 1, 1) := by decide +kernel
theorem dX3_firstPlaceHolds_32 : decode cX3_firstPlaceHolds 32 = .ok (.invokevirtual 146, 3) := by decide +kernel
theorem dX3_firstPlaceHolds_35 : decode cX3_firstPlaceHolds 35 = .ok (.iconst 1, 1) := by decide +kernel
theorem dX3_firstPlaceHolds_36 : decode cX3_firstPlaceHolds 36 = .ok (.iadd, 1) := by decide +kernel
theorem dX3_firstPlaceHolds_37 : decode cX3_firstPlaceHolds 37 = .ok (.goto 5, 3) := by decide +kernel
theorem dX3_firstPlaceHolds_40 : decode cX3_firstPlaceHolds 40 = .ok (.iload 5, 2) := by decide +kernel
theorem dX3_firstPlaceHolds_42 : decode cX3_firstPlaceHolds 42 = .ok (.istore 6, 2) := by decide +kernel
theorem dX3_firstPlaceHolds_44 : decode cX3_firstPlaceHolds 44 = .ok (.iload 4, 2) := by decide +kernel
theorem dX3_firstPlaceHolds_46 : decode cX3_firstPlaceHolds 46 = .ok (.istore 7, 2) := by decide +kernel
theorem dX3_firstPlaceHolds_48 : decode cX3_firstPlaceHolds 48 = .ok (.iload 7, 2) := by decide +kernel
theorem dX3_firstPlaceHolds_50 : decode cX3_firstPlaceHolds 50 = .ok (.iload 6, 2) := by decide +kernel
theorem dX3_firstPlaceHolds_52 : decode cX3_firstPlaceHolds 52 = .ok (.if_icmp .ge 22, 3) := by decide +kernel
theorem dX3_firstPlaceHolds_55 : decode cX3_firstPlaceHolds 55 = .ok (.aload_n 0, 1) := by decide +kernel
theorem dX3_firstPlaceHolds_56 : decode cX3_firstPlaceHolds 56 = .ok (.iload_n 1, 1) := by decide +kernel
theorem dX3_firstPlaceHolds_57 : decode cX3_firstPlaceHolds 57 = .ok (.iload_n 2, 1) := by decide +kernel
theorem dX3_firstPlaceHolds_58 : decode cX3_firstPlaceHolds 58 = .ok (.iload 7, 2) := by decide +kernel
theorem dX3_firstPlaceHolds_60 : decode cX3_firstPlaceHolds 60 = .ok (.invokevirtual 138, 3) := by decide +kernel
theorem dX3_firstPlaceHolds_63 : decode cX3_firstPlaceHolds 63 = .ok (.ifCond .eq 5, 3) := by decide +kernel
theorem dX3_firstPlaceHolds_66 : decode cX3_firstPlaceHolds 66 = .ok (.iconst 0, 1) := by decide +kernel
theorem dX3_firstPlaceHolds_67 : decode cX3_firstPlaceHolds 67 = .ok (.ireturn, 1) := by decide +kernel
theorem dX3_firstPlaceHolds_68 : decode cX3_firstPlaceHolds 68 = .ok (.iinc 7 1, 3) := by decide +kernel
theorem dX3_firstPlaceHolds_71 : decode cX3_firstPlaceHolds 71 = .ok (.goto (-23), 3) := by decide +kernel
theorem dX3_firstPlaceHolds_74 : decode cX3_firstPlaceHolds 74 = .ok (.iload 5, 2) := by decide +kernel
theorem dX3_firstPlaceHolds_76 : decode cX3_firstPlaceHolds 76 = .ok (.iconst (-1), 1) := by decide +kernel
theorem dX3_firstPlaceHolds_77 : decode cX3_firstPlaceHolds 77 = .ok (.if_icmp .eq 21, 3) := by decide +kernel
theorem dX3_firstPlaceHolds_80 : decode cX3_firstPlaceHolds 80 = .ok (.iload 5, 2) := by decide +kernel
theorem dX3_firstPlaceHolds_82 : decode cX3_firstPlaceHolds 82 = .ok (.iload 4, 2) := by decide +kernel
theorem dX3_firstPlaceHolds_84 : decode cX3_firstPlaceHolds 84 = .ok (.if_icmp .lt 18, 3) := by decide +kernel
theorem dX3_firstPlaceHolds_87 : decode cX3_firstPlaceHolds 87 = .ok (.aload_n 0, 1) := by decide +kernel
theorem dX3_firstPlaceHolds_88 : decode cX3_firstPlaceHolds 88 = .ok (.iload_n 1, 1) := by decide +kernel
theorem dX3_firstPlaceHolds_89 : decode cX3_firstPlaceHolds 89 = .ok (.iload_n 2, 1) := by decide +kernel
theorem dX3_firstPlaceHolds_90 : decode cX3_firstPlaceHolds 90 = .ok (.iload 5, 2) := by decide +kernel
theorem dX3_firstPlaceHolds_92 : decode cX3_firstPlaceHolds 92 = .ok (.invokevirtual 138, 3) := by decide +kernel
theorem dX3_firstPlaceHolds_95 : decode cX3_firstPlaceHolds 95 = .ok (.ifCond .eq 7, 3) := by decide +kernel
theorem dX3_firstPlaceHolds_98 : decode cX3_firstPlaceHolds 98 = .ok (.iconst 1, 1) := by decide +kernel
theorem dX3_firstPlaceHolds_99 : decode cX3_firstPlaceHolds 99 = .ok (.goto 4, 3) := by decide +kernel
theorem dX3_firstPlaceHolds_102 : decode cX3_firstPlaceHolds 102 = .ok (.iconst 0, 1) := by decide +kernel
theorem dX3_firstPlaceHolds_103 : decode cX3_firstPlaceHolds 103 = .ok (.ireturn, 1) := by decide +kernel
theorem dX3_lastPlaceHolds_0 : decode cX3_lastPlaceHolds 0 = .ok (.iload_n 3, 1) := by decide +kernel
theorem dX3_lastPlaceHolds_1 : decode cX3_lastPlaceHolds 1 = .ok (.aload_n 0, 1) := by decide +kernel
theorem dX3_lastPlaceHolds_2 : decode cX3_lastPlaceHolds 2 = .ok (.iload_n 1, 1) := by decide +kernel
theorem dX3_lastPlaceHolds_3 : decode cX3_lastPlaceHolds 3 = .ok (.invokevirtual 146, 3) := by decide +kernel
theorem dX3_lastPlaceHolds_6 : decode cX3_lastPlaceHolds 6 = .ok (.invokestatic 257, 3) := by decide +kernel
theorem dX3_lastPlaceHolds_9 : decode cX3_lastPlaceHolds 9 = .ok (.istore 4, 2) := by decide +kernel
theorem dX3_lastPlaceHolds_11 : decode cX3_lastPlaceHolds 11 = .ok (.aload_n 0, 1) := by decide +kernel
theorem dX3_lastPlaceHolds_12 : decode cX3_lastPlaceHolds 12 = .ok (.iload_n 1, 1) := by decide +kernel
theorem dX3_lastPlaceHolds_13 : decode cX3_lastPlaceHolds 13 = .ok (.iload_n 2, 1) := by decide +kernel
theorem dX3_lastPlaceHolds_14 : decode cX3_lastPlaceHolds 14 = .ok (.iload_n 3, 1) := by decide +kernel
theorem dX3_lastPlaceHolds_15 : decode cX3_lastPlaceHolds 15 = .ok (.invokevirtual 129, 3) := by decide +kernel
theorem dX3_lastPlaceHolds_18 : decode cX3_lastPlaceHolds 18 = .ok (.istore 5, 2) := by decide +kernel
theorem dX3_lastPlaceHolds_20 : decode cX3_lastPlaceHolds 20 = .ok (.iload 4, 2) := by decide +kernel
theorem dX3_lastPlaceHolds_22 : decode cX3_lastPlaceHolds 22 = .ok (.istore 6, 2) := by decide +kernel
theorem dX3_lastPlaceHolds_24 : decode cX3_lastPlaceHolds 24 = .ok (.iload 6, 2) := by decide +kernel
theorem dX3_lastPlaceHolds_26 : decode cX3_lastPlaceHolds 26 = .ok (.ifCond .lt 29, 3) := by decide +kernel
theorem dX3_lastPlaceHolds_29 : decode cX3_lastPlaceHolds 29 = .ok (.iload 6, 2) := by decide +kernel
theorem dX3_lastPlaceHolds_31 : decode cX3_lastPlaceHolds 31 = .ok (.iload 5, 2) := by decide +kernel
theorem dX3_lastPlaceHolds_33 : decode cX3_lastPlaceHolds 33 = .ok (.if_icmp .le 22, 3) := by decide +kernel
theorem dX3_lastPlaceHolds_36 : decode cX3_lastPlaceHolds 36 = .ok (.aload_n 0, 1) := by decide +kernel
theorem dX3_lastPlaceHolds_37 : decode cX3_lastPlaceHolds 37 = .ok (.iload_n 1, 1) := by decide +kernel
theorem dX3_lastPlaceHolds_38 : decode cX3_lastPlaceHolds 38 = .ok (.iload_n 2, 1) := by decide +kernel
theorem dX3_lastPlaceHolds_39 : decode cX3_lastPlaceHolds 39 = .ok (.iload 6, 2) := by decide +kernel
theorem dX3_lastPlaceHolds_41 : decode cX3_lastPlaceHolds 41 = .ok (.invokevirtual 138, 3) := by decide +kernel
theorem dX3_lastPlaceHolds_44 : decode cX3_lastPlaceHolds 44 = .ok (.ifCond .eq 5, 3) := by decide +kernel
theorem dX3_lastPlaceHolds_47 : decode cX3_lastPlaceHolds 47 = .ok (.iconst 0, 1) := by decide +kernel
theorem dX3_lastPlaceHolds_48 : decode cX3_lastPlaceHolds 48 = .ok (.ireturn, 1) := by decide +kernel
theorem dX3_lastPlaceHolds_49 : decode cX3_lastPlaceHolds 49 = .ok (.iinc 6 (-1), 3) := by decide +kernel
theorem dX3_lastPlaceHolds_52 : decode cX3_lastPlaceHolds 52 = .ok (.goto (-28), 3) := by decide +kernel
theorem dX3_lastPlaceHolds_55 : decode cX3_lastPlaceHolds 55 = .ok (.iload 5, 2) := by decide +kernel
theorem dX3_lastPlaceHolds_57 : decode cX3_lastPlaceHolds 57 = .ok (.iconst (-1), 1) := by decide +kernel
theorem dX3_lastPlaceHolds_58 : decode cX3_lastPlaceHolds 58 = .ok (.if_icmp .eq 21, 3) := by decide +kernel
theorem dX3_lastPlaceHolds_61 : decode cX3_lastPlaceHolds 61 = .ok (.iload 5, 2) := by decide +kernel
theorem dX3_lastPlaceHolds_63 : decode cX3_lastPlaceHolds 63 = .ok (.iload 4, 2) := by decide +kernel
theorem dX3_lastPlaceHolds_65 : decode cX3_lastPlaceHolds 65 = .ok (.if_icmp .gt 18, 3) := by decide +kernel
theorem dX3_lastPlaceHolds_68 : decode cX3_lastPlaceHolds 68 = .ok (.aload_n 0, 1) := by decide +kernel
theorem dX3_lastPlaceHolds_69 : decode cX3_lastPlaceHolds 69 = .ok (.iload_n 1, 1) := by decide +kernel
theorem dX3_lastPlaceHolds_70 : decode cX3_lastPlaceHolds 70 = .ok (.iload_n 2, 1) := by decide +kernel
theorem dX3_lastPlaceHolds_71 : decode cX3_lastPlaceHolds 71 = .ok (.iload 5, 2) := by decide +kernel
theorem dX3_lastPlaceHolds_73 : decode cX3_lastPlaceHolds 73 = .ok (.invokevirtual 138, 3) := by decide +kernel
theorem dX3_lastPlaceHolds_76 : decode cX3_lastPlaceHolds 76 = .ok (.ifCond .eq 7, 3) := by decide +kernel
theorem dX3_lastPlaceHolds_79 : decode cX3_lastPlaceHolds 79 = .ok (.iconst 1, 1) := by decide +kernel
theorem dX3_lastPlaceHolds_80 : decode cX3_lastPlaceHolds 80 = .ok (.goto 4, 3) := by decide +kernel
theorem dX3_lastPlaceHolds_83 : decode cX3_lastPlaceHolds 83 = .ok (.iconst 0, 1) := by decide +kernel
theorem dX3_lastPlaceHolds_84 : decode cX3_lastPlaceHolds 84 = .ok (.ireturn, 1) := by decide +kernel
theorem dX3_orderHolds_0 : decode cX3_orderHolds 0 = .ok (.aload_n 0, 1) := by decide +kernel
theorem dX3_orderHolds_1 : decode cX3_orderHolds 1 = .ok (.iload_n 1, 1) := by decide +kernel
theorem dX3_orderHolds_2 : decode cX3_orderHolds 2 = .ok (.iload_n 2, 1) := by decide +kernel
theorem dX3_orderHolds_3 : decode cX3_orderHolds 3 = .ok (.invokevirtual 263, 3) := by decide +kernel
theorem dX3_orderHolds_6 : decode cX3_orderHolds 6 = .ok (.istore_n 3, 1) := by decide +kernel
theorem dX3_orderHolds_7 : decode cX3_orderHolds 7 = .ok (.iload_n 3, 1) := by decide +kernel
theorem dX3_orderHolds_8 : decode cX3_orderHolds 8 = .ok (.aload_n 0, 1) := by decide +kernel
theorem dX3_orderHolds_9 : decode cX3_orderHolds 9 = .ok (.iload_n 2, 1) := by decide +kernel
theorem dX3_orderHolds_10 : decode cX3_orderHolds 10 = .ok (.iload_n 1, 1) := by decide +kernel
theorem dX3_orderHolds_11 : decode cX3_orderHolds 11 = .ok (.invokevirtual 263, 3) := by decide +kernel
theorem dX3_orderHolds_14 : decode cX3_orderHolds 14 = .ok (.ineg, 1) := by decide +kernel
theorem dX3_orderHolds_15 : decode cX3_orderHolds 15 = .ok (.if_icmp .ne 21, 3) := by decide +kernel
theorem dX3_orderHolds_18 : decode cX3_orderHolds 18 = .ok (.iload_n 3, 1) := by decide +kernel
theorem dX3_orderHolds_19 : decode cX3_orderHolds 19 = .ok (.ifCond .ne 7, 3) := by decide +kernel
theorem dX3_orderHolds_22 : decode cX3_orderHolds 22 = .ok (.iconst 1, 1) := by decide +kernel
theorem dX3_orderHolds_23 : decode cX3_orderHolds 23 = .ok (.goto 4, 3) := by decide +kernel
theorem dX3_orderHolds_26 : decode cX3_orderHolds 26 = .ok (.iconst 0, 1) := by decide +kernel
theorem dX3_orderHolds_27 : decode cX3_orderHolds 27 = .ok (.aload_n 0, 1) := by decide +kernel
theorem dX3_orderHolds_28 : decode cX3_orderHolds 28 = .ok (.iload_n 1, 1) := by decide +kernel
theorem dX3_orderHolds_29 : decode cX3_orderHolds 29 = .ok (.iload_n 2, 1) := by decide +kernel
theorem dX3_orderHolds_30 : decode cX3_orderHolds 30 = .ok (.invokevirtual 264, 3) := by decide +kernel
theorem dX3_orderHolds_33 : decode cX3_orderHolds 33 = .ok (.if_icmp .eq 5, 3) := by decide +kernel
theorem dX3_orderHolds_36 : decode cX3_orderHolds 36 = .ok (.iconst 0, 1) := by decide +kernel
theorem dX3_orderHolds_37 : decode cX3_orderHolds 37 = .ok (.ireturn, 1) := by decide +kernel
theorem dX3_orderHolds_38 : decode cX3_orderHolds 38 = .ok (.aload_n 0, 1) := by decide +kernel
theorem dX3_orderHolds_39 : decode cX3_orderHolds 39 = .ok (.iload_n 1, 1) := by decide +kernel
theorem dX3_orderHolds_40 : decode cX3_orderHolds 40 = .ok (.iload_n 2, 1) := by decide +kernel
theorem dX3_orderHolds_41 : decode cX3_orderHolds 41 = .ok (.invokevirtual 267, 3) := by decide +kernel
theorem dX3_orderHolds_44 : decode cX3_orderHolds 44 = .ok (.istore 4, 2) := by decide +kernel
theorem dX3_orderHolds_46 : decode cX3_orderHolds 46 = .ok (.iload 4, 2) := by decide +kernel
theorem dX3_orderHolds_48 : decode cX3_orderHolds 48 = .ok (.aload_n 0, 1) := by decide +kernel
theorem dX3_orderHolds_49 : decode cX3_orderHolds 49 = .ok (.iload_n 1, 1) := by decide +kernel
theorem dX3_orderHolds_50 : decode cX3_orderHolds 50 = .ok (.invokevirtual 146, 3) := by decide +kernel
theorem dX3_orderHolds_53 : decode cX3_orderHolds 53 = .ok (.if_icmp .ge 38, 3) := by decide +kernel
theorem dX3_orderHolds_56 : decode cX3_orderHolds 56 = .ok (.iload 4, 2) := by decide +kernel
theorem dX3_orderHolds_58 : decode cX3_orderHolds 58 = .ok (.aload_n 0, 1) := by decide +kernel
theorem dX3_orderHolds_59 : decode cX3_orderHolds 59 = .ok (.iload_n 2, 1) := by decide +kernel
theorem dX3_orderHolds_60 : decode cX3_orderHolds 60 = .ok (.invokevirtual 146, 3) := by decide +kernel
theorem dX3_orderHolds_63 : decode cX3_orderHolds 63 = .ok (.if_icmp .ge 28, 3) := by decide +kernel
theorem dX3_orderHolds_66 : decode cX3_orderHolds 66 = .ok (.iload_n 3, 1) := by decide +kernel
theorem dX3_orderHolds_67 : decode cX3_orderHolds 67 = .ok (.aload_n 0, 1) := by decide +kernel
theorem dX3_orderHolds_68 : decode cX3_orderHolds 68 = .ok (.iload_n 1, 1) := by decide +kernel
theorem dX3_orderHolds_69 : decode cX3_orderHolds 69 = .ok (.iload 4, 2) := by decide +kernel
theorem dX3_orderHolds_71 : decode cX3_orderHolds 71 = .ok (.invokevirtual 270, 3) := by decide +kernel
theorem dX3_orderHolds_74 : decode cX3_orderHolds 74 = .ok (.aload_n 0, 1) := by decide +kernel
theorem dX3_orderHolds_75 : decode cX3_orderHolds 75 = .ok (.iload_n 2, 1) := by decide +kernel
theorem dX3_orderHolds_76 : decode cX3_orderHolds 76 = .ok (.iload 4, 2) := by decide +kernel
theorem dX3_orderHolds_78 : decode cX3_orderHolds 78 = .ok (.invokevirtual 270, 3) := by decide +kernel
theorem dX3_orderHolds_81 : decode cX3_orderHolds 81 = .ok (.isub, 1) := by decide +kernel
theorem dX3_orderHolds_82 : decode cX3_orderHolds 82 = .ok (.if_icmp .ne 7, 3) := by decide +kernel
theorem dX3_orderHolds_85 : decode cX3_orderHolds 85 = .ok (.iconst 1, 1) := by decide +kernel
theorem dX3_orderHolds_86 : decode cX3_orderHolds 86 = .ok (.goto 4, 3) := by decide +kernel
theorem dX3_orderHolds_89 : decode cX3_orderHolds 89 = .ok (.iconst 0, 1) := by decide +kernel
theorem dX3_orderHolds_90 : decode cX3_orderHolds 90 = .ok (.ireturn, 1) := by decide +kernel
theorem dX3_orderHolds_91 : decode cX3_orderHolds 91 = .ok (.iload_n 3, 1) := by decide +kernel
theorem dX3_orderHolds_92 : decode cX3_orderHolds 92 = .ok (.aload_n 0, 1) := by decide +kernel
theorem dX3_orderHolds_93 : decode cX3_orderHolds 93 = .ok (.iload_n 1, 1) := by decide +kernel
theorem dX3_orderHolds_94 : decode cX3_orderHolds 94 = .ok (.invokevirtual 146, 3) := by decide +kernel
theorem dX3_orderHolds_97 : decode cX3_orderHolds 97 = .ok (.aload_n 0, 1) := by decide +kernel
theorem dX3_orderHolds_98 : decode cX3_orderHolds 98 = .ok (.iload_n 2, 1) := by decide +kernel
theorem dX3_orderHolds_99 : decode cX3_orderHolds 99 = .ok (.invokevirtual 146, 3) := by decide +kernel
theorem dX3_orderHolds_102 : decode cX3_orderHolds 102 = .ok (.isub, 1) := by decide +kernel
theorem dX3_orderHolds_103 : decode cX3_orderHolds 103 = .ok (.if_icmp .ne 7, 3) := by decide +kernel
theorem dX3_orderHolds_106 : decode cX3_orderHolds 106 = .ok (.iconst 1, 1) := by decide +kernel
theorem dX3_orderHolds_107 : decode cX3_orderHolds 107 = .ok (.goto 4, 3) := by decide +kernel
theorem dX3_orderHolds_110 : decode cX3_orderHolds 110 = .ok (.iconst 0, 1) := by decide +kernel
theorem dX3_orderHolds_111 : decode cX3_orderHolds 111 = .ok (.ireturn, 1) := by decide +kernel
theorem dX3_replacingHolds_0 : decode cX3_replacingHolds 0 = .ok (.aload_n 2, 1) := by decide +kernel
theorem dX3_replacingHolds_1 : decode cX3_replacingHolds 1 = .ok (.invokevirtual 43, 3) := by decide +kernel
theorem dX3_replacingHolds_4 : decode cX3_replacingHolds 4 = .ok (.ifCond .ne 5, 3) := by decide +kernel
theorem dX3_replacingHolds_7 : decode cX3_replacingHolds 7 = .ok (.iconst 1, 1) := by decide +kernel
theorem dX3_replacingHolds_8 : decode cX3_replacingHolds 8 = .ok (.ireturn, 1) := by decide +kernel
theorem dX3_replacingHolds_9 : decode cX3_replacingHolds 9 = .ok (.aload_n 0, 1) := by decide +kernel
theorem dX3_replacingHolds_10 : decode cX3_replacingHolds 10 = .ok (.getfield 25, 3) := by decide +kernel
theorem dX3_replacingHolds_13 : decode cX3_replacingHolds 13 = .ok (.invokevirtual 47, 3) := by decide +kernel
theorem dX3_replacingHolds_16 : decode cX3_replacingHolds 16 = .ok (.aload_n 0, 1) := by decide +kernel
theorem dX3_replacingHolds_17 : decode cX3_replacingHolds 17 = .ok (.getfield 25, 3) := by decide +kernel
theorem dX3_replacingHolds_20 : decode cX3_replacingHolds 20 = .ok (.aload_n 1, 1) := by decide +kernel
theorem dX3_replacingHolds_21 : decode cX3_replacingHolds 21 = .ok (.aload_n 2, 1) := by decide +kernel
theorem dX3_replacingHolds_22 : decode cX3_replacingHolds 22 = .ok (.aload_n 2, 1) := by decide +kernel
theorem dX3_replacingHolds_23 : decode cX3_replacingHolds 23 = .ok (.invokevirtual 173, 3) := by decide +kernel
theorem dX3_replacingHolds_26 : decode cX3_replacingHolds 26 = .ok (.aload_n 0, 1) := by decide +kernel
theorem dX3_replacingHolds_27 : decode cX3_replacingHolds 27 = .ok (.getfield 25, 3) := by decide +kernel
theorem dX3_replacingHolds_30 : decode cX3_replacingHolds 30 = .ok (.aload_n 1, 1) := by decide +kernel
theorem dX3_replacingHolds_31 : decode cX3_replacingHolds 31 = .ok (.iconst 1, 1) := by decide +kernel
theorem dX3_replacingHolds_32 : decode cX3_replacingHolds 32 = .ok (.invokevirtual 153, 3) := by decide +kernel
theorem dX3_replacingHolds_35 : decode cX3_replacingHolds 35 = .ok (.ifCond .ne 5, 3) := by decide +kernel
theorem dX3_replacingHolds_38 : decode cX3_replacingHolds 38 = .ok (.iconst 0, 1) := by decide +kernel
theorem dX3_replacingHolds_39 : decode cX3_replacingHolds 39 = .ok (.ireturn, 1) := by decide +kernel
theorem dX3_replacingHolds_40 : decode cX3_replacingHolds 40 = .ok (.aload_n 0, 1) := by decide +kernel
theorem dX3_replacingHolds_41 : decode cX3_replacingHolds 41 = .ok (.getfield 29, 3) := by decide +kernel
theorem dX3_replacingHolds_44 : decode cX3_replacingHolds 44 = .ok (.aload_n 2, 1) := by decide +kernel
theorem dX3_replacingHolds_45 : decode cX3_replacingHolds 45 = .ok (.invokevirtual 67, 3) := by decide +kernel
theorem dX3_replacingHolds_48 : decode cX3_replacingHolds 48 = .ok (.aload_n 0, 1) := by decide +kernel
theorem dX3_replacingHolds_49 : decode cX3_replacingHolds 49 = .ok (.getfield 29, 3) := by decide +kernel
theorem dX3_replacingHolds_52 : decode cX3_replacingHolds 52 = .ok (.aload_n 2, 1) := by decide +kernel
theorem dX3_replacingHolds_53 : decode cX3_replacingHolds 53 = .ok (.invokevirtual 79, 3) := by decide +kernel
theorem dX3_replacingHolds_56 : decode cX3_replacingHolds 56 = .ok (.aload_n 0, 1) := by decide +kernel
theorem dX3_replacingHolds_57 : decode cX3_replacingHolds 57 = .ok (.getfield 25, 3) := by decide +kernel
theorem dX3_replacingHolds_60 : decode cX3_replacingHolds 60 = .ok (.invokevirtual 47, 3) := by decide +kernel
theorem dX3_replacingHolds_63 : decode cX3_replacingHolds 63 = .ok (.aload_n 0, 1) := by decide +kernel
theorem dX3_replacingHolds_64 : decode cX3_replacingHolds 64 = .ok (.getfield 25, 3) := by decide +kernel
theorem dX3_replacingHolds_67 : decode cX3_replacingHolds 67 = .ok (.aload_n 1, 1) := by decide +kernel
theorem dX3_replacingHolds_68 : decode cX3_replacingHolds 68 = .ok (.aload_n 2, 1) := by decide +kernel
theorem dX3_replacingHolds_69 : decode cX3_replacingHolds 69 = .ok (.aload_n 0, 1) := by decide +kernel
theorem dX3_replacingHolds_70 : decode cX3_replacingHolds 70 = .ok (.getfield 29, 3) := by decide +kernel
theorem dX3_replacingHolds_73 : decode cX3_replacingHolds 73 = .ok (.invokevirtual 173, 3) := by decide +kernel
theorem dX3_replacingHolds_76 : decode cX3_replacingHolds 76 = .ok (.aload_n 0, 1) := by decide +kernel
theorem dX3_replacingHolds_77 : decode cX3_replacingHolds 77 = .ok (.getfield 25, 3) := by decide +kernel
theorem dX3_replacingHolds_80 : decode cX3_replacingHolds 80 = .ok (.invokevirtual 43, 3) := by decide +kernel
theorem dX3_replacingHolds_83 : decode cX3_replacingHolds 83 = .ok (.aload_n 1, 1) := by decide +kernel
theorem dX3_replacingHolds_84 : decode cX3_replacingHolds 84 = .ok (.invokevirtual 43, 3) := by decide +kernel
theorem dX3_replacingHolds_87 : decode cX3_replacingHolds 87 = .ok (.aload_n 1, 1) := by decide +kernel
theorem dX3_replacingHolds_88 : decode cX3_replacingHolds 88 = .ok (.aload_n 2, 1) := by decide +kernel
theorem dX3_replacingHolds_89 : decode cX3_replacingHolds 89 = .ok (.invokevirtual 169, 3) := by decide +kernel
theorem dX3_replacingHolds_92 : decode cX3_replacingHolds 92 = .ok (.aload_n 2, 1) := by decide +kernel
theorem dX3_replacingHolds_93 : decode cX3_replacingHolds 93 = .ok (.invokevirtual 43, 3) := by decide +kernel
theorem dX3_replacingHolds_96 : decode cX3_replacingHolds 96 = .ok (.imul, 1) := by decide +kernel
theorem dX3_replacingHolds_97 : decode cX3_replacingHolds 97 = .ok (.iadd, 1) := by decide +kernel
theorem dX3_replacingHolds_98 : decode cX3_replacingHolds 98 = .ok (.if_icmp .ne 7, 3) := by decide +kernel
theorem dX3_replacingHolds_101 : decode cX3_replacingHolds 101 = .ok (.iconst 1, 1) := by decide +kernel
theorem dX3_replacingHolds_102 : decode cX3_replacingHolds 102 = .ok (.goto 4, 3) := by decide +kernel
theorem dX3_replacingHolds_105 : decode cX3_replacingHolds 105 = .ok (.iconst 0, 1) := by decide +kernel
theorem dX3_replacingHolds_106 : decode cX3_replacingHolds 106 = .ok (.ireturn, 1) := by decide +kernel
theorem dX3_partingHolds_0 : decode cX3_partingHolds 0 = .ok (.aload_n 0, 1) := by decide +kernel
theorem dX3_partingHolds_1 : decode cX3_partingHolds 1 = .ok (.getfield 35, 3) := by decide +kernel
theorem dX3_partingHolds_4 : decode cX3_partingHolds 4 = .ok (.aload_n 1, 1) := by decide +kernel
theorem dX3_partingHolds_5 : decode cX3_partingHolds 5 = .ok (.bipush 44, 2) := by decide +kernel
theorem dX3_partingHolds_7 : decode cX3_partingHolds 7 = .ok (.iconst (-1), 1) := by decide +kernel
theorem dX3_partingHolds_8 : decode cX3_partingHolds 8 = .ok (.invokevirtual 194, 3) := by decide +kernel
theorem dX3_partingHolds_11 : decode cX3_partingHolds 11 = .ok (.aload_n 0, 1) := by decide +kernel
theorem dX3_partingHolds_12 : decode cX3_partingHolds 12 = .ok (.getfield 25, 3) := by decide +kernel
theorem dX3_partingHolds_15 : decode cX3_partingHolds 15 = .ok (.invokevirtual 47, 3) := by decide +kernel
theorem dX3_partingHolds_18 : decode cX3_partingHolds 18 = .ok (.aload_n 0, 1) := by decide +kernel
theorem dX3_partingHolds_19 : decode cX3_partingHolds 19 = .ok (.getfield 35, 3) := by decide +kernel
theorem dX3_partingHolds_22 : decode cX3_partingHolds 22 = .ok (.aload_n 0, 1) := by decide +kernel
theorem dX3_partingHolds_23 : decode cX3_partingHolds 23 = .ok (.getfield 25, 3) := by decide +kernel
theorem dX3_partingHolds_26 : decode cX3_partingHolds 26 = .ok (.bipush 44, 2) := by decide +kernel
theorem dX3_partingHolds_28 : decode cX3_partingHolds 28 = .ok (.invokevirtual 205, 3) := by decide +kernel
theorem dX3_partingHolds_31 : decode cX3_partingHolds 31 = .ok (.aload_n 0, 1) := by decide +kernel
theorem dX3_partingHolds_32 : decode cX3_partingHolds 32 = .ok (.getfield 25, 3) := by decide +kernel
theorem dX3_partingHolds_35 : decode cX3_partingHolds 35 = .ok (.aload_n 1, 1) := by decide +kernel
theorem dX3_partingHolds_36 : decode cX3_partingHolds 36 = .ok (.iconst 1, 1) := by decide +kernel
theorem dX3_partingHolds_37 : decode cX3_partingHolds 37 = .ok (.invokevirtual 153, 3) := by decide +kernel
theorem dX3_partingHolds_40 : decode cX3_partingHolds 40 = .ok (.ireturn, 1) := by decide +kernel
theorem dX3_isSign_0 : decode cX3_isSign 0 = .ok (.iload_n 0, 1) := by decide +kernel
theorem dX3_isSign_1 : decode cX3_isSign 1 = .ok (.ifCond .lt 13, 3) := by decide +kernel
theorem dX3_isSign_4 : decode cX3_isSign 4 = .ok (.iload_n 0, 1) := by decide +kernel
theorem dX3_isSign_5 : decode cX3_isSign 5 = .ok (.bipush 127, 2) := by decide +kernel
theorem dX3_isSign_7 : decode cX3_isSign 7 = .ok (.if_icmp .gt 7, 3) := by decide +kernel
theorem dX3_isSign_10 : decode cX3_isSign 10 = .ok (.iconst 1, 1) := by decide +kernel
theorem dX3_isSign_11 : decode cX3_isSign 11 = .ok (.goto 4, 3) := by decide +kernel
theorem dX3_isSign_14 : decode cX3_isSign 14 = .ok (.iconst 0, 1) := by decide +kernel
theorem dX3_isSign_15 : decode cX3_isSign 15 = .ok (.ireturn, 1) := by decide +kernel
theorem dX3_areSigns_0 : decode cX3_areSigns 0 = .ok (.iconst 0, 1) := by decide +kernel
theorem dX3_areSigns_1 : decode cX3_areSigns 1 = .ok (.istore_n 3, 1) := by decide +kernel
theorem dX3_areSigns_2 : decode cX3_areSigns 2 = .ok (.iload_n 3, 1) := by decide +kernel
theorem dX3_areSigns_3 : decode cX3_areSigns 3 = .ok (.iload_n 2, 1) := by decide +kernel
theorem dX3_areSigns_4 : decode cX3_areSigns 4 = .ok (.if_icmp .ge 22, 3) := by decide +kernel
theorem dX3_areSigns_7 : decode cX3_areSigns 7 = .ok (.lload_n 0, 1) := by decide +kernel
theorem dX3_areSigns_8 : decode cX3_areSigns 8 = .ok (.iload_n 3, 1) := by decide +kernel
theorem dX3_areSigns_9 : decode cX3_areSigns 9 = .ok (.invokestatic 63, 3) := by decide +kernel
theorem dX3_areSigns_12 : decode cX3_areSigns 12 = .ok (.invokestatic 50, 3) := by decide +kernel
theorem dX3_areSigns_15 : decode cX3_areSigns 15 = .ok (.ifCond .ne 5, 3) := by decide +kernel
theorem dX3_areSigns_18 : decode cX3_areSigns 18 = .ok (.iconst 0, 1) := by decide +kernel
theorem dX3_areSigns_19 : decode cX3_areSigns 19 = .ok (.ireturn, 1) := by decide +kernel
theorem dX3_areSigns_20 : decode cX3_areSigns 20 = .ok (.iinc 3 1, 3) := by decide +kernel
theorem dX3_areSigns_23 : decode cX3_areSigns 23 = .ok (.goto (-21), 3) := by decide +kernel
theorem dX3_areSigns_26 : decode cX3_areSigns 26 = .ok (.iconst 1, 1) := by decide +kernel
theorem dX3_areSigns_27 : decode cX3_areSigns 27 = .ok (.ireturn, 1) := by decide +kernel
theorem dX3_byteOf_0 : decode cX3_byteOf 0 = .ok (.lload_n 0, 1) := by decide +kernel
theorem dX3_byteOf_1 : decode cX3_byteOf 1 = .ok (.bipush 8, 2) := by decide +kernel
theorem dX3_byteOf_3 : decode cX3_byteOf 3 = .ok (.iload_n 2, 1) := by decide +kernel
theorem dX3_byteOf_4 : decode cX3_byteOf 4 = .ok (.imul, 1) := by decide +kernel
theorem dX3_byteOf_5 : decode cX3_byteOf 5 = .ok (.lushr, 1) := by decide +kernel
theorem dX3_byteOf_6 : decode cX3_byteOf 6 = .ok (.l2i, 1) := by decide +kernel
theorem dX3_byteOf_7 : decode cX3_byteOf 7 = .ok (.sipush 255, 3) := by decide +kernel
theorem dX3_byteOf_10 : decode cX3_byteOf 10 = .ok (.iand, 1) := by decide +kernel
theorem dX3_byteOf_11 : decode cX3_byteOf 11 = .ok (.ireturn, 1) := by decide +kernel
theorem dX3_isBlankSign_0 : decode cX3_isBlankSign 0 = .ok (.iload_n 0, 1) := by decide +kernel
theorem dX3_isBlankSign_1 : decode cX3_isBlankSign 1 = .ok (.bipush 9, 2) := by decide +kernel
theorem dX3_isBlankSign_3 : decode cX3_isBlankSign 3 = .ok (.if_icmp .lt 9, 3) := by decide +kernel
theorem dX3_isBlankSign_6 : decode cX3_isBlankSign 6 = .ok (.iload_n 0, 1) := by decide +kernel
theorem dX3_isBlankSign_7 : decode cX3_isBlankSign 7 = .ok (.bipush 13, 2) := by decide +kernel
theorem dX3_isBlankSign_9 : decode cX3_isBlankSign 9 = .ok (.if_icmp .le 15, 3) := by decide +kernel
theorem dX3_isBlankSign_12 : decode cX3_isBlankSign 12 = .ok (.iload_n 0, 1) := by decide +kernel
theorem dX3_isBlankSign_13 : decode cX3_isBlankSign 13 = .ok (.bipush 28, 2) := by decide +kernel
theorem dX3_isBlankSign_15 : decode cX3_isBlankSign 15 = .ok (.if_icmp .lt 13, 3) := by decide +kernel
theorem dX3_isBlankSign_18 : decode cX3_isBlankSign 18 = .ok (.iload_n 0, 1) := by decide +kernel
theorem dX3_isBlankSign_19 : decode cX3_isBlankSign 19 = .ok (.bipush 32, 2) := by decide +kernel
theorem dX3_isBlankSign_21 : decode cX3_isBlankSign 21 = .ok (.if_icmp .gt 7, 3) := by decide +kernel
theorem dX3_isBlankSign_24 : decode cX3_isBlankSign 24 = .ok (.iconst 1, 1) := by decide +kernel
theorem dX3_isBlankSign_25 : decode cX3_isBlankSign 25 = .ok (.goto 4, 3) := by decide +kernel
theorem dX3_isBlankSign_28 : decode cX3_isBlankSign 28 = .ok (.iconst 0, 1) := by decide +kernel
theorem dX3_isBlankSign_29 : decode cX3_isBlankSign 29 = .ok (.ireturn, 1) := by decide +kernel
theorem dX3_isLoose_0 : decode cX3_isLoose 0 = .ok (.iload_n 1, 1) := by decide +kernel
theorem dX3_isLoose_1 : decode cX3_isLoose 1 = .ok (.ifCond .eq 10, 3) := by decide +kernel
theorem dX3_isLoose_4 : decode cX3_isLoose 4 = .ok (.iload_n 0, 1) := by decide +kernel
theorem dX3_isLoose_5 : decode cX3_isLoose 5 = .ok (.invokestatic 273, 3) := by decide +kernel
theorem dX3_isLoose_8 : decode cX3_isLoose 8 = .ok (.goto 14, 3) := by decide +kernel
theorem dX3_isLoose_11 : decode cX3_isLoose 11 = .ok (.iload_n 0, 1) := by decide +kernel
theorem dX3_isLoose_12 : decode cX3_isLoose 12 = .ok (.bipush 32, 2) := by decide +kernel
theorem dX3_isLoose_14 : decode cX3_isLoose 14 = .ok (.if_icmp .gt 7, 3) := by decide +kernel
theorem dX3_isLoose_17 : decode cX3_isLoose 17 = .ok (.iconst 1, 1) := by decide +kernel
theorem dX3_isLoose_18 : decode cX3_isLoose 18 = .ok (.goto 4, 3) := by decide +kernel
theorem dX3_isLoose_21 : decode cX3_isLoose 21 = .ok (.iconst 0, 1) := by decide +kernel
theorem dX3_isLoose_22 : decode cX3_isLoose 22 = .ok (.ireturn, 1) := by decide +kernel
theorem dX3_asTold_0 : decode cX3_asTold 0 = .ok (.iload_n 0, 1) := by decide +kernel
theorem dX3_asTold_1 : decode cX3_asTold 1 = .ok (.bipush 65, 2) := by decide +kernel
theorem dX3_asTold_3 : decode cX3_asTold 3 = .ok (.if_icmp .lt 13, 3) := by decide +kernel
theorem dX3_asTold_6 : decode cX3_asTold 6 = .ok (.iload_n 0, 1) := by decide +kernel
theorem dX3_asTold_7 : decode cX3_asTold 7 = .ok (.bipush 90, 2) := by decide +kernel
theorem dX3_asTold_9 : decode cX3_asTold 9 = .ok (.if_icmp .gt 7, 3) := by decide +kernel
theorem dX3_asTold_12 : decode cX3_asTold 12 = .ok (.iconst 1, 1) := by decide +kernel
theorem dX3_asTold_13 : decode cX3_asTold 13 = .ok (.goto 4, 3) := by decide +kernel
theorem dX3_asTold_16 : decode cX3_asTold 16 = .ok (.iconst 0, 1) := by decide +kernel
theorem dX3_asTold_17 : decode cX3_asTold 17 = .ok (.istore_n 2, 1) := by decide +kernel
theorem dX3_asTold_18 : decode cX3_asTold 18 = .ok (.iload_n 2, 1) := by decide +kernel
theorem dX3_asTold_19 : decode cX3_asTold 19 = .ok (.ifCond .eq 17, 3) := by decide +kernel
theorem dX3_asTold_22 : decode cX3_asTold 22 = .ok (.iload_n 1, 1) := by decide +kernel
theorem dX3_asTold_23 : decode cX3_asTold 23 = .ok (.ifCond .ne 13, 3) := by decide +kernel
theorem dX3_asTold_26 : decode cX3_asTold 26 = .ok (.iload_n 0, 1) := by decide +kernel
theorem dX3_asTold_27 : decode cX3_asTold 27 = .ok (.bipush 65, 2) := by decide +kernel
theorem dX3_asTold_29 : decode cX3_asTold 29 = .ok (.isub, 1) := by decide +kernel
theorem dX3_asTold_30 : decode cX3_asTold 30 = .ok (.bipush 97, 2) := by decide +kernel
theorem dX3_asTold_32 : decode cX3_asTold 32 = .ok (.iadd, 1) := by decide +kernel
theorem dX3_asTold_33 : decode cX3_asTold 33 = .ok (.goto 4, 3) := by decide +kernel
theorem dX3_asTold_36 : decode cX3_asTold 36 = .ok (.iload_n 0, 1) := by decide +kernel
theorem dX3_asTold_37 : decode cX3_asTold 37 = .ok (.ireturn, 1) := by decide +kernel
theorem dX4_init_0 : decode cX4_init 0 = .ok (.aload_n 0, 1) := by decide +kernel
theorem dX4_init_1 : decode cX4_init 1 = .ok (.invokespecial 1, 3) := by decide +kernel
theorem dX4_init_4 : decode cX4_init 4 = .ok (.aload_n 0, 1) := by decide +kernel
theorem dX4_init_5 : decode cX4_init 5 = .ok (.sipush 2400, 3) := by decide +kernel
theorem dX4_init_8 : decode cX4_init 8 = .ok (.newarray .int, 2) := by decide +kernel
theorem dX4_init_10 : decode cX4_init 10 = .ok (.putfield 7, 3) := by decide +kernel
theorem dX4_init_13 : decode cX4_init 13 = .ok (.aload_n 0, 1) := by decide +kernel
theorem dX4_init_14 : decode cX4_init 14 = .ok (.bipush 8, 2) := by decide +kernel
theorem dX4_init_16 : decode cX4_init 16 = .ok (.newarray .int, 2) := by decide +kernel
theorem dX4_init_18 : decode cX4_init 18 = .ok (.putfield 13, 3) := by decide +kernel
theorem dX4_init_21 : decode cX4_init 21 = .ok (.aload_n 0, 1) := by decide +kernel
theorem dX4_init_22 : decode cX4_init 22 = .ok (.sipush 300, 3) := by decide +kernel
theorem dX4_init_25 : decode cX4_init 25 = .ok (.newarray .int, 2) := by decide +kernel
theorem dX4_init_27 : decode cX4_init 27 = .ok (.putfield 16, 3) := by decide +kernel
theorem dX4_init_30 : decode cX4_init 30 = .ok (.aload_n 0, 1) := by decide +kernel
theorem dX4_init_31 : decode cX4_init 31 = .ok (.sipush 301, 3) := by decide +kernel
theorem dX4_init_34 : decode cX4_init 34 = .ok (.newarray .int, 2) := by decide +kernel
theorem dX4_init_36 : decode cX4_init 36 = .ok (.putfield 19, 3) := by decide +kernel
theorem dX4_init_39 : decode cX4_init 39 = .ok (.aload_n 0, 1) := by decide +kernel
theorem dX4_init_40 : decode cX4_init 40 = .ok (.sipush 301, 3) := by decide +kernel
theorem dX4_init_43 : decode cX4_init 43 = .ok (.newarray .int, 2) := by decide +kernel
theorem dX4_init_45 : decode cX4_init 45 = .ok (.putfield 22, 3) := by decide +kernel
theorem dX4_init_48 : decode cX4_init 48 = .ok (.aload_n 0, 1) := by decide +kernel
theorem dX4_init_49 : decode cX4_init 49 = .ok (.sipush 4800, 3) := by decide +kernel
theorem dX4_init_52 : decode cX4_init 52 = .ok (.newarray .int, 2) := by decide +kernel
theorem dX4_init_54 : decode cX4_init 54 = .ok (.putfield 25, 3) := by decide +kernel
theorem dX4_init_57 : decode cX4_init 57 = .ok (.aload_n 0, 1) := by decide +kernel
theorem dX4_init_58 : decode cX4_init 58 = .ok (.bipush 16, 2) := by decide +kernel
theorem dX4_init_60 : decode cX4_init 60 = .ok (.newarray .int, 2) := by decide +kernel
theorem dX4_init_62 : decode cX4_init 62 = .ok (.putfield 28, 3) := by decide +kernel
theorem dX4_init_65 : decode cX4_init 65 = .ok (.aload_n 0, 1) := by decide +kernel
theorem dX4_init_66 : decode cX4_init 66 = .ok (.iconst 2, 1) := by decide +kernel
theorem dX4_init_67 : decode cX4_init 67 = .ok (.newarray .int, 2) := by decide +kernel
theorem dX4_init_69 : decode cX4_init 69 = .ok (.putfield 31, 3) := by decide +kernel
theorem dX4_init_72 : decode cX4_init 72 = .ok (.aload_n 0, 1) := by decide +kernel
theorem dX4_init_73 : decode cX4_init 73 = .ok (.sipush 600, 3) := by decide +kernel
theorem dX4_init_76 : decode cX4_init 76 = .ok (.newarray .int, 2) := by decide +kernel
theorem dX4_init_78 : decode cX4_init 78 = .ok (.putfield 34, 3) := by decide +kernel
theorem dX4_init_81 : decode cX4_init 81 = .ok (.aload_n 0, 1) := by decide +kernel
theorem dX4_init_82 : decode cX4_init 82 = .ok (.sipush 602, 3) := by decide +kernel
theorem dX4_init_85 : decode cX4_init 85 = .ok (.newarray .int, 2) := by decide +kernel
theorem dX4_init_87 : decode cX4_init 87 = .ok (.putfield 37, 3) := by decide +kernel
theorem dX4_init_90 : decode cX4_init 90 = .ok (.aload_n 0, 1) := by decide +kernel
theorem dX4_init_91 : decode cX4_init 91 = .ok (.sipush 602, 3) := by decide +kernel
theorem dX4_init_94 : decode cX4_init 94 = .ok (.newarray .int, 2) := by decide +kernel
theorem dX4_init_96 : decode cX4_init 96 = .ok (.putfield 40, 3) := by decide +kernel
theorem dX4_init_99 : decode cX4_init 99 = .ok (.aload_n 0, 1) := by decide +kernel
theorem dX4_init_100 : decode cX4_init 100 = .ok (.sipush 300, 3) := by decide +kernel
theorem dX4_init_103 : decode cX4_init 103 = .ok (.newarray .int, 2) := by decide +kernel
theorem dX4_init_105 : decode cX4_init 105 = .ok (.putfield 43, 3) := by decide +kernel
theorem dX4_init_108 : decode cX4_init 108 = .ok (.return_, 1) := by decide +kernel
theorem dX4_isIn_0 : decode cX4_isIn 0 = .ok (.iload_n 0, 1) := by decide +kernel
theorem dX4_isIn_1 : decode cX4_isIn 1 = .ok (.iload_n 1, 1) := by decide +kernel
theorem dX4_isIn_2 : decode cX4_isIn 2 = .ok (.if_icmp .lt 12, 3) := by decide +kernel
theorem dX4_isIn_5 : decode cX4_isIn 5 = .ok (.iload_n 0, 1) := by decide +kernel
theorem dX4_isIn_6 : decode cX4_isIn 6 = .ok (.iload_n 2, 1) := by decide +kernel
theorem dX4_isIn_7 : decode cX4_isIn 7 = .ok (.if_icmp .gt 7, 3) := by decide +kernel
theorem dX4_isIn_10 : decode cX4_isIn 10 = .ok (.iconst 1, 1) := by decide +kernel
theorem dX4_isIn_11 : decode cX4_isIn 11 = .ok (.goto 4, 3) := by decide +kernel
theorem dX4_isIn_14 : decode cX4_isIn 14 = .ok (.iconst 0, 1) := by decide +kernel
theorem dX4_isIn_15 : decode cX4_isIn 15 = .ok (.ireturn, 1) := by decide +kernel
theorem dX4_isSign_0 : decode cX4_isSign 0 = .ok (.iload_n 0, 1) := by decide +kernel
theorem dX4_isSign_1 : decode cX4_isSign 1 = .ok (.iconst 0, 1) := by decide +kernel
theorem dX4_isSign_2 : decode cX4_isSign 2 = .ok (.bipush 127, 2) := by decide +kernel
theorem dX4_isSign_4 : decode cX4_isSign 4 = .ok (.invokestatic 46, 3) := by decide +kernel
theorem dX4_isSign_7 : decode cX4_isSign 7 = .ok (.ireturn, 1) := by decide +kernel
theorem dX4_meant_0 : decode cX4_meant 0 = .ok (.iload_n 0, 1) := by decide +kernel
theorem dX4_meant_1 : decode cX4_meant 1 = .ok (.bipush 7, 2) := by decide +kernel
theorem dX4_meant_3 : decode cX4_meant 3 = .ok (.iand, 1) := by decide +kernel
theorem dX4_meant_4 : decode cX4_meant 4 = .ok (.ireturn, 1) := by decide +kernel
theorem dX4_sizeOf_0 : decode cX4_sizeOf 0 = .ok (.aload_n 0, 1) := by decide +kernel
theorem dX4_sizeOf_1 : decode cX4_sizeOf 1 = .ok (.getfield 13, 3) := by decide +kernel
theorem dX4_sizeOf_4 : decode cX4_sizeOf 4 = .ok (.iload_n 1, 1) := by decide +kernel
theorem dX4_sizeOf_5 : decode cX4_sizeOf 5 = .ok (.invokestatic 50, 3) := by decide +kernel
theorem dX4_sizeOf_8 : decode cX4_sizeOf 8 = .ok (.iaload, 1) := by decide +kernel
theorem dX4_sizeOf_9 : decode cX4_sizeOf 9 = .ok (.ireturn, 1) := by decide +kernel
theorem dX4_signAt_0 : decode cX4_signAt 0 = .ok (.aload_n 0, 1) := by decide +kernel
theorem dX4_signAt_1 : decode cX4_signAt 1 = .ok (.getfield 7, 3) := by decide +kernel
theorem dX4_signAt_4 : decode cX4_signAt 4 = .ok (.sipush 300, 3) := by decide +kernel
theorem dX4_signAt_7 : decode cX4_signAt 7 = .ok (.iload_n 1, 1) := by decide +kernel
theorem dX4_signAt_8 : decode cX4_signAt 8 = .ok (.invokestatic 50, 3) := by decide +kernel
theorem dX4_signAt_11 : decode cX4_signAt 11 = .ok (.imul, 1) := by decide +kernel
theorem dX4_signAt_12 : decode cX4_signAt 12 = .ok (.iload_n 2, 1) := by decide +kernel
theorem dX4_signAt_13 : decode cX4_signAt 13 = .ok (.iadd, 1) := by decide +kernel
theorem dX4_signAt_14 : decode cX4_signAt 14 = .ok (.iaload, 1) := by decide +kernel
theorem dX4_signAt_15 : decode cX4_signAt 15 = .ok (.ireturn, 1) := by decide +kernel
theorem dX4_begins_0 : decode cX4_begins 0 = .ok (.aload_n 0, 1) := by decide +kernel
theorem dX4_begins_1 : decode cX4_begins 1 = .ok (.iconst 0, 1) := by decide +kernel
theorem dX4_begins_2 : decode cX4_begins 2 = .ok (.putfield 54, 3) := by decide +kernel
theorem dX4_begins_5 : decode cX4_begins 5 = .ok (.return_, 1) := by decide +kernel
theorem dX4_puts_0 : decode cX4_puts 0 = .ok (.aload_n 0, 1) := by decide +kernel
theorem dX4_puts_1 : decode cX4_puts 1 = .ok (.getfield 54, 3) := by decide +kernel
theorem dX4_puts_4 : decode cX4_puts 4 = .ok (.sipush 300, 3) := by decide +kernel
theorem dX4_puts_7 : decode cX4_puts 7 = .ok (.if_icmp .ge 13, 3) := by decide +kernel
theorem dX4_puts_10 : decode cX4_puts 10 = .ok (.aload_n 0, 1) := by decide +kernel
theorem dX4_puts_11 : decode cX4_puts 11 = .ok (.getfield 43, 3) := by decide +kernel
theorem dX4_puts_14 : decode cX4_puts 14 = .ok (.aload_n 0, 1) := by decide +kernel
theorem dX4_puts_15 : decode cX4_puts 15 = .ok (.getfield 54, 3) := by decide +kernel
theorem dX4_puts_18 : decode cX4_puts 18 = .ok (.iload_n 1, 1) := by decide +kernel
theorem dX4_puts_19 : decode cX4_puts 19 = .ok (.iastore, 1) := by decide +kernel
theorem dX4_puts_20 : decode cX4_puts 20 = .ok (.aload_n 0, 1) := by decide +kernel
theorem dX4_puts_21 : decode cX4_puts 21 = .ok (.dup, 1) := by decide +kernel
theorem dX4_puts_22 : decode cX4_puts 22 = .ok (.getfield 54, 3) := by decide +kernel
theorem dX4_puts_25 : decode cX4_puts 25 = .ok (.iconst 1, 1) := by decide +kernel
theorem dX4_puts_26 : decode cX4_puts 26 = .ok (.iadd, 1) := by decide +kernel
theorem dX4_puts_27 : decode cX4_puts 27 = .ok (.putfield 54, 3) := by decide +kernel
theorem dX4_puts_30 : decode cX4_puts 30 = .ok (.return_, 1) := by decide +kernel
theorem dX4_putsPart_0 : decode cX4_putsPart 0 = .ok (.iload_n 2, 1) := by decide +kernel
theorem dX4_putsPart_1 : decode cX4_putsPart 1 = .ok (.istore 4, 2) := by decide +kernel
theorem dX4_putsPart_3 : decode cX4_putsPart 3 = .ok (.iload 4, 2) := by decide +kernel
theorem dX4_putsPart_5 : decode cX4_putsPart 5 = .ok (.iload_n 3, 1) := by decide +kernel
theorem dX4_putsPart_6 : decode cX4_putsPart 6 = .ok (.if_icmp .ge 20, 3) := by decide +kernel
theorem dX4_putsPart_9 : decode cX4_putsPart 9 = .ok (.aload_n 0, 1) := by decide +kernel
theorem dX4_putsPart_10 : decode cX4_putsPart 10 = .ok (.aload_n 0, 1) := by decide +kernel
theorem dX4_putsPart_11 : decode cX4_putsPart 11 = .ok (.iload_n 1, 1) := by decide +kernel
theorem dX4_putsPart_12 : decode cX4_putsPart 12 = .ok (.iload 4, 2) := by decide +kernel
theorem dX4_putsPart_14 : decode cX4_putsPart 14 = .ok (.invokevirtual 58, 3) := by decide +kernel
theorem dX4_putsPart_17 : decode cX4_putsPart 17 = .ok (.invokevirtual 62, 3) := by decide +kernel
theorem dX4_putsPart_20 : decode cX4_putsPart 20 = .ok (.iinc 4 1, 3) := by decide +kernel
theorem dX4_putsPart_23 : decode cX4_putsPart 23 = .ok (.goto (-20), 3) := by decide +kernel
theorem dX4_putsPart_26 : decode cX4_putsPart 26 = .ok (.return_, 1) := by decide +kernel
theorem dX4_lays_0 : decode cX4_lays 0 = .ok (.aload_n 0, 1) := by decide +kernel
theorem dX4_lays_1 : decode cX4_lays 1 = .ok (.getfield 54, 3) := by decide +kernel
theorem dX4_lays_4 : decode cX4_lays 4 = .ok (.sipush 300, 3) := by decide +kernel
theorem dX4_lays_7 : decode cX4_lays 7 = .ok (.if_icmp .le 6, 3) := by decide +kernel
theorem dX4_lays_10 : decode cX4_lays 10 = .ok (.ldc 66, 2) := by decide +kernel
theorem dX4_lays_12 : decode cX4_lays 12 = .ok (.ireturn, 1) := by decide +kernel
theorem dX4_lays_13 : decode cX4_lays 13 = .ok (.iload_n 1, 1) := by decide +kernel
theorem dX4_lays_14 : decode cX4_lays 14 = .ok (.invokestatic 50, 3) := by decide +kernel
theorem dX4_lays_17 : decode cX4_lays 17 = .ok (.istore_n 2, 1) := by decide +kernel
theorem dX4_lays_18 : decode cX4_lays 18 = .ok (.iconst 0, 1) := by decide +kernel
theorem dX4_lays_19 : decode cX4_lays 19 = .ok (.istore_n 3, 1) := by decide +kernel
theorem dX4_lays_20 : decode cX4_lays 20 = .ok (.iload_n 3, 1) := by decide +kernel
theorem dX4_lays_21 : decode cX4_lays 21 = .ok (.aload_n 0, 1) := by decide +kernel
theorem dX4_lays_22 : decode cX4_lays 22 = .ok (.getfield 54, 3) := by decide +kernel
theorem dX4_lays_25 : decode cX4_lays 25 = .ok (.if_icmp .ge 27, 3) := by decide +kernel
theorem dX4_lays_28 : decode cX4_lays 28 = .ok (.aload_n 0, 1) := by decide +kernel
theorem dX4_lays_29 : decode cX4_lays 29 = .ok (.getfield 7, 3) := by decide +kernel
theorem dX4_lays_32 : decode cX4_lays 32 = .ok (.sipush 300, 3) := by decide +kernel
theorem dX4_lays_35 : decode cX4_lays 35 = .ok (.iload_n 2, 1) := by decide +kernel
theorem dX4_lays_36 : decode cX4_lays 36 = .ok (.imul, 1) := by decide +kernel
theorem dX4_lays_37 : decode cX4_lays 37 = .ok (.iload_n 3, 1) := by decide +kernel
theorem dX4_lays_38 : decode cX4_lays 38 = .ok (.iadd, 1) := by decide +kernel
theorem dX4_lays_39 : decode cX4_lays 39 = .ok (.aload_n 0, 1) := by decide +kernel
theorem dX4_lays_40 : decode cX4_lays 40 = .ok (.getfield 43, 3) := by decide +kernel
theorem dX4_lays_43 : decode cX4_lays 43 = .ok (.iload_n 3, 1) := by decide +kernel
theorem dX4_lays_44 : decode cX4_lays 44 = .ok (.iaload, 1) := by decide +kernel
theorem dX4_lays_45 : decode cX4_lays 45 = .ok (.iastore, 1) := by decide +kernel
theorem dX4_lays_46 : decode cX4_lays 46 = .ok (.iinc 3 1, 3) := by decide +kernel
theorem dX4_lays_49 : decode cX4_lays 49 = .ok (.goto (-29), 3) := by decide +kernel
theorem dX4_lays_52 : decode cX4_lays 52 = .ok (.aload_n 0, 1) := by decide +kernel
theorem dX4_lays_53 : decode cX4_lays 53 = .ok (.getfield 13, 3) := by decide +kernel
theorem dX4_lays_56 : decode cX4_lays 56 = .ok (.iload_n 2, 1) := by decide +kernel
theorem dX4_lays_57 : decode cX4_lays 57 = .ok (.aload_n 0, 1) := by decide +kernel
theorem dX4_lays_58 : decode cX4_lays 58 = .ok (.getfield 54, 3) := by decide +kernel
theorem dX4_lays_61 : decode cX4_lays 61 = .ok (.iastore, 1) := by decide +kernel
theorem dX4_lays_62 : decode cX4_lays 62 = .ok (.aload_n 0, 1) := by decide +kernel
theorem dX4_lays_63 : decode cX4_lays 63 = .ok (.getfield 54, 3) := by decide +kernel
theorem dX4_lays_66 : decode cX4_lays 66 = .ok (.ireturn, 1) := by decide +kernel
theorem dX4_wipe_0 : decode cX4_wipe 0 = .ok (.aload_n 0, 1) := by decide +kernel
theorem dX4_wipe_1 : decode cX4_wipe 1 = .ok (.iload_n 1, 1) := by decide +kernel
theorem dX4_wipe_2 : decode cX4_wipe 2 = .ok (.invokevirtual 67, 3) := by decide +kernel
theorem dX4_wipe_5 : decode cX4_wipe 5 = .ok (.istore_n 2, 1) := by decide +kernel
theorem dX4_wipe_6 : decode cX4_wipe 6 = .ok (.aload_n 0, 1) := by decide +kernel
theorem dX4_wipe_7 : decode cX4_wipe 7 = .ok (.getfield 13, 3) := by decide +kernel
theorem dX4_wipe_10 : decode cX4_wipe 10 = .ok (.iload_n 1, 1) := by decide +kernel
theorem dX4_wipe_11 : decode cX4_wipe 11 = .ok (.invokestatic 50, 3) := by decide +kernel
theorem dX4_wipe_14 : decode cX4_wipe 14 = .ok (.iconst 0, 1) := by decide +kernel
theorem dX4_wipe_15 : decode cX4_wipe 15 = .ok (.iastore, 1) := by decide +kernel
theorem dX4_wipe_16 : decode cX4_wipe 16 = .ok (.iload_n 2, 1) := by decide +kernel
theorem dX4_wipe_17 : decode cX4_wipe 17 = .ok (.ireturn, 1) := by decide +kernel
theorem dX4_type_0 : decode cX4_type 0 = .ok (.iload_n 2, 1) := by decide +kernel
theorem dX4_type_1 : decode cX4_type 1 = .ok (.invokestatic 70, 3) := by decide +kernel
theorem dX4_type_4 : decode cX4_type 4 = .ok (.ifCond .ne 6, 3) := by decide +kernel
theorem dX4_type_7 : decode cX4_type 7 = .ok (.ldc 74, 2) := by decide +kernel
theorem dX4_type_9 : decode cX4_type 9 = .ok (.ireturn, 1) := by decide +kernel
theorem dX4_type_10 : decode cX4_type 10 = .ok (.aload_n 0, 1) := by decide +kernel
theorem dX4_type_11 : decode cX4_type 11 = .ok (.invokevirtual 75, 3) := by decide +kernel
theorem dX4_type_14 : decode cX4_type 14 = .ok (.aload_n 0, 1) := by decide +kernel
theorem dX4_type_15 : decode cX4_type 15 = .ok (.iload_n 1, 1) := by decide +kernel
theorem dX4_type_16 : decode cX4_type 16 = .ok (.iconst 0, 1) := by decide +kernel
theorem dX4_type_17 : decode cX4_type 17 = .ok (.aload_n 0, 1) := by decide +kernel
theorem dX4_type_18 : decode cX4_type 18 = .ok (.iload_n 1, 1) := by decide +kernel
theorem dX4_type_19 : decode cX4_type 19 = .ok (.invokevirtual 67, 3) := by decide +kernel
theorem dX4_type_22 : decode cX4_type 22 = .ok (.invokevirtual 78, 3) := by decide +kernel
theorem dX4_type_25 : decode cX4_type 25 = .ok (.aload_n 0, 1) := by decide +kernel
theorem dX4_type_26 : decode cX4_type 26 = .ok (.iload_n 2, 1) := by decide +kernel
theorem dX4_type_27 : decode cX4_type 27 = .ok (.invokevirtual 62, 3) := by decide +kernel
theorem dX4_type_30 : decode cX4_type 30 = .ok (.aload_n 0, 1) := by decide +kernel
theorem dX4_type_31 : decode cX4_type 31 = .ok (.iload_n 1, 1) := by decide +kernel
theorem dX4_type_32 : decode cX4_type 32 = .ok (.invokevirtual 82, 3) := by decide +kernel
theorem dX4_type_35 : decode cX4_type 35 = .ok (.ireturn, 1) := by decide +kernel
theorem dX4_feed_0 : decode cX4_feed 0 = .ok (.iload 4, 2) := by decide +kernel
theorem dX4_feed_2 : decode cX4_feed 2 = .ok (.iconst 1, 1) := by decide +kernel
theorem dX4_feed_3 : decode cX4_feed 3 = .ok (.bipush 8, 2) := by decide +kernel
theorem dX4_feed_5 : decode cX4_feed 5 = .ok (.invokestatic 46, 3) := by decide +kernel
theorem dX4_feed_8 : decode cX4_feed 8 = .ok (.ifCond .ne 6, 3) := by decide +kernel
theorem dX4_feed_11 : decode cX4_feed 11 = .ok (.ldc 74, 2) := by decide +kernel
theorem dX4_feed_13 : decode cX4_feed 13 = .ok (.ireturn, 1) := by decide +kernel
theorem dX4_feed_14 : decode cX4_feed 14 = .ok (.aload_n 0, 1) := by decide +kernel
theorem dX4_feed_15 : decode cX4_feed 15 = .ok (.invokevirtual 75, 3) := by decide +kernel
theorem dX4_feed_18 : decode cX4_feed 18 = .ok (.aload_n 0, 1) := by decide +kernel
theorem dX4_feed_19 : decode cX4_feed 19 = .ok (.iload_n 1, 1) := by decide +kernel
theorem dX4_feed_20 : decode cX4_feed 20 = .ok (.iconst 0, 1) := by decide +kernel
theorem dX4_feed_21 : decode cX4_feed 21 = .ok (.aload_n 0, 1) := by decide +kernel
theorem dX4_feed_22 : decode cX4_feed 22 = .ok (.iload_n 1, 1) := by decide +kernel
theorem dX4_feed_23 : decode cX4_feed 23 = .ok (.invokevirtual 67, 3) := by decide +kernel
theorem dX4_feed_26 : decode cX4_feed 26 = .ok (.invokevirtual 78, 3) := by decide +kernel
theorem dX4_feed_29 : decode cX4_feed 29 = .ok (.iconst 1, 1) := by decide +kernel
theorem dX4_feed_30 : decode cX4_feed 30 = .ok (.istore 5, 2) := by decide +kernel
theorem dX4_feed_32 : decode cX4_feed 32 = .ok (.iconst 0, 1) := by decide +kernel
theorem dX4_feed_33 : decode cX4_feed 33 = .ok (.istore 6, 2) := by decide +kernel
theorem dX4_feed_35 : decode cX4_feed 35 = .ok (.iload 6, 2) := by decide +kernel
theorem dX4_feed_37 : decode cX4_feed 37 = .ok (.iload 4, 2) := by decide +kernel
theorem dX4_feed_39 : decode cX4_feed 39 = .ok (.if_icmp .ge 49, 3) := by decide +kernel
theorem dX4_feed_42 : decode cX4_feed 42 = .ok (.lload_n 2, 1) := by decide +kernel
theorem dX4_feed_43 : decode cX4_feed 43 = .ok (.bipush 8, 2) := by decide +kernel
theorem dX4_feed_45 : decode cX4_feed 45 = .ok (.iload 6, 2) := by decide +kernel
theorem dX4_feed_47 : decode cX4_feed 47 = .ok (.imul, 1) := by decide +kernel
theorem dX4_feed_48 : decode cX4_feed 48 = .ok (.lshr, 1) := by decide +kernel
theorem dX4_feed_49 : decode cX4_feed 49 = .ok (.ldc2_w 85, 3) := by decide +kernel
theorem dX4_feed_52 : decode cX4_feed 52 = .ok (.land, 1) := by decide +kernel
theorem dX4_feed_53 : decode cX4_feed 53 = .ok (.l2i, 1) := by decide +kernel
theorem dX4_feed_54 : decode cX4_feed 54 = .ok (.istore 7, 2) := by decide +kernel
theorem dX4_feed_56 : decode cX4_feed 56 = .ok (.iload 5, 2) := by decide +kernel
theorem dX4_feed_58 : decode cX4_feed 58 = .ok (.ifCond .eq 15, 3) := by decide +kernel
theorem dX4_feed_61 : decode cX4_feed 61 = .ok (.iload 7, 2) := by decide +kernel
theorem dX4_feed_63 : decode cX4_feed 63 = .ok (.invokestatic 70, 3) := by decide +kernel
theorem dX4_feed_66 : decode cX4_feed 66 = .ok (.ifCond .eq 7, 3) := by decide +kernel
theorem dX4_feed_69 : decode cX4_feed 69 = .ok (.iconst 1, 1) := by decide +kernel
theorem dX4_feed_70 : decode cX4_feed 70 = .ok (.goto 4, 3) := by decide +kernel
theorem dX4_feed_73 : decode cX4_feed 73 = .ok (.iconst 0, 1) := by decide +kernel
theorem dX4_feed_74 : decode cX4_feed 74 = .ok (.istore 5, 2) := by decide +kernel
theorem dX4_feed_76 : decode cX4_feed 76 = .ok (.aload_n 0, 1) := by decide +kernel
theorem dX4_feed_77 : decode cX4_feed 77 = .ok (.iload 7, 2) := by decide +kernel
theorem dX4_feed_79 : decode cX4_feed 79 = .ok (.invokevirtual 62, 3) := by decide +kernel
theorem dX4_feed_82 : decode cX4_feed 82 = .ok (.iinc 6 1, 3) := by decide +kernel
theorem dX4_feed_85 : decode cX4_feed 85 = .ok (.goto (-50), 3) := by decide +kernel
theorem dX4_feed_88 : decode cX4_feed 88 = .ok (.iload 5, 2) := by decide +kernel
theorem dX4_feed_90 : decode cX4_feed 90 = .ok (.ifCond .eq 11, 3) := by decide +kernel
theorem dX4_feed_93 : decode cX4_feed 93 = .ok (.aload_n 0, 1) := by decide +kernel
theorem dX4_feed_94 : decode cX4_feed 94 = .ok (.iload_n 1, 1) := by decide +kernel
theorem dX4_feed_95 : decode cX4_feed 95 = .ok (.invokevirtual 82, 3) := by decide +kernel
theorem dX4_feed_98 : decode cX4_feed 98 = .ok (.goto 5, 3) := by decide +kernel
theorem dX4_feed_101 : decode cX4_feed 101 = .ok (.ldc 74, 2) := by decide +kernel
theorem dX4_feed_103 : decode cX4_feed 103 = .ok (.ireturn, 1) := by decide +kernel
theorem dX4_copy_0 : decode cX4_copy 0 = .ok (.aload_n 0, 1) := by decide +kernel
theorem dX4_copy_1 : decode cX4_copy 1 = .ok (.invokevirtual 75, 3) := by decide +kernel
theorem dX4_copy_4 : decode cX4_copy 4 = .ok (.aload_n 0, 1) := by decide +kernel
theorem dX4_copy_5 : decode cX4_copy 5 = .ok (.iload_n 1, 1) := by decide +kernel
theorem dX4_copy_6 : decode cX4_copy 6 = .ok (.iconst 0, 1) := by decide +kernel
theorem dX4_copy_7 : decode cX4_copy 7 = .ok (.aload_n 0, 1) := by decide +kernel
theorem dX4_copy_8 : decode cX4_copy 8 = .ok (.iload_n 1, 1) := by decide +kernel
theorem dX4_copy_9 : decode cX4_copy 9 = .ok (.invokevirtual 67, 3) := by decide +kernel
theorem dX4_copy_12 : decode cX4_copy 12 = .ok (.invokevirtual 78, 3) := by decide +kernel
theorem dX4_copy_15 : decode cX4_copy 15 = .ok (.aload_n 0, 1) := by decide +kernel
theorem dX4_copy_16 : decode cX4_copy 16 = .ok (.iload_n 2, 1) := by decide +kernel
theorem dX4_copy_17 : decode cX4_copy 17 = .ok (.invokevirtual 82, 3) := by decide +kernel
theorem dX4_copy_20 : decode cX4_copy 20 = .ok (.ireturn, 1) := by decide +kernel
theorem dX4_swap_0 : decode cX4_swap 0 = .ok (.iload_n 1, 1) := by decide +kernel
theorem dX4_swap_1 : decode cX4_swap 1 = .ok (.invokestatic 50, 3) := by decide +kernel
theorem dX4_swap_4 : decode cX4_swap 4 = .ok (.istore_n 3, 1) := by decide +kernel
theorem dX4_swap_5 : decode cX4_swap 5 = .ok (.iload_n 2, 1) := by decide +kernel
theorem dX4_swap_6 : decode cX4_swap 6 = .ok (.invokestatic 50, 3) := by decide +kernel
theorem dX4_swap_9 : decode cX4_swap 9 = .ok (.istore 4, 2) := by decide +kernel
theorem dX4_swap_11 : decode cX4_swap 11 = .ok (.iconst 0, 1) := by decide +kernel
theorem dX4_swap_12 : decode cX4_swap 12 = .ok (.istore 5, 2) := by decide +kernel
theorem dX4_swap_14 : decode cX4_swap 14 = .ok (.iload 5, 2) := by decide +kernel
theorem dX4_swap_16 : decode cX4_swap 16 = .ok (.sipush 300, 3) := by decide +kernel
theorem dX4_swap_19 : decode cX4_swap 19 = .ok (.if_icmp .ge 67, 3) := by decide +kernel
theorem dX4_swap_22 : decode cX4_swap 22 = .ok (.aload_n 0, 1) := by decide +kernel
theorem dX4_swap_23 : decode cX4_swap 23 = .ok (.getfield 7, 3) := by decide +kernel
theorem dX4_swap_26 : decode cX4_swap 26 = .ok (.sipush 300, 3) := by decide +kernel
theorem dX4_swap_29 : decode cX4_swap 29 = .ok (.iload_n 3, 1) := by decide +kernel
theorem dX4_swap_30 : decode cX4_swap 30 = .ok (.imul, 1) := by decide +kernel
theorem dX4_swap_31 : decode cX4_swap 31 = .ok (.iload 5, 2) := by decide +kernel
theorem dX4_swap_33 : decode cX4_swap 33 = .ok (.iadd, 1) := by decide +kernel
theorem dX4_swap_34 : decode cX4_swap 34 = .ok (.iaload, 1) := by decide +kernel
theorem dX4_swap_35 : decode cX4_swap 35 = .ok (.istore 6, 2) := by decide +kernel
theorem dX4_swap_37 : decode cX4_swap 37 = .ok (.aload_n 0, 1) := by decide +kernel
theorem dX4_swap_38 : decode cX4_swap 38 = .ok (.getfield 7, 3) := by decide +kernel
theorem dX4_swap_41 : decode cX4_swap 41 = .ok (.sipush 300, 3) := by decide +kernel
theorem dX4_swap_44 : decode cX4_swap 44 = .ok (.iload_n 3, 1) := by decide +kernel
theorem dX4_swap_45 : decode cX4_swap 45 = .ok (.imul, 1) := by decide +kernel
theorem dX4_swap_46 : decode cX4_swap 46 = .ok (.iload 5, 2) := by decide +kernel
theorem dX4_swap_48 : decode cX4_swap 48 = .ok (.iadd, 1) := by decide +kernel
theorem dX4_swap_49 : decode cX4_swap 49 = .ok (.aload_n 0, 1) := by decide +kernel
theorem dX4_swap_50 : decode cX4_swap 50 = .ok (.getfield 7, 3) := by decide +kernel
theorem dX4_swap_53 : decode cX4_swap 53 = .ok (.sipush 300, 3) := by decide +kernel
theorem dX4_swap_56 : decode cX4_swap 56 = .ok (.iload 4, 2) := by decide +kernel
theorem dX4_swap_58 : decode cX4_swap 58 = .ok (.imul, 1) := by decide +kernel
theorem dX4_swap_59 : decode cX4_swap 59 = .ok (.iload 5, 2) := by decide +kernel
theorem dX4_swap_61 : decode cX4_swap 61 = .ok (.iadd, 1) := by decide +kernel
theorem dX4_swap_62 : decode cX4_swap 62 = .ok (.iaload, 1) := by decide +kernel
theorem dX4_swap_63 : decode cX4_swap 63 = .ok (.iastore, 1) := by decide +kernel
theorem dX4_swap_64 : decode cX4_swap 64 = .ok (.aload_n 0, 1) := by decide +kernel
theorem dX4_swap_65 : decode cX4_swap 65 = .ok (.getfield 7, 3) := by decide +kernel
theorem dX4_swap_68 : decode cX4_swap 68 = .ok (.sipush 300, 3) := by decide +kernel
theorem dX4_swap_71 : decode cX4_swap 71 = .ok (.iload 4, 2) := by decide +kernel
theorem dX4_swap_73 : decode cX4_swap 73 = .ok (.imul, 1) := by decide +kernel
theorem dX4_swap_74 : decode cX4_swap 74 = .ok (.iload 5, 2) := by decide +kernel
theorem dX4_swap_76 : decode cX4_swap 76 = .ok (.iadd, 1) := by decide +kernel
theorem dX4_swap_77 : decode cX4_swap 77 = .ok (.iload 6, 2) := by decide +kernel
theorem dX4_swap_79 : decode cX4_swap 79 = .ok (.iastore, 1) := by decide +kernel
theorem dX4_swap_80 : decode cX4_swap 80 = .ok (.iinc 5 1, 3) := by decide +kernel
theorem dX4_swap_83 : decode cX4_swap 83 = .ok (.goto (-69), 3) := by decide +kernel
theorem dX4_swap_86 : decode cX4_swap 86 = .ok (.aload_n 0, 1) := by decide +kernel
theorem dX4_swap_87 : decode cX4_swap 87 = .ok (.getfield 13, 3) := by decide +kernel
theorem dX4_swap_90 : decode cX4_swap 90 = .ok (.iload_n 3, 1) := by decide +kernel
theorem dX4_swap_91 : decode cX4_swap 91 = .ok (.iaload, 1) := by decide +kernel
theorem dX4_swap_92 : decode cX4_swap 92 = .ok (.istore 5, 2) := by decide +kernel
theorem dX4_swap_94 : decode cX4_swap 94 = .ok (.aload_n 0, 1) := by decide +kernel
theorem dX4_swap_95 : decode cX4_swap 95 = .ok (.getfield 13, 3) := by decide +kernel
theorem dX4_swap_98 : decode cX4_swap 98 = .ok (.iload_n 3, 1) := by decide +kernel
theorem dX4_swap_99 : decode cX4_swap 99 = .ok (.aload_n 0, 1) := by decide +kernel
theorem dX4_swap_100 : decode cX4_swap 100 = .ok (.getfield 13, 3) := by decide +kernel
theorem dX4_swap_103 : decode cX4_swap 103 = .ok (.iload 4, 2) := by decide +kernel
theorem dX4_swap_105 : decode cX4_swap 105 = .ok (.iaload, 1) := by decide +kernel
theorem dX4_swap_106 : decode cX4_swap 106 = .ok (.iastore, 1) := by decide +kernel
theorem dX4_swap_107 : decode cX4_swap 107 = .ok (.aload_n 0, 1) := by decide +kernel
theorem dX4_swap_108 : decode cX4_swap 108 = .ok (.getfield 13, 3) := by decide +kernel
theorem dX4_swap_111 : decode cX4_swap 111 = .ok (.iload 4, 2) := by decide +kernel
theorem dX4_swap_113 : decode cX4_swap 113 = .ok (.iload 5, 2) := by decide +kernel
theorem dX4_swap_115 : decode cX4_swap 115 = .ok (.iastore, 1) := by decide +kernel
theorem dX4_swap_116 : decode cX4_swap 116 = .ok (.aload_n 0, 1) := by decide +kernel
theorem dX4_swap_117 : decode cX4_swap 117 = .ok (.getfield 13, 3) := by decide +kernel
theorem dX4_swap_120 : decode cX4_swap 120 = .ok (.iload_n 3, 1) := by decide +kernel
theorem dX4_swap_121 : decode cX4_swap 121 = .ok (.iaload, 1) := by decide +kernel
theorem dX4_swap_122 : decode cX4_swap 122 = .ok (.ireturn, 1) := by decide +kernel
theorem dX4_concat_0 : decode cX4_concat 0 = .ok (.aload_n 0, 1) := by decide +kernel
theorem dX4_concat_1 : decode cX4_concat 1 = .ok (.invokevirtual 75, 3) := by decide +kernel
theorem dX4_concat_4 : decode cX4_concat 4 = .ok (.aload_n 0, 1) := by decide +kernel
theorem dX4_concat_5 : decode cX4_concat 5 = .ok (.iload_n 1, 1) := by decide +kernel
theorem dX4_concat_6 : decode cX4_concat 6 = .ok (.iconst 0, 1) := by decide +kernel
theorem dX4_concat_7 : decode cX4_concat 7 = .ok (.aload_n 0, 1) := by decide +kernel
theorem dX4_concat_8 : decode cX4_concat 8 = .ok (.iload_n 1, 1) := by decide +kernel
theorem dX4_concat_9 : decode cX4_concat 9 = .ok (.invokevirtual 67, 3) := by decide +kernel
theorem dX4_concat_12 : decode cX4_concat 12 = .ok (.invokevirtual 78, 3) := by decide +kernel
theorem dX4_concat_15 : decode cX4_concat 15 = .ok (.aload_n 0, 1) := by decide +kernel
theorem dX4_concat_16 : decode cX4_concat 16 = .ok (.iload_n 2, 1) := by decide +kernel
theorem dX4_concat_17 : decode cX4_concat 17 = .ok (.iconst 0, 1) := by decide +kernel
theorem dX4_concat_18 : decode cX4_concat 18 = .ok (.aload_n 0, 1) := by decide +kernel
theorem dX4_concat_19 : decode cX4_concat 19 = .ok (.iload_n 2, 1) := by decide +kernel
theorem dX4_concat_20 : decode cX4_concat 20 = .ok (.invokevirtual 67, 3) := by decide +kernel
theorem dX4_concat_23 : decode cX4_concat 23 = .ok (.invokevirtual 78, 3) := by decide +kernel
theorem dX4_concat_26 : decode cX4_concat 26 = .ok (.aload_n 0, 1) := by decide +kernel
theorem dX4_concat_27 : decode cX4_concat 27 = .ok (.iload_n 3, 1) := by decide +kernel
theorem dX4_concat_28 : decode cX4_concat 28 = .ok (.invokevirtual 82, 3) := by decide +kernel
theorem dX4_concat_31 : decode cX4_concat 31 = .ok (.ireturn, 1) := by decide +kernel
theorem dX4_substring_0 : decode cX4_substring 0 = .ok (.iload_n 2, 1) := by decide +kernel
theorem dX4_substring_1 : decode cX4_substring 1 = .ok (.ifCond .lt 17, 3) := by decide +kernel
theorem dX4_substring_4 : decode cX4_substring 4 = .ok (.iload_n 3, 1) := by decide +kernel
theorem dX4_substring_5 : decode cX4_substring 5 = .ok (.aload_n 0, 1) := by decide +kernel
theorem dX4_substring_6 : decode cX4_substring 6 = .ok (.iload_n 1, 1) := by decide +kernel
theorem dX4_substring_7 : decode cX4_substring 7 = .ok (.invokevirtual 67, 3) := by decide +kernel
theorem dX4_substring_10 : decode cX4_substring 10 = .ok (.if_icmp .gt 8, 3) := by decide +kernel
theorem dX4_substring_13 : decode cX4_substring 13 = .ok (.iload_n 2, 1) := by decide +kernel
theorem dX4_substring_14 : decode cX4_substring 14 = .ok (.iload_n 3, 1) := by decide +kernel
theorem dX4_substring_15 : decode cX4_substring 15 = .ok (.if_icmp .le 6, 3) := by decide +kernel
theorem dX4_substring_18 : decode cX4_substring 18 = .ok (.ldc 87, 2) := by decide +kernel
theorem dX4_substring_20 : decode cX4_substring 20 = .ok (.ireturn, 1) := by decide +kernel
theorem dX4_substring_21 : decode cX4_substring 21 = .ok (.aload_n 0, 1) := by decide +kernel
theorem dX4_substring_22 : decode cX4_substring 22 = .ok (.invokevirtual 75, 3) := by decide +kernel
theorem dX4_substring_25 : decode cX4_substring 25 = .ok (.aload_n 0, 1) := by decide +kernel
theorem dX4_substring_26 : decode cX4_substring 26 = .ok (.iload_n 1, 1) := by decide +kernel
theorem dX4_substring_27 : decode cX4_substring 27 = .ok (.iload_n 2, 1) := by decide +kernel
theorem dX4_substring_28 : decode cX4_substring 28 = .ok (.iload_n 3, 1) := by decide +kernel
theorem dX4_substring_29 : decode cX4_substring 29 = .ok (.invokevirtual 78, 3) := by decide +kernel
theorem dX4_substring_32 : decode cX4_substring 32 = .ok (.aload_n 0, 1) := by decide +kernel
theorem dX4_substring_33 : decode cX4_substring 33 = .ok (.iload 4, 2) := by decide +kernel
theorem dX4_substring_35 : decode cX4_substring 35 = .ok (.invokevirtual 82, 3) := by decide +kernel
theorem dX4_substring_38 : decode cX4_substring 38 = .ok (.ireturn, 1) := by decide +kernel
theorem dX4_tail_0 : decode cX4_tail 0 = .ok (.aload_n 0, 1) := by decide +kernel
theorem dX4_tail_1 : decode cX4_tail 1 = .ok (.iload_n 1, 1) := by decide +kernel
theorem dX4_tail_2 : decode cX4_tail 2 = .ok (.iload_n 2, 1) := by decide +kernel
theorem dX4_tail_3 : decode cX4_tail 3 = .ok (.aload_n 0, 1) := by decide +kernel
theorem dX4_tail_4 : decode cX4_tail 4 = .ok (.iload_n 1, 1) := by decide +kernel
theorem dX4_tail_5 : decode cX4_tail 5 = .ok (.invokevirtual 67, 3) := by decide +kernel
theorem dX4_tail_8 : decode cX4_tail 8 = .ok (.iload_n 3, 1) := by decide +kernel
theorem dX4_tail_9 : decode cX4_tail 9 = .ok (.invokevirtual 88, 3) := by decide +kernel
theorem dX4_tail_12 : decode cX4_tail 12 = .ok (.ireturn, 1) := by decide +kernel
theorem dX4_number_0 : decode cX4_number 0 = .ok (.aload_n 0, 1) := by decide +kernel
theorem dX4_number_1 : decode cX4_number 1 = .ok (.iload_n 1, 1) := by decide +kernel
theorem dX4_number_2 : decode cX4_number 2 = .ok (.i2l, 1) := by decide +kernel
theorem dX4_number_3 : decode cX4_number 3 = .ok (.iload_n 2, 1) := by decide +kernel
theorem dX4_number_4 : decode cX4_number 4 = .ok (.invokevirtual 92, 3) := by decide +kernel
theorem dX4_number_7 : decode cX4_number 7 = .ok (.ireturn, 1) := by decide +kernel
theorem dX4_big_0 : decode cX4_big 0 = .ok (.iconst 1, 1) := by decide +kernel
theorem dX4_big_1 : decode cX4_big 1 = .ok (.istore 4, 2) := by decide +kernel
theorem dX4_big_3 : decode cX4_big 3 = .ok (.lload_n 1, 1) := by decide +kernel
theorem dX4_big_4 : decode cX4_big 4 = .ok (.ldc2_w 96, 3) := by decide +kernel
theorem dX4_big_7 : decode cX4_big 7 = .ok (.ldiv, 1) := by decide +kernel
theorem dX4_big_8 : decode cX4_big 8 = .ok (.lstore 5, 2) := by decide +kernel
theorem dX4_big_10 : decode cX4_big 10 = .ok (.lload 5, 2) := by decide +kernel
theorem dX4_big_12 : decode cX4_big 12 = .ok (.lconst 0, 1) := by decide +kernel
theorem dX4_big_13 : decode cX4_big 13 = .ok (.lcmp, 1) := by decide +kernel
theorem dX4_big_14 : decode cX4_big 14 = .ok (.ifCond .eq 17, 3) := by decide +kernel
theorem dX4_big_17 : decode cX4_big 17 = .ok (.iinc 4 1, 3) := by decide +kernel
theorem dX4_big_20 : decode cX4_big 20 = .ok (.lload 5, 2) := by decide +kernel
theorem dX4_big_22 : decode cX4_big 22 = .ok (.ldc2_w 96, 3) := by decide +kernel
theorem dX4_big_25 : decode cX4_big 25 = .ok (.ldiv, 1) := by decide +kernel
theorem dX4_big_26 : decode cX4_big 26 = .ok (.lstore 5, 2) := by decide +kernel
theorem dX4_big_28 : decode cX4_big 28 = .ok (.goto (-18), 3) := by decide +kernel
theorem dX4_big_31 : decode cX4_big 31 = .ok (.aload_n 0, 1) := by decide +kernel
theorem dX4_big_32 : decode cX4_big 32 = .ok (.invokevirtual 75, 3) := by decide +kernel
theorem dX4_big_35 : decode cX4_big 35 = .ok (.lload_n 1, 1) := by decide +kernel
theorem dX4_big_36 : decode cX4_big 36 = .ok (.lconst 0, 1) := by decide +kernel
theorem dX4_big_37 : decode cX4_big 37 = .ok (.lcmp, 1) := by decide +kernel
theorem dX4_big_38 : decode cX4_big 38 = .ok (.ifCond .ge 9, 3) := by decide +kernel
theorem dX4_big_41 : decode cX4_big 41 = .ok (.aload_n 0, 1) := by decide +kernel
theorem dX4_big_42 : decode cX4_big 42 = .ok (.bipush 45, 2) := by decide +kernel
theorem dX4_big_44 : decode cX4_big 44 = .ok (.invokevirtual 62, 3) := by decide +kernel
theorem dX4_big_47 : decode cX4_big 47 = .ok (.iload 4, 2) := by decide +kernel
theorem dX4_big_49 : decode cX4_big 49 = .ok (.iconst 1, 1) := by decide +kernel
theorem dX4_big_50 : decode cX4_big 50 = .ok (.isub, 1) := by decide +kernel
theorem dX4_big_51 : decode cX4_big 51 = .ok (.istore 5, 2) := by decide +kernel
theorem dX4_big_53 : decode cX4_big 53 = .ok (.iload 5, 2) := by decide +kernel
theorem dX4_big_55 : decode cX4_big 55 = .ok (.ifCond .lt 65, 3) := by decide +kernel
theorem dX4_big_58 : decode cX4_big 58 = .ok (.lload_n 1, 1) := by decide +kernel
theorem dX4_big_59 : decode cX4_big 59 = .ok (.lstore 6, 2) := by decide +kernel
theorem dX4_big_61 : decode cX4_big 61 = .ok (.iconst 0, 1) := by decide +kernel
theorem dX4_big_62 : decode cX4_big 62 = .ok (.istore 8, 2) := by decide +kernel
theorem dX4_big_64 : decode cX4_big 64 = .ok (.iload 8, 2) := by decide +kernel
theorem dX4_big_66 : decode cX4_big 66 = .ok (.iload 5, 2) := by decide +kernel
theorem dX4_big_68 : decode cX4_big 68 = .ok (.if_icmp .ge 17, 3) := by decide +kernel
theorem dX4_big_71 : decode cX4_big 71 = .ok (.lload 6, 2) := by decide +kernel
theorem dX4_big_73 : decode cX4_big 73 = .ok (.ldc2_w 96, 3) := by decide +kernel
theorem dX4_big_76 : decode cX4_big 76 = .ok (.ldiv, 1) := by decide +kernel
theorem dX4_big_77 : decode cX4_big 77 = .ok (.lstore 6, 2) := by decide +kernel
theorem dX4_big_79 : decode cX4_big 79 = .ok (.iinc 8 1, 3) := by decide +kernel
theorem dX4_big_82 : decode cX4_big 82 = .ok (.goto (-18), 3) := by decide +kernel
theorem dX4_big_85 : decode cX4_big 85 = .ok (.lload 6, 2) := by decide +kernel
theorem dX4_big_87 : decode cX4_big 87 = .ok (.ldc2_w 96, 3) := by decide +kernel
theorem dX4_big_90 : decode cX4_big 90 = .ok (.lrem, 1) := by decide +kernel
theorem dX4_big_91 : decode cX4_big 91 = .ok (.l2i, 1) := by decide +kernel
theorem dX4_big_92 : decode cX4_big 92 = .ok (.istore 8, 2) := by decide +kernel
theorem dX4_big_94 : decode cX4_big 94 = .ok (.aload_n 0, 1) := by decide +kernel
theorem dX4_big_95 : decode cX4_big 95 = .ok (.bipush 48, 2) := by decide +kernel
theorem dX4_big_97 : decode cX4_big 97 = .ok (.iload 8, 2) := by decide +kernel
theorem dX4_big_99 : decode cX4_big 99 = .ok (.ifCond .ge 9, 3) := by decide +kernel
theorem dX4_big_102 : decode cX4_big 102 = .ok (.iload 8, 2) := by decide +kernel
theorem dX4_big_104 : decode cX4_big 104 = .ok (.ineg, 1) := by decide +kernel
theorem dX4_big_105 : decode cX4_big 105 = .ok (.goto 5, 3) := by decide +kernel
theorem dX4_big_108 : decode cX4_big 108 = .ok (.iload 8, 2) := by decide +kernel
theorem dX4_big_110 : decode cX4_big 110 = .ok (.iadd, 1) := by decide +kernel
theorem dX4_big_111 : decode cX4_big 111 = .ok (.invokevirtual 62, 3) := by decide +kernel
theorem dX4_big_114 : decode cX4_big 114 = .ok (.iinc 5 (-1), 3) := by decide +kernel
theorem dX4_big_117 : decode cX4_big 117 = .ok (.goto (-64), 3) := by decide +kernel
theorem dX4_big_120 : decode cX4_big 120 = .ok (.aload_n 0, 1) := by decide +kernel
theorem dX4_big_121 : decode cX4_big 121 = .ok (.iload_n 3, 1) := by decide +kernel
theorem dX4_big_122 : decode cX4_big 122 = .ok (.invokevirtual 82, 3) := by decide +kernel
theorem dX4_big_125 : decode cX4_big 125 = .ok (.ireturn, 1) := by decide +kernel
theorem dX4_length_0 : decode cX4_length 0 = .ok (.aload_n 0, 1) := by decide +kernel
theorem dX4_length_1 : decode cX4_length 1 = .ok (.iload_n 1, 1) := by decide +kernel
theorem dX4_length_2 : decode cX4_length 2 = .ok (.invokevirtual 67, 3) := by decide +kernel
theorem dX4_length_5 : decode cX4_length 5 = .ok (.ireturn, 1) := by decide +kernel
theorem dX4_isEmpty_0 : decode cX4_isEmpty 0 = .ok (.aload_n 0, 1) := by decide +kernel
theorem dX4_isEmpty_1 : decode cX4_isEmpty 1 = .ok (.iload_n 1, 1) := by decide +kernel
theorem dX4_isEmpty_2 : decode cX4_isEmpty 2 = .ok (.invokevirtual 67, 3) := by decide +kernel
theorem dX4_isEmpty_5 : decode cX4_isEmpty 5 = .ok (.ifCond .ne 7, 3) := by decide +kernel
theorem dX4_isEmpty_8 : decode cX4_isEmpty 8 = .ok (.iconst 1, 1) := by decide +kernel
theorem dX4_isEmpty_9 : decode cX4_isEmpty 9 = .ok (.goto 4, 3) := by decide +kernel
theorem dX4_isEmpty_12 : decode cX4_isEmpty 12 = .ok (.iconst 0, 1) := by decide +kernel
theorem dX4_isEmpty_13 : decode cX4_isEmpty 13 = .ok (.ireturn, 1) := by decide +kernel
theorem dX4_isBlankSign_0 : decode cX4_isBlankSign 0 = .ok (.iload_n 0, 1) := by decide +kernel
theorem dX4_isBlankSign_1 : decode cX4_isBlankSign 1 = .ok (.bipush 9, 2) := by decide +kernel
theorem dX4_isBlankSign_3 : decode cX4_isBlankSign 3 = .ok (.bipush 13, 2) := by decide +kernel
theorem dX4_isBlankSign_5 : decode cX4_isBlankSign 5 = .ok (.invokestatic 46, 3) := by decide +kernel
theorem dX4_isBlankSign_8 : decode cX4_isBlankSign 8 = .ok (.ifCond .ne 14, 3) := by decide +kernel
theorem dX4_isBlankSign_11 : decode cX4_isBlankSign 11 = .ok (.iload_n 0, 1) := by decide +kernel
theorem dX4_isBlankSign_12 : decode cX4_isBlankSign 12 = .ok (.bipush 28, 2) := by decide +kernel
theorem dX4_isBlankSign_14 : decode cX4_isBlankSign 14 = .ok (.bipush 32, 2) := by decide +kernel
theorem dX4_isBlankSign_16 : decode cX4_isBlankSign 16 = .ok (.invokestatic 46, 3) := by decide +kernel
theorem dX4_isBlankSign_19 : decode cX4_isBlankSign 19 = .ok (.ifCond .eq 7, 3) := by decide +kernel
theorem dX4_isBlankSign_22 : decode cX4_isBlankSign 22 = .ok (.iconst 1, 1) := by decide +kernel
theorem dX4_isBlankSign_23 : decode cX4_isBlankSign 23 = .ok (.goto 4, 3) := by decide +kernel
theorem dX4_isBlankSign_26 : decode cX4_isBlankSign 26 = .ok (.iconst 0, 1) := by decide +kernel
theorem dX4_isBlankSign_27 : decode cX4_isBlankSign 27 = .ok (.ireturn, 1) := by decide +kernel
theorem dX4_isBlank_0 : decode cX4_isBlank 0 = .ok (.iconst 1, 1) := by decide +kernel
theorem dX4_isBlank_1 : decode cX4_isBlank 1 = .ok (.istore_n 2, 1) := by decide +kernel
theorem dX4_isBlank_2 : decode cX4_isBlank 2 = .ok (.iconst 0, 1) := by decide +kernel
theorem dX4_isBlank_3 : decode cX4_isBlank 3 = .ok (.istore_n 3, 1) := by decide +kernel
theorem dX4_isBlank_4 : decode cX4_isBlank 4 = .ok (.iload_n 3, 1) := by decide +kernel
theorem dX4_isBlank_5 : decode cX4_isBlank 5 = .ok (.aload_n 0, 1) := by decide +kernel
theorem dX4_isBlank_6 : decode cX4_isBlank 6 = .ok (.iload_n 1, 1) := by decide +kernel
theorem dX4_isBlank_7 : decode cX4_isBlank 7 = .ok (.invokevirtual 67, 3) := by decide +kernel
theorem dX4_isBlank_10 : decode cX4_isBlank 10 = .ok (.if_icmp .ge 31, 3) := by decide +kernel
theorem dX4_isBlank_13 : decode cX4_isBlank 13 = .ok (.iload_n 2, 1) := by decide +kernel
theorem dX4_isBlank_14 : decode cX4_isBlank 14 = .ok (.ifCond .eq 19, 3) := by decide +kernel
theorem dX4_isBlank_17 : decode cX4_isBlank 17 = .ok (.aload_n 0, 1) := by decide +kernel
theorem dX4_isBlank_18 : decode cX4_isBlank 18 = .ok (.iload_n 1, 1) := by decide +kernel
theorem dX4_isBlank_19 : decode cX4_isBlank 19 = .ok (.iload_n 3, 1) := by decide +kernel
theorem dX4_isBlank_20 : decode cX4_isBlank 20 = .ok (.invokevirtual 58, 3) := by decide +kernel
theorem dX4_isBlank_23 : decode cX4_isBlank 23 = .ok (.invokestatic 98, 3) := by decide +kernel
theorem dX4_isBlank_26 : decode cX4_isBlank 26 = .ok (.ifCond .eq 7, 3) := by decide +kernel
theorem dX4_isBlank_29 : decode cX4_isBlank 29 = .ok (.iconst 1, 1) := by decide +kernel
theorem dX4_isBlank_30 : decode cX4_isBlank 30 = .ok (.goto 4, 3) := by decide +kernel
theorem dX4_isBlank_33 : decode cX4_isBlank 33 = .ok (.iconst 0, 1) := by decide +kernel
theorem dX4_isBlank_34 : decode cX4_isBlank 34 = .ok (.istore_n 2, 1) := by decide +kernel
theorem dX4_isBlank_35 : decode cX4_isBlank 35 = .ok (.iinc 3 1, 3) := by decide +kernel
theorem dX4_isBlank_38 : decode cX4_isBlank 38 = .ok (.goto (-34), 3) := by decide +kernel
theorem dX4_isBlank_41 : decode cX4_isBlank 41 = .ok (.iload_n 2, 1) := by decide +kernel
theorem dX4_isBlank_42 : decode cX4_isBlank 42 = .ok (.ireturn, 1) := by decide +kernel
theorem dX4_charAt_0 : decode cX4_charAt 0 = .ok (.iload_n 2, 1) := by decide +kernel
theorem dX4_charAt_1 : decode cX4_charAt 1 = .ok (.iconst 0, 1) := by decide +kernel
theorem dX4_charAt_2 : decode cX4_charAt 2 = .ok (.aload_n 0, 1) := by decide +kernel
theorem dX4_charAt_3 : decode cX4_charAt 3 = .ok (.iload_n 1, 1) := by decide +kernel
theorem dX4_charAt_4 : decode cX4_charAt 4 = .ok (.invokevirtual 67, 3) := by decide +kernel
theorem dX4_charAt_7 : decode cX4_charAt 7 = .ok (.iconst 1, 1) := by decide +kernel
theorem dX4_charAt_8 : decode cX4_charAt 8 = .ok (.isub, 1) := by decide +kernel
theorem dX4_charAt_9 : decode cX4_charAt 9 = .ok (.invokestatic 46, 3) := by decide +kernel
theorem dX4_charAt_12 : decode cX4_charAt 12 = .ok (.ifCond .eq 12, 3) := by decide +kernel
theorem dX4_charAt_15 : decode cX4_charAt 15 = .ok (.aload_n 0, 1) := by decide +kernel
theorem dX4_charAt_16 : decode cX4_charAt 16 = .ok (.iload_n 1, 1) := by decide +kernel
theorem dX4_charAt_17 : decode cX4_charAt 17 = .ok (.iload_n 2, 1) := by decide +kernel
theorem dX4_charAt_18 : decode cX4_charAt 18 = .ok (.invokevirtual 58, 3) := by decide +kernel
theorem dX4_charAt_21 : decode cX4_charAt 21 = .ok (.goto 5, 3) := by decide +kernel
theorem dX4_charAt_24 : decode cX4_charAt 24 = .ok (.ldc 87, 2) := by decide +kernel
theorem dX4_charAt_26 : decode cX4_charAt 26 = .ok (.ireturn, 1) := by decide +kernel
theorem dX4_hash_0 : decode cX4_hash 0 = .ok (.iconst 0, 1) := by decide +kernel
theorem dX4_hash_1 : decode cX4_hash 1 = .ok (.istore_n 2, 1) := by decide +kernel
theorem dX4_hash_2 : decode cX4_hash 2 = .ok (.iconst 0, 1) := by decide +kernel
theorem dX4_hash_3 : decode cX4_hash 3 = .ok (.istore_n 3, 1) := by decide +kernel
theorem dX4_hash_4 : decode cX4_hash 4 = .ok (.iload_n 3, 1) := by decide +kernel
theorem dX4_hash_5 : decode cX4_hash 5 = .ok (.aload_n 0, 1) := by decide +kernel
theorem dX4_hash_6 : decode cX4_hash 6 = .ok (.iload_n 1, 1) := by decide +kernel
theorem dX4_hash_7 : decode cX4_hash 7 = .ok (.invokevirtual 67, 3) := by decide +kernel
theorem dX4_hash_10 : decode cX4_hash 10 = .ok (.if_icmp .ge 21, 3) := by decide +kernel
theorem dX4_hash_13 : decode cX4_hash 13 = .ok (.bipush 31, 2) := by decide +kernel
theorem dX4_hash_15 : decode cX4_hash 15 = .ok (.iload_n 2, 1) := by decide +kernel
theorem dX4_hash_16 : decode cX4_hash 16 = .ok (.imul, 1) := by decide +kernel
theorem dX4_hash_17 : decode cX4_hash 17 = .ok (.aload_n 0, 1) := by decide +kernel
theorem dX4_hash_18 : decode cX4_hash 18 = .ok (.iload_n 1, 1) := by decide +kernel
theorem dX4_hash_19 : decode cX4_hash 19 = .ok (.iload_n 3, 1) := by decide +kernel
theorem dX4_hash_20 : decode cX4_hash 20 = .ok (.invokevirtual 58, 3) := by decide +kernel
theorem dX4_hash_23 : decode cX4_hash 23 = .ok (.iadd, 1) := by decide +kernel
theorem dX4_hash_24 : decode cX4_hash 24 = .ok (.istore_n 2, 1) := by decide +kernel
theorem dX4_hash_25 : decode cX4_hash 25 = .ok (.iinc 3 1, 3) := by decide +kernel
theorem dX4_hash_28 : decode cX4_hash 28 = .ok (.goto (-24), 3) := by decide +kernel
theorem dX4_hash_31 : decode cX4_hash 31 = .ok (.iload_n 2, 1) := by decide +kernel
theorem dX4_hash_32 : decode cX4_hash 32 = .ok (.ireturn, 1) := by decide +kernel
theorem dX4_first_0 : decode cX4_first 0 = .ok (.aload_n 0, 1) := by decide +kernel
theorem dX4_first_1 : decode cX4_first 1 = .ok (.iload_n 1, 1) := by decide +kernel
theorem dX4_first_2 : decode cX4_first 2 = .ok (.iload_n 2, 1) := by decide +kernel
theorem dX4_first_3 : decode cX4_first 3 = .ok (.iconst 0, 1) := by decide +kernel
theorem dX4_first_4 : decode cX4_first 4 = .ok (.invokevirtual 101, 3) := by decide +kernel
theorem dX4_first_7 : decode cX4_first 7 = .ok (.ireturn, 1) := by decide +kernel
theorem dX4_firstFrom_0 : decode cX4_firstFrom 0 = .ok (.iconst (-1), 1) := by decide +kernel
theorem dX4_firstFrom_1 : decode cX4_firstFrom 1 = .ok (.istore 4, 2) := by decide +kernel
theorem dX4_firstFrom_3 : decode cX4_firstFrom 3 = .ok (.aload_n 0, 1) := by decide +kernel
theorem dX4_firstFrom_4 : decode cX4_firstFrom 4 = .ok (.iload_n 1, 1) := by decide +kernel
theorem dX4_firstFrom_5 : decode cX4_firstFrom 5 = .ok (.invokevirtual 67, 3) := by decide +kernel
theorem dX4_firstFrom_8 : decode cX4_firstFrom 8 = .ok (.iconst 1, 1) := by decide +kernel
theorem dX4_firstFrom_9 : decode cX4_firstFrom 9 = .ok (.isub, 1) := by decide +kernel
theorem dX4_firstFrom_10 : decode cX4_firstFrom 10 = .ok (.istore 5, 2) := by decide +kernel
theorem dX4_firstFrom_12 : decode cX4_firstFrom 12 = .ok (.iload 5, 2) := by decide +kernel
theorem dX4_firstFrom_14 : decode cX4_firstFrom 14 = .ok (.iload_n 3, 1) := by decide +kernel
theorem dX4_firstFrom_15 : decode cX4_firstFrom 15 = .ok (.if_icmp .lt 34, 3) := by decide +kernel
theorem dX4_firstFrom_18 : decode cX4_firstFrom 18 = .ok (.iload 5, 2) := by decide +kernel
theorem dX4_firstFrom_20 : decode cX4_firstFrom 20 = .ok (.ifCond .lt 29, 3) := by decide +kernel
theorem dX4_firstFrom_23 : decode cX4_firstFrom 23 = .ok (.aload_n 0, 1) := by decide +kernel
theorem dX4_firstFrom_24 : decode cX4_firstFrom 24 = .ok (.iload_n 1, 1) := by decide +kernel
theorem dX4_firstFrom_25 : decode cX4_firstFrom 25 = .ok (.iload 5, 2) := by decide +kernel
theorem dX4_firstFrom_27 : decode cX4_firstFrom 27 = .ok (.invokevirtual 58, 3) := by decide +kernel
theorem dX4_firstFrom_30 : decode cX4_firstFrom 30 = .ok (.iload_n 2, 1) := by decide +kernel
theorem dX4_firstFrom_31 : decode cX4_firstFrom 31 = .ok (.if_icmp .ne 8, 3) := by decide +kernel
theorem dX4_firstFrom_34 : decode cX4_firstFrom 34 = .ok (.iload 5, 2) := by decide +kernel
theorem dX4_firstFrom_36 : decode cX4_firstFrom 36 = .ok (.goto 5, 3) := by decide +kernel
theorem dX4_firstFrom_39 : decode cX4_firstFrom 39 = .ok (.iload 4, 2) := by decide +kernel
theorem dX4_firstFrom_41 : decode cX4_firstFrom 41 = .ok (.istore 4, 2) := by decide +kernel
theorem dX4_firstFrom_43 : decode cX4_firstFrom 43 = .ok (.iinc 5 (-1), 3) := by decide +kernel
theorem dX4_firstFrom_46 : decode cX4_firstFrom 46 = .ok (.goto (-34), 3) := by decide +kernel
theorem dX4_firstFrom_49 : decode cX4_firstFrom 49 = .ok (.iload 4, 2) := by decide +kernel
theorem dX4_firstFrom_51 : decode cX4_firstFrom 51 = .ok (.ireturn, 1) := by decide +kernel
theorem dX4_last_0 : decode cX4_last 0 = .ok (.aload_n 0, 1) := by decide +kernel
theorem dX4_last_1 : decode cX4_last 1 = .ok (.iload_n 1, 1) := by decide +kernel
theorem dX4_last_2 : decode cX4_last 2 = .ok (.iload_n 2, 1) := by decide +kernel
theorem dX4_last_3 : decode cX4_last 3 = .ok (.sipush 300, 3) := by decide +kernel
theorem dX4_last_6 : decode cX4_last 6 = .ok (.invokevirtual 105, 3) := by decide +kernel
theorem dX4_last_9 : decode cX4_last 9 = .ok (.ireturn, 1) := by decide +kernel
theorem dX4_lastFrom_0 : decode cX4_lastFrom 0 = .ok (.iconst (-1), 1) := by decide +kernel
theorem dX4_lastFrom_1 : decode cX4_lastFrom 1 = .ok (.istore 4, 2) := by decide +kernel
theorem dX4_lastFrom_3 : decode cX4_lastFrom 3 = .ok (.iconst 0, 1) := by decide +kernel
theorem dX4_lastFrom_4 : decode cX4_lastFrom 4 = .ok (.istore 5, 2) := by decide +kernel
theorem dX4_lastFrom_6 : decode cX4_lastFrom 6 = .ok (.iload 5, 2) := by decide +kernel
theorem dX4_lastFrom_8 : decode cX4_lastFrom 8 = .ok (.aload_n 0, 1) := by decide +kernel
theorem dX4_lastFrom_9 : decode cX4_lastFrom 9 = .ok (.iload_n 1, 1) := by decide +kernel
theorem dX4_lastFrom_10 : decode cX4_lastFrom 10 = .ok (.invokevirtual 67, 3) := by decide +kernel
theorem dX4_lastFrom_13 : decode cX4_lastFrom 13 = .ok (.if_icmp .ge 35, 3) := by decide +kernel
theorem dX4_lastFrom_16 : decode cX4_lastFrom 16 = .ok (.iload 5, 2) := by decide +kernel
theorem dX4_lastFrom_18 : decode cX4_lastFrom 18 = .ok (.iload_n 3, 1) := by decide +kernel
theorem dX4_lastFrom_19 : decode cX4_lastFrom 19 = .ok (.if_icmp .gt 29, 3) := by decide +kernel
theorem dX4_lastFrom_22 : decode cX4_lastFrom 22 = .ok (.aload_n 0, 1) := by decide +kernel
theorem dX4_lastFrom_23 : decode cX4_lastFrom 23 = .ok (.iload_n 1, 1) := by decide +kernel
theorem dX4_lastFrom_24 : decode cX4_lastFrom 24 = .ok (.iload 5, 2) := by decide +kernel
theorem dX4_lastFrom_26 : decode cX4_lastFrom 26 = .ok (.invokevirtual 58, 3) := by decide +kernel
theorem dX4_lastFrom_29 : decode cX4_lastFrom 29 = .ok (.iload_n 2, 1) := by decide +kernel
theorem dX4_lastFrom_30 : decode cX4_lastFrom 30 = .ok (.if_icmp .ne 8, 3) := by decide +kernel
theorem dX4_lastFrom_33 : decode cX4_lastFrom 33 = .ok (.iload 5, 2) := by decide +kernel
theorem dX4_lastFrom_35 : decode cX4_lastFrom 35 = .ok (.goto 5, 3) := by decide +kernel
theorem dX4_lastFrom_38 : decode cX4_lastFrom 38 = .ok (.iload 4, 2) := by decide +kernel
theorem dX4_lastFrom_40 : decode cX4_lastFrom 40 = .ok (.istore 4, 2) := by decide +kernel
theorem dX4_lastFrom_42 : decode cX4_lastFrom 42 = .ok (.iinc 5 1, 3) := by decide +kernel
theorem dX4_lastFrom_45 : decode cX4_lastFrom 45 = .ok (.goto (-39), 3) := by decide +kernel
theorem dX4_lastFrom_48 : decode cX4_lastFrom 48 = .ok (.iload 4, 2) := by decide +kernel
theorem dX4_lastFrom_50 : decode cX4_lastFrom 50 = .ok (.ireturn, 1) := by decide +kernel
theorem dX4_stands_0 : decode cX4_stands 0 = .ok (.aload_n 0, 1) := by decide +kernel
theorem dX4_stands_1 : decode cX4_stands 1 = .ok (.iload_n 2, 1) := by decide +kernel
theorem dX4_stands_2 : decode cX4_stands 2 = .ok (.invokevirtual 67, 3) := by decide +kernel
theorem dX4_stands_5 : decode cX4_stands 5 = .ok (.istore 4, 2) := by decide +kernel
theorem dX4_stands_7 : decode cX4_stands 7 = .ok (.iload_n 3, 1) := by decide +kernel
theorem dX4_stands_8 : decode cX4_stands 8 = .ok (.ifCond .lt 19, 3) := by decide +kernel
theorem dX4_stands_11 : decode cX4_stands 11 = .ok (.iload_n 3, 1) := by decide +kernel
theorem dX4_stands_12 : decode cX4_stands 12 = .ok (.aload_n 0, 1) := by decide +kernel
theorem dX4_stands_13 : decode cX4_stands 13 = .ok (.iload_n 1, 1) := by decide +kernel
theorem dX4_stands_14 : decode cX4_stands 14 = .ok (.invokevirtual 67, 3) := by decide +kernel
theorem dX4_stands_17 : decode cX4_stands 17 = .ok (.iload 4, 2) := by decide +kernel
theorem dX4_stands_19 : decode cX4_stands 19 = .ok (.isub, 1) := by decide +kernel
theorem dX4_stands_20 : decode cX4_stands 20 = .ok (.if_icmp .gt 7, 3) := by decide +kernel
theorem dX4_stands_23 : decode cX4_stands 23 = .ok (.iconst 1, 1) := by decide +kernel
theorem dX4_stands_24 : decode cX4_stands 24 = .ok (.goto 4, 3) := by decide +kernel
theorem dX4_stands_27 : decode cX4_stands 27 = .ok (.iconst 0, 1) := by decide +kernel
theorem dX4_stands_28 : decode cX4_stands 28 = .ok (.istore 5, 2) := by decide +kernel
theorem dX4_stands_30 : decode cX4_stands 30 = .ok (.iconst 0, 1) := by decide +kernel
theorem dX4_stands_31 : decode cX4_stands 31 = .ok (.istore 6, 2) := by decide +kernel
theorem dX4_stands_33 : decode cX4_stands 33 = .ok (.iload 6, 2) := by decide +kernel
theorem dX4_stands_35 : decode cX4_stands 35 = .ok (.iload 4, 2) := by decide +kernel
theorem dX4_stands_37 : decode cX4_stands 37 = .ok (.if_icmp .ge 40, 3) := by decide +kernel
theorem dX4_stands_40 : decode cX4_stands 40 = .ok (.iload 5, 2) := by decide +kernel
theorem dX4_stands_42 : decode cX4_stands 42 = .ok (.ifCond .eq 35, 3) := by decide +kernel
theorem dX4_stands_45 : decode cX4_stands 45 = .ok (.aload_n 0, 1) := by decide +kernel
theorem dX4_stands_46 : decode cX4_stands 46 = .ok (.iload_n 1, 1) := by decide +kernel
theorem dX4_stands_47 : decode cX4_stands 47 = .ok (.iload_n 3, 1) := by decide +kernel
theorem dX4_stands_48 : decode cX4_stands 48 = .ok (.iload 6, 2) := by decide +kernel
theorem dX4_stands_50 : decode cX4_stands 50 = .ok (.iadd, 1) := by decide +kernel
theorem dX4_stands_51 : decode cX4_stands 51 = .ok (.invokevirtual 58, 3) := by decide +kernel
theorem dX4_stands_54 : decode cX4_stands 54 = .ok (.aload_n 0, 1) := by decide +kernel
theorem dX4_stands_55 : decode cX4_stands 55 = .ok (.iload_n 2, 1) := by decide +kernel
theorem dX4_stands_56 : decode cX4_stands 56 = .ok (.iload 6, 2) := by decide +kernel
theorem dX4_stands_58 : decode cX4_stands 58 = .ok (.invokevirtual 58, 3) := by decide +kernel
theorem dX4_stands_61 : decode cX4_stands 61 = .ok (.if_icmp .ne 7, 3) := by decide +kernel
theorem dX4_stands_64 : decode cX4_stands 64 = .ok (.iconst 1, 1) := by decide +kernel
theorem dX4_stands_65 : decode cX4_stands 65 = .ok (.goto 4, 3) := by decide +kernel
theorem dX4_stands_68 : decode cX4_stands 68 = .ok (.iconst 0, 1) := by decide +kernel
theorem dX4_stands_69 : decode cX4_stands 69 = .ok (.istore 5, 2) := by decide +kernel
theorem dX4_stands_71 : decode cX4_stands 71 = .ok (.iinc 6 1, 3) := by decide +kernel
theorem dX4_stands_74 : decode cX4_stands 74 = .ok (.goto (-41), 3) := by decide +kernel
theorem dX4_stands_77 : decode cX4_stands 77 = .ok (.iload 5, 2) := by decide +kernel
theorem dX4_stands_79 : decode cX4_stands 79 = .ok (.ireturn, 1) := by decide +kernel
theorem dX4_find_0 : decode cX4_find 0 = .ok (.aload_n 0, 1) := by decide +kernel
theorem dX4_find_1 : decode cX4_find 1 = .ok (.iload_n 1, 1) := by decide +kernel
theorem dX4_find_2 : decode cX4_find 2 = .ok (.iload_n 2, 1) := by decide +kernel
theorem dX4_find_3 : decode cX4_find 3 = .ok (.iconst 0, 1) := by decide +kernel
theorem dX4_find_4 : decode cX4_find 4 = .ok (.invokevirtual 108, 3) := by decide +kernel
theorem dX4_find_7 : decode cX4_find 7 = .ok (.ireturn, 1) := by decide +kernel
theorem dX4_findFrom_0 : decode cX4_findFrom 0 = .ok (.aload_n 0, 1) := by decide +kernel
theorem dX4_findFrom_1 : decode cX4_findFrom 1 = .ok (.iload_n 1, 1) := by decide +kernel
theorem dX4_findFrom_2 : decode cX4_findFrom 2 = .ok (.invokevirtual 67, 3) := by decide +kernel
theorem dX4_findFrom_5 : decode cX4_findFrom 5 = .ok (.istore 4, 2) := by decide +kernel
theorem dX4_findFrom_7 : decode cX4_findFrom 7 = .ok (.iload_n 3, 1) := by decide +kernel
theorem dX4_findFrom_8 : decode cX4_findFrom 8 = .ok (.ifCond .ge 7, 3) := by decide +kernel
theorem dX4_findFrom_11 : decode cX4_findFrom 11 = .ok (.iconst 0, 1) := by decide +kernel
theorem dX4_findFrom_12 : decode cX4_findFrom 12 = .ok (.goto 15, 3) := by decide +kernel
theorem dX4_findFrom_15 : decode cX4_findFrom 15 = .ok (.iload_n 3, 1) := by decide +kernel
theorem dX4_findFrom_16 : decode cX4_findFrom 16 = .ok (.iload 4, 2) := by decide +kernel
theorem dX4_findFrom_18 : decode cX4_findFrom 18 = .ok (.if_icmp .le 8, 3) := by decide +kernel
theorem dX4_findFrom_21 : decode cX4_findFrom 21 = .ok (.iload 4, 2) := by decide +kernel
theorem dX4_findFrom_23 : decode cX4_findFrom 23 = .ok (.goto 4, 3) := by decide +kernel
theorem dX4_findFrom_26 : decode cX4_findFrom 26 = .ok (.iload_n 3, 1) := by decide +kernel
theorem dX4_findFrom_27 : decode cX4_findFrom 27 = .ok (.istore 5, 2) := by decide +kernel
theorem dX4_findFrom_29 : decode cX4_findFrom 29 = .ok (.iload 5, 2) := by decide +kernel
theorem dX4_findFrom_31 : decode cX4_findFrom 31 = .ok (.istore 6, 2) := by decide +kernel
theorem dX4_findFrom_33 : decode cX4_findFrom 33 = .ok (.iload 6, 2) := by decide +kernel
theorem dX4_findFrom_35 : decode cX4_findFrom 35 = .ok (.iload 4, 2) := by decide +kernel
theorem dX4_findFrom_37 : decode cX4_findFrom 37 = .ok (.if_icmp .gt 23, 3) := by decide +kernel
theorem dX4_findFrom_40 : decode cX4_findFrom 40 = .ok (.aload_n 0, 1) := by decide +kernel
theorem dX4_findFrom_41 : decode cX4_findFrom 41 = .ok (.iload_n 1, 1) := by decide +kernel
theorem dX4_findFrom_42 : decode cX4_findFrom 42 = .ok (.iload_n 2, 1) := by decide +kernel
theorem dX4_findFrom_43 : decode cX4_findFrom 43 = .ok (.iload 6, 2) := by decide +kernel
theorem dX4_findFrom_45 : decode cX4_findFrom 45 = .ok (.invokevirtual 111, 3) := by decide +kernel
theorem dX4_findFrom_48 : decode cX4_findFrom 48 = .ok (.ifCond .eq 6, 3) := by decide +kernel
theorem dX4_findFrom_51 : decode cX4_findFrom 51 = .ok (.iload 6, 2) := by decide +kernel
theorem dX4_findFrom_53 : decode cX4_findFrom 53 = .ok (.ireturn, 1) := by decide +kernel
theorem dX4_findFrom_54 : decode cX4_findFrom 54 = .ok (.iinc 6 1, 3) := by decide +kernel
theorem dX4_findFrom_57 : decode cX4_findFrom 57 = .ok (.goto (-24), 3) := by decide +kernel
theorem dX4_findFrom_60 : decode cX4_findFrom 60 = .ok (.iconst (-1), 1) := by decide +kernel
theorem dX4_findFrom_61 : decode cX4_findFrom 61 = .ok (.ireturn, 1) := by decide +kernel
theorem dX4_findLast_0 : decode cX4_findLast 0 = .ok (.aload_n 0, 1) := by decide +kernel
theorem dX4_findLast_1 : decode cX4_findLast 1 = .ok (.iload_n 1, 1) := by decide +kernel
theorem dX4_findLast_2 : decode cX4_findLast 2 = .ok (.iload_n 2, 1) := by decide +kernel
theorem dX4_findLast_3 : decode cX4_findLast 3 = .ok (.sipush 300, 3) := by decide +kernel
theorem dX4_findLast_6 : decode cX4_findLast 6 = .ok (.invokevirtual 114, 3) := by decide +kernel
theorem dX4_findLast_9 : decode cX4_findLast 9 = .ok (.ireturn, 1) := by decide +kernel
theorem dX4_findLastFrom_0 : decode cX4_findLastFrom 0 = .ok (.aload_n 0, 1) := by decide +kernel
theorem dX4_findLastFrom_1 : decode cX4_findLastFrom 1 = .ok (.iload_n 1, 1) := by decide +kernel
theorem dX4_findLastFrom_2 : decode cX4_findLastFrom 2 = .ok (.invokevirtual 67, 3) := by decide +kernel
theorem dX4_findLastFrom_5 : decode cX4_findLastFrom 5 = .ok (.istore 4, 2) := by decide +kernel
theorem dX4_findLastFrom_7 : decode cX4_findLastFrom 7 = .ok (.iload_n 3, 1) := by decide +kernel
theorem dX4_findLastFrom_8 : decode cX4_findLastFrom 8 = .ok (.iload 4, 2) := by decide +kernel
theorem dX4_findLastFrom_10 : decode cX4_findLastFrom 10 = .ok (.if_icmp .le 8, 3) := by decide +kernel
theorem dX4_findLastFrom_13 : decode cX4_findLastFrom 13 = .ok (.iload 4, 2) := by decide +kernel
theorem dX4_findLastFrom_15 : decode cX4_findLastFrom 15 = .ok (.goto 4, 3) := by decide +kernel
theorem dX4_findLastFrom_18 : decode cX4_findLastFrom 18 = .ok (.iload_n 3, 1) := by decide +kernel
theorem dX4_findLastFrom_19 : decode cX4_findLastFrom 19 = .ok (.istore 5, 2) := by decide +kernel
theorem dX4_findLastFrom_21 : decode cX4_findLastFrom 21 = .ok (.iload 5, 2) := by decide +kernel
theorem dX4_findLastFrom_23 : decode cX4_findLastFrom 23 = .ok (.ifCond .lt 23, 3) := by decide +kernel
theorem dX4_findLastFrom_26 : decode cX4_findLastFrom 26 = .ok (.aload_n 0, 1) := by decide +kernel
theorem dX4_findLastFrom_27 : decode cX4_findLastFrom 27 = .ok (.iload_n 1, 1) := by decide +kernel
theorem dX4_findLastFrom_28 : decode cX4_findLastFrom 28 = .ok (.iload_n 2, 1) := by decide +kernel
theorem dX4_findLastFrom_29 : decode cX4_findLastFrom 29 = .ok (.iload 5, 2) := by decide +kernel
theorem dX4_findLastFrom_31 : decode cX4_findLastFrom 31 = .ok (.invokevirtual 111, 3) := by decide +kernel
theorem dX4_findLastFrom_34 : decode cX4_findLastFrom 34 = .ok (.ifCond .eq 6, 3) := by decide +kernel
theorem dX4_findLastFrom_37 : decode cX4_findLastFrom 37 = .ok (.iload 5, 2) := by decide +kernel
theorem dX4_findLastFrom_39 : decode cX4_findLastFrom 39 = .ok (.ireturn, 1) := by decide +kernel
theorem dX4_findLastFrom_40 : decode cX4_findLastFrom 40 = .ok (.iinc 5 (-1), 3) := by decide +kernel
theorem dX4_findLastFrom_43 : decode cX4_findLastFrom 43 = .ok (.goto (-22), 3) := by decide +kernel
theorem dX4_findLastFrom_46 : decode cX4_findLastFrom 46 = .ok (.iconst (-1), 1) := by decide +kernel
theorem dX4_findLastFrom_47 : decode cX4_findLastFrom 47 = .ok (.ireturn, 1) := by decide +kernel
theorem dX4_contains_0 : decode cX4_contains 0 = .ok (.aload_n 0, 1) := by decide +kernel
theorem dX4_contains_1 : decode cX4_contains 1 = .ok (.iload_n 1, 1) := by decide +kernel
theorem dX4_contains_2 : decode cX4_contains 2 = .ok (.iload_n 2, 1) := by decide +kernel
theorem dX4_contains_3 : decode cX4_contains 3 = .ok (.invokevirtual 117, 3) := by decide +kernel
theorem dX4_contains_6 : decode cX4_contains 6 = .ok (.iconst (-1), 1) := by decide +kernel
theorem dX4_contains_7 : decode cX4_contains 7 = .ok (.if_icmp .eq 7, 3) := by decide +kernel
theorem dX4_contains_10 : decode cX4_contains 10 = .ok (.iconst 1, 1) := by decide +kernel
theorem dX4_contains_11 : decode cX4_contains 11 = .ok (.goto 4, 3) := by decide +kernel
theorem dX4_contains_14 : decode cX4_contains 14 = .ok (.iconst 0, 1) := by decide +kernel
theorem dX4_contains_15 : decode cX4_contains 15 = .ok (.ireturn, 1) := by decide +kernel
theorem dX4_starts_0 : decode cX4_starts 0 = .ok (.aload_n 0, 1) := by decide +kernel
theorem dX4_starts_1 : decode cX4_starts 1 = .ok (.iload_n 1, 1) := by decide +kernel
theorem dX4_starts_2 : decode cX4_starts 2 = .ok (.iload_n 2, 1) := by decide +kernel
theorem dX4_starts_3 : decode cX4_starts 3 = .ok (.iconst 0, 1) := by decide +kernel
theorem dX4_starts_4 : decode cX4_starts 4 = .ok (.invokevirtual 111, 3) := by decide +kernel
theorem dX4_starts_7 : decode cX4_starts 7 = .ok (.ireturn, 1) := by decide +kernel
theorem dX4_startsAt_0 : decode cX4_startsAt 0 = .ok (.aload_n 0, 1) := by decide +kernel
theorem dX4_startsAt_1 : decode cX4_startsAt 1 = .ok (.iload_n 1, 1) := by decide +kernel
theorem dX4_startsAt_2 : decode cX4_startsAt 2 = .ok (.iload_n 2, 1) := by decide +kernel
theorem dX4_startsAt_3 : decode cX4_startsAt 3 = .ok (.iload_n 3, 1) := by decide +kernel
theorem dX4_startsAt_4 : decode cX4_startsAt 4 = .ok (.invokevirtual 111, 3) := by decide +kernel
theorem dX4_startsAt_7 : decode cX4_startsAt 7 = .ok (.ireturn, 1) := by decide +kernel
theorem dX4_ends_0 : decode cX4_ends 0 = .ok (.aload_n 0, 1) := by decide +kernel
theorem dX4_ends_1 : decode cX4_ends 1 = .ok (.iload_n 1, 1) := by decide +kernel
theorem dX4_ends_2 : decode cX4_ends 2 = .ok (.iload_n 2, 1) := by decide +kernel
theorem dX4_ends_3 : decode cX4_ends 3 = .ok (.aload_n 0, 1) := by decide +kernel
theorem dX4_ends_4 : decode cX4_ends 4 = .ok (.iload_n 1, 1) := by decide +kernel
theorem dX4_ends_5 : decode cX4_ends 5 = .ok (.invokevirtual 67, 3) := by decide +kernel
theorem dX4_ends_8 : decode cX4_ends 8 = .ok (.aload_n 0, 1) := by decide +kernel
theorem dX4_ends_9 : decode cX4_ends 9 = .ok (.iload_n 2, 1) := by decide +kernel
theorem dX4_ends_10 : decode cX4_ends 10 = .ok (.invokevirtual 67, 3) := by decide +kernel
theorem dX4_ends_13 : decode cX4_ends 13 = .ok (.isub, 1) := by decide +kernel
theorem dX4_ends_14 : decode cX4_ends 14 = .ok (.invokevirtual 111, 3) := by decide +kernel
theorem dX4_ends_17 : decode cX4_ends 17 = .ok (.ireturn, 1) := by decide +kernel
theorem dX4_small_0 : decode cX4_small 0 = .ok (.iload_n 0, 1) := by decide +kernel
theorem dX4_small_1 : decode cX4_small 1 = .ok (.bipush 65, 2) := by decide +kernel
theorem dX4_small_3 : decode cX4_small 3 = .ok (.bipush 90, 2) := by decide +kernel
theorem dX4_small_5 : decode cX4_small 5 = .ok (.invokestatic 46, 3) := by decide +kernel
theorem dX4_small_8 : decode cX4_small 8 = .ok (.ifCond .eq 10, 3) := by decide +kernel
theorem dX4_small_11 : decode cX4_small 11 = .ok (.iload_n 0, 1) := by decide +kernel
theorem dX4_small_12 : decode cX4_small 12 = .ok (.bipush 32, 2) := by decide +kernel
theorem dX4_small_14 : decode cX4_small 14 = .ok (.iadd, 1) := by decide +kernel
theorem dX4_small_15 : decode cX4_small 15 = .ok (.goto 4, 3) := by decide +kernel
theorem dX4_small_18 : decode cX4_small 18 = .ok (.iload_n 0, 1) := by decide +kernel
theorem dX4_small_19 : decode cX4_small 19 = .ok (.ireturn, 1) := by decide +kernel
theorem dX4_isRegion_0 : decode cX4_isRegion 0 = .ok (.iload_n 2, 1) := by decide +kernel
theorem dX4_isRegion_1 : decode cX4_isRegion 1 = .ok (.ifCond .lt 41, 3) := by decide +kernel
theorem dX4_isRegion_4 : decode cX4_isRegion 4 = .ok (.iload 4, 2) := by decide +kernel
theorem dX4_isRegion_6 : decode cX4_isRegion 6 = .ok (.ifCond .lt 36, 3) := by decide +kernel
theorem dX4_isRegion_9 : decode cX4_isRegion 9 = .ok (.iload_n 2, 1) := by decide +kernel
theorem dX4_isRegion_10 : decode cX4_isRegion 10 = .ok (.i2l, 1) := by decide +kernel
theorem dX4_isRegion_11 : decode cX4_isRegion 11 = .ok (.iload 5, 2) := by decide +kernel
theorem dX4_isRegion_13 : decode cX4_isRegion 13 = .ok (.i2l, 1) := by decide +kernel
theorem dX4_isRegion_14 : decode cX4_isRegion 14 = .ok (.ladd, 1) := by decide +kernel
theorem dX4_isRegion_15 : decode cX4_isRegion 15 = .ok (.aload_n 0, 1) := by decide +kernel
theorem dX4_isRegion_16 : decode cX4_isRegion 16 = .ok (.iload_n 1, 1) := by decide +kernel
theorem dX4_isRegion_17 : decode cX4_isRegion 17 = .ok (.invokevirtual 67, 3) := by decide +kernel
theorem dX4_isRegion_20 : decode cX4_isRegion 20 = .ok (.i2l, 1) := by decide +kernel
theorem dX4_isRegion_21 : decode cX4_isRegion 21 = .ok (.lcmp, 1) := by decide +kernel
theorem dX4_isRegion_22 : decode cX4_isRegion 22 = .ok (.ifCond .gt 20, 3) := by decide +kernel
theorem dX4_isRegion_25 : decode cX4_isRegion 25 = .ok (.iload 4, 2) := by decide +kernel
theorem dX4_isRegion_27 : decode cX4_isRegion 27 = .ok (.i2l, 1) := by decide +kernel
theorem dX4_isRegion_28 : decode cX4_isRegion 28 = .ok (.iload 5, 2) := by decide +kernel
theorem dX4_isRegion_30 : decode cX4_isRegion 30 = .ok (.i2l, 1) := by decide +kernel
theorem dX4_isRegion_31 : decode cX4_isRegion 31 = .ok (.ladd, 1) := by decide +kernel
theorem dX4_isRegion_32 : decode cX4_isRegion 32 = .ok (.aload_n 0, 1) := by decide +kernel
theorem dX4_isRegion_33 : decode cX4_isRegion 33 = .ok (.iload_n 3, 1) := by decide +kernel
theorem dX4_isRegion_34 : decode cX4_isRegion 34 = .ok (.invokevirtual 67, 3) := by decide +kernel
theorem dX4_isRegion_37 : decode cX4_isRegion 37 = .ok (.i2l, 1) := by decide +kernel
theorem dX4_isRegion_38 : decode cX4_isRegion 38 = .ok (.lcmp, 1) := by decide +kernel
theorem dX4_isRegion_39 : decode cX4_isRegion 39 = .ok (.ifCond .le 5, 3) := by decide +kernel
theorem dX4_isRegion_42 : decode cX4_isRegion 42 = .ok (.iconst 0, 1) := by decide +kernel
theorem dX4_isRegion_43 : decode cX4_isRegion 43 = .ok (.ireturn, 1) := by decide +kernel
theorem dX4_isRegion_44 : decode cX4_isRegion 44 = .ok (.iconst 1, 1) := by decide +kernel
theorem dX4_isRegion_45 : decode cX4_isRegion 45 = .ok (.istore 7, 2) := by decide +kernel
theorem dX4_isRegion_47 : decode cX4_isRegion 47 = .ok (.iconst 0, 1) := by decide +kernel
theorem dX4_isRegion_48 : decode cX4_isRegion 48 = .ok (.istore 8, 2) := by decide +kernel
theorem dX4_isRegion_50 : decode cX4_isRegion 50 = .ok (.iload 8, 2) := by decide +kernel
theorem dX4_isRegion_52 : decode cX4_isRegion 52 = .ok (.iload 5, 2) := by decide +kernel
theorem dX4_isRegion_54 : decode cX4_isRegion 54 = .ok (.if_icmp .ge 77, 3) := by decide +kernel
theorem dX4_isRegion_57 : decode cX4_isRegion 57 = .ok (.iload 7, 2) := by decide +kernel
theorem dX4_isRegion_59 : decode cX4_isRegion 59 = .ok (.ifCond .eq 72, 3) := by decide +kernel
theorem dX4_isRegion_62 : decode cX4_isRegion 62 = .ok (.aload_n 0, 1) := by decide +kernel
theorem dX4_isRegion_63 : decode cX4_isRegion 63 = .ok (.iload_n 1, 1) := by decide +kernel
theorem dX4_isRegion_64 : decode cX4_isRegion 64 = .ok (.iload_n 2, 1) := by decide +kernel
theorem dX4_isRegion_65 : decode cX4_isRegion 65 = .ok (.iload 8, 2) := by decide +kernel
theorem dX4_isRegion_67 : decode cX4_isRegion 67 = .ok (.iadd, 1) := by decide +kernel
theorem dX4_isRegion_68 : decode cX4_isRegion 68 = .ok (.invokevirtual 58, 3) := by decide +kernel
theorem dX4_isRegion_71 : decode cX4_isRegion 71 = .ok (.istore 9, 2) := by decide +kernel
theorem dX4_isRegion_73 : decode cX4_isRegion 73 = .ok (.aload_n 0, 1) := by decide +kernel
theorem dX4_isRegion_74 : decode cX4_isRegion 74 = .ok (.iload_n 3, 1) := by decide +kernel
theorem dX4_isRegion_75 : decode cX4_isRegion 75 = .ok (.iload 4, 2) := by decide +kernel
theorem dX4_isRegion_77 : decode cX4_isRegion 77 = .ok (.iload 8, 2) := by decide +kernel
theorem dX4_isRegion_79 : decode cX4_isRegion 79 = .ok (.iadd, 1) := by decide +kernel
theorem dX4_isRegion_80 : decode cX4_isRegion 80 = .ok (.invokevirtual 58, 3) := by decide +kernel
theorem dX4_isRegion_83 : decode cX4_isRegion 83 = .ok (.istore 10, 2) := by decide +kernel
theorem dX4_isRegion_85 : decode cX4_isRegion 85 = .ok (.iload 6, 2) := by decide +kernel
theorem dX4_isRegion_87 : decode cX4_isRegion 87 = .ok (.ifCond .eq 24, 3) := by decide +kernel
theorem dX4_isRegion_90 : decode cX4_isRegion 90 = .ok (.iload 9, 2) := by decide +kernel
theorem dX4_isRegion_92 : decode cX4_isRegion 92 = .ok (.invokestatic 120, 3) := by decide +kernel
theorem dX4_isRegion_95 : decode cX4_isRegion 95 = .ok (.iload 10, 2) := by decide +kernel
theorem dX4_isRegion_97 : decode cX4_isRegion 97 = .ok (.invokestatic 120, 3) := by decide +kernel
theorem dX4_isRegion_100 : decode cX4_isRegion 100 = .ok (.if_icmp .ne 7, 3) := by decide +kernel
theorem dX4_isRegion_103 : decode cX4_isRegion 103 = .ok (.iconst 1, 1) := by decide +kernel
theorem dX4_isRegion_104 : decode cX4_isRegion 104 = .ok (.goto 19, 3) := by decide +kernel
theorem dX4_isRegion_107 : decode cX4_isRegion 107 = .ok (.iconst 0, 1) := by decide +kernel
theorem dX4_isRegion_108 : decode cX4_isRegion 108 = .ok (.goto 15, 3) := by decide +kernel
theorem dX4_isRegion_111 : decode cX4_isRegion 111 = .ok (.iload 9, 2) := by decide +kernel
theorem dX4_isRegion_113 : decode cX4_isRegion 113 = .ok (.iload 10, 2) := by decide +kernel
theorem dX4_isRegion_115 : decode cX4_isRegion 115 = .ok (.if_icmp .ne 7, 3) := by decide +kernel
theorem dX4_isRegion_118 : decode cX4_isRegion 118 = .ok (.iconst 1, 1) := by decide +kernel
theorem dX4_isRegion_119 : decode cX4_isRegion 119 = .ok (.goto 4, 3) := by decide +kernel
theorem dX4_isRegion_122 : decode cX4_isRegion 122 = .ok (.iconst 0, 1) := by decide +kernel
theorem dX4_isRegion_123 : decode cX4_isRegion 123 = .ok (.istore 7, 2) := by decide +kernel
theorem dX4_isRegion_125 : decode cX4_isRegion 125 = .ok (.iinc 8 1, 3) := by decide +kernel
theorem dX4_isRegion_128 : decode cX4_isRegion 128 = .ok (.goto (-78), 3) := by decide +kernel
theorem dX4_isRegion_131 : decode cX4_isRegion 131 = .ok (.iload 7, 2) := by decide +kernel
theorem dX4_isRegion_133 : decode cX4_isRegion 133 = .ok (.ireturn, 1) := by decide +kernel
theorem dX4_region_0 : decode cX4_region 0 = .ok (.aload_n 0, 1) := by decide +kernel
theorem dX4_region_1 : decode cX4_region 1 = .ok (.iload_n 1, 1) := by decide +kernel
theorem dX4_region_2 : decode cX4_region 2 = .ok (.iload_n 2, 1) := by decide +kernel
theorem dX4_region_3 : decode cX4_region 3 = .ok (.iload_n 3, 1) := by decide +kernel
theorem dX4_region_4 : decode cX4_region 4 = .ok (.iload 4, 2) := by decide +kernel
theorem dX4_region_6 : decode cX4_region 6 = .ok (.iload 5, 2) := by decide +kernel
theorem dX4_region_8 : decode cX4_region 8 = .ok (.iconst 0, 1) := by decide +kernel
theorem dX4_region_9 : decode cX4_region 9 = .ok (.invokevirtual 123, 3) := by decide +kernel
theorem dX4_region_12 : decode cX4_region 12 = .ok (.ireturn, 1) := by decide +kernel
theorem dX4_regionAlike_0 : decode cX4_regionAlike 0 = .ok (.aload_n 0, 1) := by decide +kernel
theorem dX4_regionAlike_1 : decode cX4_regionAlike 1 = .ok (.iload_n 1, 1) := by decide +kernel
theorem dX4_regionAlike_2 : decode cX4_regionAlike 2 = .ok (.iload_n 2, 1) := by decide +kernel
theorem dX4_regionAlike_3 : decode cX4_regionAlike 3 = .ok (.iload_n 3, 1) := by decide +kernel
theorem dX4_regionAlike_4 : decode cX4_regionAlike 4 = .ok (.iload 4, 2) := by decide +kernel
theorem dX4_regionAlike_6 : decode cX4_regionAlike 6 = .ok (.iload 5, 2) := by decide +kernel
theorem dX4_regionAlike_8 : decode cX4_regionAlike 8 = .ok (.iconst 1, 1) := by decide +kernel
theorem dX4_regionAlike_9 : decode cX4_regionAlike 9 = .ok (.invokevirtual 123, 3) := by decide +kernel
theorem dX4_regionAlike_12 : decode cX4_regionAlike 12 = .ok (.ireturn, 1) := by decide +kernel
theorem dX4_same_0 : decode cX4_same 0 = .ok (.aload_n 0, 1) := by decide +kernel
theorem dX4_same_1 : decode cX4_same 1 = .ok (.iload_n 1, 1) := by decide +kernel
theorem dX4_same_2 : decode cX4_same 2 = .ok (.invokevirtual 67, 3) := by decide +kernel
theorem dX4_same_5 : decode cX4_same 5 = .ok (.aload_n 0, 1) := by decide +kernel
theorem dX4_same_6 : decode cX4_same 6 = .ok (.iload_n 2, 1) := by decide +kernel
theorem dX4_same_7 : decode cX4_same 7 = .ok (.invokevirtual 67, 3) := by decide +kernel
theorem dX4_same_10 : decode cX4_same 10 = .ok (.if_icmp .ne 24, 3) := by decide +kernel
theorem dX4_same_13 : decode cX4_same 13 = .ok (.aload_n 0, 1) := by decide +kernel
theorem dX4_same_14 : decode cX4_same 14 = .ok (.iload_n 1, 1) := by decide +kernel
theorem dX4_same_15 : decode cX4_same 15 = .ok (.iconst 0, 1) := by decide +kernel
theorem dX4_same_16 : decode cX4_same 16 = .ok (.iload_n 2, 1) := by decide +kernel
theorem dX4_same_17 : decode cX4_same 17 = .ok (.iconst 0, 1) := by decide +kernel
theorem dX4_same_18 : decode cX4_same 18 = .ok (.aload_n 0, 1) := by decide +kernel
theorem dX4_same_19 : decode cX4_same 19 = .ok (.iload_n 1, 1) := by decide +kernel
theorem dX4_same_20 : decode cX4_same 20 = .ok (.invokevirtual 67, 3) := by decide +kernel
theorem dX4_same_23 : decode cX4_same 23 = .ok (.iconst 0, 1) := by decide +kernel
theorem dX4_same_24 : decode cX4_same 24 = .ok (.invokevirtual 123, 3) := by decide +kernel
theorem dX4_same_27 : decode cX4_same 27 = .ok (.ifCond .eq 7, 3) := by decide +kernel
theorem dX4_same_30 : decode cX4_same 30 = .ok (.iconst 1, 1) := by decide +kernel
theorem dX4_same_31 : decode cX4_same 31 = .ok (.goto 4, 3) := by decide +kernel
theorem dX4_same_34 : decode cX4_same 34 = .ok (.iconst 0, 1) := by decide +kernel
theorem dX4_same_35 : decode cX4_same 35 = .ok (.ireturn, 1) := by decide +kernel
theorem dX4_alike_0 : decode cX4_alike 0 = .ok (.aload_n 0, 1) := by decide +kernel
theorem dX4_alike_1 : decode cX4_alike 1 = .ok (.iload_n 1, 1) := by decide +kernel
theorem dX4_alike_2 : decode cX4_alike 2 = .ok (.invokevirtual 67, 3) := by decide +kernel
theorem dX4_alike_5 : decode cX4_alike 5 = .ok (.aload_n 0, 1) := by decide +kernel
theorem dX4_alike_6 : decode cX4_alike 6 = .ok (.iload_n 2, 1) := by decide +kernel
theorem dX4_alike_7 : decode cX4_alike 7 = .ok (.invokevirtual 67, 3) := by decide +kernel
theorem dX4_alike_10 : decode cX4_alike 10 = .ok (.if_icmp .ne 24, 3) := by decide +kernel
theorem dX4_alike_13 : decode cX4_alike 13 = .ok (.aload_n 0, 1) := by decide +kernel
theorem dX4_alike_14 : decode cX4_alike 14 = .ok (.iload_n 1, 1) := by decide +kernel
theorem dX4_alike_15 : decode cX4_alike 15 = .ok (.iconst 0, 1) := by decide +kernel
theorem dX4_alike_16 : decode cX4_alike 16 = .ok (.iload_n 2, 1) := by decide +kernel
theorem dX4_alike_17 : decode cX4_alike 17 = .ok (.iconst 0, 1) := by decide +kernel
theorem dX4_alike_18 : decode cX4_alike 18 = .ok (.aload_n 0, 1) := by decide +kernel
theorem dX4_alike_19 : decode cX4_alike 19 = .ok (.iload_n 1, 1) := by decide +kernel
theorem dX4_alike_20 : decode cX4_alike 20 = .ok (.invokevirtual 67, 3) := by decide +kernel
theorem dX4_alike_23 : decode cX4_alike 23 = .ok (.iconst 1, 1) := by decide +kernel
theorem dX4_alike_24 : decode cX4_alike 24 = .ok (.invokevirtual 123, 3) := by decide +kernel
theorem dX4_alike_27 : decode cX4_alike 27 = .ok (.ifCond .eq 7, 3) := by decide +kernel
theorem dX4_alike_30 : decode cX4_alike 30 = .ok (.iconst 1, 1) := by decide +kernel
theorem dX4_alike_31 : decode cX4_alike 31 = .ok (.goto 4, 3) := by decide +kernel
theorem dX4_alike_34 : decode cX4_alike 34 = .ok (.iconst 0, 1) := by decide +kernel
theorem dX4_alike_35 : decode cX4_alike 35 = .ok (.ireturn, 1) := by decide +kernel
theorem dX4_order_0 : decode cX4_order 0 = .ok (.iconst 0, 1) := by decide +kernel
theorem dX4_order_1 : decode cX4_order 1 = .ok (.istore 4, 2) := by decide +kernel
theorem dX4_order_3 : decode cX4_order 3 = .ok (.iload 4, 2) := by decide +kernel
theorem dX4_order_5 : decode cX4_order 5 = .ok (.aload_n 0, 1) := by decide +kernel
theorem dX4_order_6 : decode cX4_order 6 = .ok (.iload_n 1, 1) := by decide +kernel
theorem dX4_order_7 : decode cX4_order 7 = .ok (.invokevirtual 67, 3) := by decide +kernel
theorem dX4_order_10 : decode cX4_order 10 = .ok (.if_icmp .ge 84, 3) := by decide +kernel
theorem dX4_order_13 : decode cX4_order 13 = .ok (.iload 4, 2) := by decide +kernel
theorem dX4_order_15 : decode cX4_order 15 = .ok (.aload_n 0, 1) := by decide +kernel
theorem dX4_order_16 : decode cX4_order 16 = .ok (.iload_n 2, 1) := by decide +kernel
theorem dX4_order_17 : decode cX4_order 17 = .ok (.invokevirtual 67, 3) := by decide +kernel
theorem dX4_order_20 : decode cX4_order 20 = .ok (.if_icmp .ge 74, 3) := by decide +kernel
theorem dX4_order_23 : decode cX4_order 23 = .ok (.iload_n 3, 1) := by decide +kernel
theorem dX4_order_24 : decode cX4_order 24 = .ok (.ifCond .eq 16, 3) := by decide +kernel
theorem dX4_order_27 : decode cX4_order 27 = .ok (.aload_n 0, 1) := by decide +kernel
theorem dX4_order_28 : decode cX4_order 28 = .ok (.iload_n 1, 1) := by decide +kernel
theorem dX4_order_29 : decode cX4_order 29 = .ok (.iload 4, 2) := by decide +kernel
theorem dX4_order_31 : decode cX4_order 31 = .ok (.invokevirtual 58, 3) := by decide +kernel
theorem dX4_order_34 : decode cX4_order 34 = .ok (.invokestatic 120, 3) := by decide +kernel
theorem dX4_order_37 : decode cX4_order 37 = .ok (.goto 10, 3) := by decide +kernel
theorem dX4_order_40 : decode cX4_order 40 = .ok (.aload_n 0, 1) := by decide +kernel
theorem dX4_order_41 : decode cX4_order 41 = .ok (.iload_n 1, 1) := by decide +kernel
theorem dX4_order_42 : decode cX4_order 42 = .ok (.iload 4, 2) := by decide +kernel
theorem dX4_order_44 : decode cX4_order 44 = .ok (.invokevirtual 58, 3) := by decide +kernel
theorem dX4_order_47 : decode cX4_order 47 = .ok (.istore 5, 2) := by decide +kernel
theorem dX4_order_49 : decode cX4_order 49 = .ok (.iload_n 3, 1) := by decide +kernel
theorem dX4_order_50 : decode cX4_order 50 = .ok (.ifCond .eq 16, 3) := by decide +kernel
theorem dX4_order_53 : decode cX4_order 53 = .ok (.aload_n 0, 1) := by decide +kernel
theorem dX4_order_54 : decode cX4_order 54 = .ok (.iload_n 2, 1) := by decide +kernel
theorem dX4_order_55 : decode cX4_order 55 = .ok (.iload 4, 2) := by decide +kernel
theorem dX4_order_57 : decode cX4_order 57 = .ok (.invokevirtual 58, 3) := by decide +kernel
theorem dX4_order_60 : decode cX4_order 60 = .ok (.invokestatic 120, 3) := by decide +kernel
theorem dX4_order_63 : decode cX4_order 63 = .ok (.goto 10, 3) := by decide +kernel
theorem dX4_order_66 : decode cX4_order 66 = .ok (.aload_n 0, 1) := by decide +kernel
theorem dX4_order_67 : decode cX4_order 67 = .ok (.iload_n 2, 1) := by decide +kernel
theorem dX4_order_68 : decode cX4_order 68 = .ok (.iload 4, 2) := by decide +kernel
theorem dX4_order_70 : decode cX4_order 70 = .ok (.invokevirtual 58, 3) := by decide +kernel
theorem dX4_order_73 : decode cX4_order 73 = .ok (.istore 6, 2) := by decide +kernel
theorem dX4_order_75 : decode cX4_order 75 = .ok (.iload 5, 2) := by decide +kernel
theorem dX4_order_77 : decode cX4_order 77 = .ok (.iload 6, 2) := by decide +kernel
theorem dX4_order_79 : decode cX4_order 79 = .ok (.if_icmp .eq 9, 3) := by decide +kernel
theorem dX4_order_82 : decode cX4_order 82 = .ok (.iload 5, 2) := by decide +kernel
theorem dX4_order_84 : decode cX4_order 84 = .ok (.iload 6, 2) := by decide +kernel
theorem dX4_order_86 : decode cX4_order 86 = .ok (.isub, 1) := by decide +kernel
theorem dX4_order_87 : decode cX4_order 87 = .ok (.ireturn, 1) := by decide +kernel
theorem dX4_order_88 : decode cX4_order 88 = .ok (.iinc 4 1, 3) := by decide +kernel
theorem dX4_order_91 : decode cX4_order 91 = .ok (.goto (-88), 3) := by decide +kernel
theorem dX4_order_94 : decode cX4_order 94 = .ok (.aload_n 0, 1) := by decide +kernel
theorem dX4_order_95 : decode cX4_order 95 = .ok (.iload_n 1, 1) := by decide +kernel
theorem dX4_order_96 : decode cX4_order 96 = .ok (.invokevirtual 67, 3) := by decide +kernel
theorem dX4_order_99 : decode cX4_order 99 = .ok (.aload_n 0, 1) := by decide +kernel
theorem dX4_order_100 : decode cX4_order 100 = .ok (.iload_n 2, 1) := by decide +kernel
theorem dX4_order_101 : decode cX4_order 101 = .ok (.invokevirtual 67, 3) := by decide +kernel
theorem dX4_order_104 : decode cX4_order 104 = .ok (.isub, 1) := by decide +kernel
theorem dX4_order_105 : decode cX4_order 105 = .ok (.ireturn, 1) := by decide +kernel
theorem dX4_compare_0 : decode cX4_compare 0 = .ok (.aload_n 0, 1) := by decide +kernel
theorem dX4_compare_1 : decode cX4_compare 1 = .ok (.iload_n 1, 1) := by decide +kernel
theorem dX4_compare_2 : decode cX4_compare 2 = .ok (.iload_n 2, 1) := by decide +kernel
theorem dX4_compare_3 : decode cX4_compare 3 = .ok (.iconst 0, 1) := by decide +kernel
theorem dX4_compare_4 : decode cX4_compare 4 = .ok (.invokevirtual 127, 3) := by decide +kernel
theorem dX4_compare_7 : decode cX4_compare 7 = .ok (.ireturn, 1) := by decide +kernel
theorem dX4_compareAlike_0 : decode cX4_compareAlike 0 = .ok (.aload_n 0, 1) := by decide +kernel
theorem dX4_compareAlike_1 : decode cX4_compareAlike 1 = .ok (.iload_n 1, 1) := by decide +kernel
theorem dX4_compareAlike_2 : decode cX4_compareAlike 2 = .ok (.iload_n 2, 1) := by decide +kernel
theorem dX4_compareAlike_3 : decode cX4_compareAlike 3 = .ok (.iconst 1, 1) := by decide +kernel
theorem dX4_compareAlike_4 : decode cX4_compareAlike 4 = .ok (.invokevirtual 127, 3) := by decide +kernel
theorem dX4_compareAlike_7 : decode cX4_compareAlike 7 = .ok (.istore_n 3, 1) := by decide +kernel
theorem dX4_compareAlike_8 : decode cX4_compareAlike 8 = .ok (.iload_n 3, 1) := by decide +kernel
theorem dX4_compareAlike_9 : decode cX4_compareAlike 9 = .ok (.ifCond .ge 7, 3) := by decide +kernel
theorem dX4_compareAlike_12 : decode cX4_compareAlike 12 = .ok (.iconst (-1), 1) := by decide +kernel
theorem dX4_compareAlike_13 : decode cX4_compareAlike 13 = .ok (.goto 12, 3) := by decide +kernel
theorem dX4_compareAlike_16 : decode cX4_compareAlike 16 = .ok (.iload_n 3, 1) := by decide +kernel
theorem dX4_compareAlike_17 : decode cX4_compareAlike 17 = .ok (.ifCond .le 7, 3) := by decide +kernel
theorem dX4_compareAlike_20 : decode cX4_compareAlike 20 = .ok (.iconst 1, 1) := by decide +kernel
theorem dX4_compareAlike_21 : decode cX4_compareAlike 21 = .ok (.goto 4, 3) := by decide +kernel
theorem dX4_compareAlike_24 : decode cX4_compareAlike 24 = .ok (.iconst 0, 1) := by decide +kernel
theorem dX4_compareAlike_25 : decode cX4_compareAlike 25 = .ok (.ireturn, 1) := by decide +kernel
theorem dX4_replaceSign_0 : decode cX4_replaceSign 0 = .ok (.iload_n 2, 1) := by decide +kernel
theorem dX4_replaceSign_1 : decode cX4_replaceSign 1 = .ok (.invokestatic 70, 3) := by decide +kernel
theorem dX4_replaceSign_4 : decode cX4_replaceSign 4 = .ok (.ifCond .eq 10, 3) := by decide +kernel
theorem dX4_replaceSign_7 : decode cX4_replaceSign 7 = .ok (.iload_n 3, 1) := by decide +kernel
theorem dX4_replaceSign_8 : decode cX4_replaceSign 8 = .ok (.invokestatic 70, 3) := by decide +kernel
theorem dX4_replaceSign_11 : decode cX4_replaceSign 11 = .ok (.ifCond .ne 6, 3) := by decide +kernel
theorem dX4_replaceSign_14 : decode cX4_replaceSign 14 = .ok (.ldc 74, 2) := by decide +kernel
theorem dX4_replaceSign_16 : decode cX4_replaceSign 16 = .ok (.ireturn, 1) := by decide +kernel
theorem dX4_replaceSign_17 : decode cX4_replaceSign 17 = .ok (.aload_n 0, 1) := by decide +kernel
theorem dX4_replaceSign_18 : decode cX4_replaceSign 18 = .ok (.invokevirtual 75, 3) := by decide +kernel
theorem dX4_replaceSign_21 : decode cX4_replaceSign 21 = .ok (.iconst 0, 1) := by decide +kernel
theorem dX4_replaceSign_22 : decode cX4_replaceSign 22 = .ok (.istore 5, 2) := by decide +kernel
theorem dX4_replaceSign_24 : decode cX4_replaceSign 24 = .ok (.iload 5, 2) := by decide +kernel
theorem dX4_replaceSign_26 : decode cX4_replaceSign 26 = .ok (.aload_n 0, 1) := by decide +kernel
theorem dX4_replaceSign_27 : decode cX4_replaceSign 27 = .ok (.iload_n 1, 1) := by decide +kernel
theorem dX4_replaceSign_28 : decode cX4_replaceSign 28 = .ok (.invokevirtual 67, 3) := by decide +kernel
theorem dX4_replaceSign_31 : decode cX4_replaceSign 31 = .ok (.if_icmp .ge 35, 3) := by decide +kernel
theorem dX4_replaceSign_34 : decode cX4_replaceSign 34 = .ok (.aload_n 0, 1) := by decide +kernel
theorem dX4_replaceSign_35 : decode cX4_replaceSign 35 = .ok (.aload_n 0, 1) := by decide +kernel
theorem dX4_replaceSign_36 : decode cX4_replaceSign 36 = .ok (.iload_n 1, 1) := by decide +kernel
theorem dX4_replaceSign_37 : decode cX4_replaceSign 37 = .ok (.iload 5, 2) := by decide +kernel
theorem dX4_replaceSign_39 : decode cX4_replaceSign 39 = .ok (.invokevirtual 58, 3) := by decide +kernel
theorem dX4_replaceSign_42 : decode cX4_replaceSign 42 = .ok (.iload_n 2, 1) := by decide +kernel
theorem dX4_replaceSign_43 : decode cX4_replaceSign 43 = .ok (.if_icmp .ne 7, 3) := by decide +kernel
theorem dX4_replaceSign_46 : decode cX4_replaceSign 46 = .ok (.iload_n 3, 1) := by decide +kernel
theorem dX4_replaceSign_47 : decode cX4_replaceSign 47 = .ok (.goto 10, 3) := by decide +kernel
theorem dX4_replaceSign_50 : decode cX4_replaceSign 50 = .ok (.aload_n 0, 1) := by decide +kernel
theorem dX4_replaceSign_51 : decode cX4_replaceSign 51 = .ok (.iload_n 1, 1) := by decide +kernel
theorem dX4_replaceSign_52 : decode cX4_replaceSign 52 = .ok (.iload 5, 2) := by decide +kernel
theorem dX4_replaceSign_54 : decode cX4_replaceSign 54 = .ok (.invokevirtual 58, 3) := by decide +kernel
theorem dX4_replaceSign_57 : decode cX4_replaceSign 57 = .ok (.invokevirtual 62, 3) := by decide +kernel
theorem dX4_replaceSign_60 : decode cX4_replaceSign 60 = .ok (.iinc 5 1, 3) := by decide +kernel
theorem dX4_replaceSign_63 : decode cX4_replaceSign 63 = .ok (.goto (-39), 3) := by decide +kernel
theorem dX4_replaceSign_66 : decode cX4_replaceSign 66 = .ok (.aload_n 0, 1) := by decide +kernel
theorem dX4_replaceSign_67 : decode cX4_replaceSign 67 = .ok (.iload 4, 2) := by decide +kernel
theorem dX4_replaceSign_69 : decode cX4_replaceSign 69 = .ok (.invokevirtual 82, 3) := by decide +kernel
theorem dX4_replaceSign_72 : decode cX4_replaceSign 72 = .ok (.ireturn, 1) := by decide +kernel
theorem dX4_replaceText_0 : decode cX4_replaceText 0 = .ok (.aload_n 0, 1) := by decide +kernel
theorem dX4_replaceText_1 : decode cX4_replaceText 1 = .ok (.iload_n 2, 1) := by decide +kernel
theorem dX4_replaceText_2 : decode cX4_replaceText 2 = .ok (.invokevirtual 67, 3) := by decide +kernel
theorem dX4_replaceText_5 : decode cX4_replaceText 5 = .ok (.ifCond .ne 6, 3) := by decide +kernel
theorem dX4_replaceText_8 : decode cX4_replaceText 8 = .ok (.ldc 74, 2) := by decide +kernel
theorem dX4_replaceText_10 : decode cX4_replaceText 10 = .ok (.ireturn, 1) := by decide +kernel
theorem dX4_replaceText_11 : decode cX4_replaceText 11 = .ok (.aload_n 0, 1) := by decide +kernel
theorem dX4_replaceText_12 : decode cX4_replaceText 12 = .ok (.invokevirtual 75, 3) := by decide +kernel
theorem dX4_replaceText_15 : decode cX4_replaceText 15 = .ok (.iconst 0, 1) := by decide +kernel
theorem dX4_replaceText_16 : decode cX4_replaceText 16 = .ok (.istore 5, 2) := by decide +kernel
theorem dX4_replaceText_18 : decode cX4_replaceText 18 = .ok (.iload 5, 2) := by decide +kernel
theorem dX4_replaceText_20 : decode cX4_replaceText 20 = .ok (.aload_n 0, 1) := by decide +kernel
theorem dX4_replaceText_21 : decode cX4_replaceText 21 = .ok (.iload_n 1, 1) := by decide +kernel
theorem dX4_replaceText_22 : decode cX4_replaceText 22 = .ok (.invokevirtual 67, 3) := by decide +kernel
theorem dX4_replaceText_25 : decode cX4_replaceText 25 = .ok (.if_icmp .ge 55, 3) := by decide +kernel
theorem dX4_replaceText_28 : decode cX4_replaceText 28 = .ok (.aload_n 0, 1) := by decide +kernel
theorem dX4_replaceText_29 : decode cX4_replaceText 29 = .ok (.iload_n 1, 1) := by decide +kernel
theorem dX4_replaceText_30 : decode cX4_replaceText 30 = .ok (.iload_n 2, 1) := by decide +kernel
theorem dX4_replaceText_31 : decode cX4_replaceText 31 = .ok (.iload 5, 2) := by decide +kernel
theorem dX4_replaceText_33 : decode cX4_replaceText 33 = .ok (.invokevirtual 111, 3) := by decide +kernel
theorem dX4_replaceText_36 : decode cX4_replaceText 36 = .ok (.ifCond .eq 27, 3) := by decide +kernel
theorem dX4_replaceText_39 : decode cX4_replaceText 39 = .ok (.aload_n 0, 1) := by decide +kernel
theorem dX4_replaceText_40 : decode cX4_replaceText 40 = .ok (.iload_n 3, 1) := by decide +kernel
theorem dX4_replaceText_41 : decode cX4_replaceText 41 = .ok (.iconst 0, 1) := by decide +kernel
theorem dX4_replaceText_42 : decode cX4_replaceText 42 = .ok (.aload_n 0, 1) := by decide +kernel
theorem dX4_replaceText_43 : decode cX4_replaceText 43 = .ok (.iload_n 3, 1) := by decide +kernel
theorem dX4_replaceText_44 : decode cX4_replaceText 44 = .ok (.invokevirtual 67, 3) := by decide +kernel
theorem dX4_replaceText_47 : decode cX4_replaceText 47 = .ok (.invokevirtual 78, 3) := by decide +kernel
theorem dX4_replaceText_50 : decode cX4_replaceText 50 = .ok (.iload 5, 2) := by decide +kernel
theorem dX4_replaceText_52 : decode cX4_replaceText 52 = .ok (.aload_n 0, 1) := by decide +kernel
theorem dX4_replaceText_53 : decode cX4_replaceText 53 = .ok (.iload_n 2, 1) := by decide +kernel
theorem dX4_replaceText_54 : decode cX4_replaceText 54 = .ok (.invokevirtual 67, 3) := by decide +kernel
theorem dX4_replaceText_57 : decode cX4_replaceText 57 = .ok (.iadd, 1) := by decide +kernel
theorem dX4_replaceText_58 : decode cX4_replaceText 58 = .ok (.istore 5, 2) := by decide +kernel
theorem dX4_replaceText_60 : decode cX4_replaceText 60 = .ok (.goto (-42), 3) := by decide +kernel
theorem dX4_replaceText_63 : decode cX4_replaceText 63 = .ok (.aload_n 0, 1) := by decide +kernel
theorem dX4_replaceText_64 : decode cX4_replaceText 64 = .ok (.aload_n 0, 1) := by decide +kernel
theorem dX4_replaceText_65 : decode cX4_replaceText 65 = .ok (.iload_n 1, 1) := by decide +kernel
theorem dX4_replaceText_66 : decode cX4_replaceText 66 = .ok (.iload 5, 2) := by decide +kernel
theorem dX4_replaceText_68 : decode cX4_replaceText 68 = .ok (.invokevirtual 58, 3) := by decide +kernel
theorem dX4_replaceText_71 : decode cX4_replaceText 71 = .ok (.invokevirtual 62, 3) := by decide +kernel
theorem dX4_replaceText_74 : decode cX4_replaceText 74 = .ok (.iinc 5 1, 3) := by decide +kernel
theorem dX4_replaceText_77 : decode cX4_replaceText 77 = .ok (.goto (-59), 3) := by decide +kernel
theorem dX4_replaceText_80 : decode cX4_replaceText 80 = .ok (.aload_n 0, 1) := by decide +kernel
theorem dX4_replaceText_81 : decode cX4_replaceText 81 = .ok (.iload 4, 2) := by decide +kernel
theorem dX4_replaceText_83 : decode cX4_replaceText 83 = .ok (.invokevirtual 82, 3) := by decide +kernel
theorem dX4_replaceText_86 : decode cX4_replaceText 86 = .ok (.ireturn, 1) := by decide +kernel
theorem dX4_strips_0 : decode cX4_strips 0 = .ok (.iconst (-1), 1) := by decide +kernel
theorem dX4_strips_1 : decode cX4_strips 1 = .ok (.istore 4, 2) := by decide +kernel
theorem dX4_strips_3 : decode cX4_strips 3 = .ok (.iconst 0, 1) := by decide +kernel
theorem dX4_strips_4 : decode cX4_strips 4 = .ok (.istore 5, 2) := by decide +kernel
theorem dX4_strips_6 : decode cX4_strips 6 = .ok (.iconst 0, 1) := by decide +kernel
theorem dX4_strips_7 : decode cX4_strips 7 = .ok (.istore 6, 2) := by decide +kernel
theorem dX4_strips_9 : decode cX4_strips 9 = .ok (.iload 6, 2) := by decide +kernel
theorem dX4_strips_11 : decode cX4_strips 11 = .ok (.aload_n 0, 1) := by decide +kernel
theorem dX4_strips_12 : decode cX4_strips 12 = .ok (.iload_n 1, 1) := by decide +kernel
theorem dX4_strips_13 : decode cX4_strips 13 = .ok (.invokevirtual 67, 3) := by decide +kernel
theorem dX4_strips_16 : decode cX4_strips 16 = .ok (.if_icmp .ge 88, 3) := by decide +kernel
theorem dX4_strips_19 : decode cX4_strips 19 = .ok (.aload_n 0, 1) := by decide +kernel
theorem dX4_strips_20 : decode cX4_strips 20 = .ok (.iload_n 1, 1) := by decide +kernel
theorem dX4_strips_21 : decode cX4_strips 21 = .ok (.iload 6, 2) := by decide +kernel
theorem dX4_strips_23 : decode cX4_strips 23 = .ok (.invokevirtual 58, 3) := by decide +kernel
theorem dX4_strips_26 : decode cX4_strips 26 = .ok (.istore 7, 2) := by decide +kernel
theorem dX4_strips_28 : decode cX4_strips 28 = .ok (.iload_n 2, 1) := by decide +kernel
theorem dX4_strips_29 : decode cX4_strips 29 = .ok (.ifCond .eq 18, 3) := by decide +kernel
theorem dX4_strips_32 : decode cX4_strips 32 = .ok (.iload 7, 2) := by decide +kernel
theorem dX4_strips_34 : decode cX4_strips 34 = .ok (.bipush 32, 2) := by decide +kernel
theorem dX4_strips_36 : decode cX4_strips 36 = .ok (.if_icmp .le 7, 3) := by decide +kernel
theorem dX4_strips_39 : decode cX4_strips 39 = .ok (.iconst 1, 1) := by decide +kernel
theorem dX4_strips_40 : decode cX4_strips 40 = .ok (.goto 20, 3) := by decide +kernel
theorem dX4_strips_43 : decode cX4_strips 43 = .ok (.iconst 0, 1) := by decide +kernel
theorem dX4_strips_44 : decode cX4_strips 44 = .ok (.goto 16, 3) := by decide +kernel
theorem dX4_strips_47 : decode cX4_strips 47 = .ok (.iload 7, 2) := by decide +kernel
theorem dX4_strips_49 : decode cX4_strips 49 = .ok (.invokestatic 98, 3) := by decide +kernel
theorem dX4_strips_52 : decode cX4_strips 52 = .ok (.ifCond .ne 7, 3) := by decide +kernel
theorem dX4_strips_55 : decode cX4_strips 55 = .ok (.iconst 1, 1) := by decide +kernel
theorem dX4_strips_56 : decode cX4_strips 56 = .ok (.goto 4, 3) := by decide +kernel
theorem dX4_strips_59 : decode cX4_strips 59 = .ok (.iconst 0, 1) := by decide +kernel
theorem dX4_strips_60 : decode cX4_strips 60 = .ok (.istore 8, 2) := by decide +kernel
theorem dX4_strips_62 : decode cX4_strips 62 = .ok (.iload 8, 2) := by decide +kernel
theorem dX4_strips_64 : decode cX4_strips 64 = .ok (.ifCond .eq 14, 3) := by decide +kernel
theorem dX4_strips_67 : decode cX4_strips 67 = .ok (.iload 4, 2) := by decide +kernel
theorem dX4_strips_69 : decode cX4_strips 69 = .ok (.iconst (-1), 1) := by decide +kernel
theorem dX4_strips_70 : decode cX4_strips 70 = .ok (.if_icmp .ne 8, 3) := by decide +kernel
theorem dX4_strips_73 : decode cX4_strips 73 = .ok (.iload 6, 2) := by decide +kernel
theorem dX4_strips_75 : decode cX4_strips 75 = .ok (.goto 5, 3) := by decide +kernel
theorem dX4_strips_78 : decode cX4_strips 78 = .ok (.iload 4, 2) := by decide +kernel
theorem dX4_strips_80 : decode cX4_strips 80 = .ok (.istore 4, 2) := by decide +kernel
theorem dX4_strips_82 : decode cX4_strips 82 = .ok (.iload 8, 2) := by decide +kernel
theorem dX4_strips_84 : decode cX4_strips 84 = .ok (.ifCond .eq 10, 3) := by decide +kernel
theorem dX4_strips_87 : decode cX4_strips 87 = .ok (.iload 6, 2) := by decide +kernel
theorem dX4_strips_89 : decode cX4_strips 89 = .ok (.iconst 1, 1) := by decide +kernel
theorem dX4_strips_90 : decode cX4_strips 90 = .ok (.iadd, 1) := by decide +kernel
theorem dX4_strips_91 : decode cX4_strips 91 = .ok (.goto 5, 3) := by decide +kernel
theorem dX4_strips_94 : decode cX4_strips 94 = .ok (.iload 5, 2) := by decide +kernel
theorem dX4_strips_96 : decode cX4_strips 96 = .ok (.istore 5, 2) := by decide +kernel
theorem dX4_strips_98 : decode cX4_strips 98 = .ok (.iinc 6 1, 3) := by decide +kernel
theorem dX4_strips_101 : decode cX4_strips 101 = .ok (.goto (-92), 3) := by decide +kernel
theorem dX4_strips_104 : decode cX4_strips 104 = .ok (.aload_n 0, 1) := by decide +kernel
theorem dX4_strips_105 : decode cX4_strips 105 = .ok (.invokevirtual 75, 3) := by decide +kernel
theorem dX4_strips_108 : decode cX4_strips 108 = .ok (.aload_n 0, 1) := by decide +kernel
theorem dX4_strips_109 : decode cX4_strips 109 = .ok (.iload_n 1, 1) := by decide +kernel
theorem dX4_strips_110 : decode cX4_strips 110 = .ok (.iload 4, 2) := by decide +kernel
theorem dX4_strips_112 : decode cX4_strips 112 = .ok (.iconst (-1), 1) := by decide +kernel
theorem dX4_strips_113 : decode cX4_strips 113 = .ok (.if_icmp .ne 7, 3) := by decide +kernel
theorem dX4_strips_116 : decode cX4_strips 116 = .ok (.iconst 0, 1) := by decide +kernel
theorem dX4_strips_117 : decode cX4_strips 117 = .ok (.goto 5, 3) := by decide +kernel
theorem dX4_strips_120 : decode cX4_strips 120 = .ok (.iload 4, 2) := by decide +kernel
theorem dX4_strips_122 : decode cX4_strips 122 = .ok (.iload 5, 2) := by decide +kernel
theorem dX4_strips_124 : decode cX4_strips 124 = .ok (.invokevirtual 78, 3) := by decide +kernel
theorem dX4_strips_127 : decode cX4_strips 127 = .ok (.aload_n 0, 1) := by decide +kernel
theorem dX4_strips_128 : decode cX4_strips 128 = .ok (.iload_n 3, 1) := by decide +kernel
theorem dX4_strips_129 : decode cX4_strips 129 = .ok (.invokevirtual 82, 3) := by decide +kernel
theorem dX4_strips_132 : decode cX4_strips 132 = .ok (.ireturn, 1) := by decide +kernel
theorem dX4_trim_0 : decode cX4_trim 0 = .ok (.aload_n 0, 1) := by decide +kernel
theorem dX4_trim_1 : decode cX4_trim 1 = .ok (.iload_n 1, 1) := by decide +kernel
theorem dX4_trim_2 : decode cX4_trim 2 = .ok (.iconst 1, 1) := by decide +kernel
theorem dX4_trim_3 : decode cX4_trim 3 = .ok (.iload_n 2, 1) := by decide +kernel
theorem dX4_trim_4 : decode cX4_trim 4 = .ok (.invokevirtual 131, 3) := by decide +kernel
theorem dX4_trim_7 : decode cX4_trim 7 = .ok (.ireturn, 1) := by decide +kernel
theorem dX4_strip_0 : decode cX4_strip 0 = .ok (.aload_n 0, 1) := by decide +kernel
theorem dX4_strip_1 : decode cX4_strip 1 = .ok (.iload_n 1, 1) := by decide +kernel
theorem dX4_strip_2 : decode cX4_strip 2 = .ok (.iconst 0, 1) := by decide +kernel
theorem dX4_strip_3 : decode cX4_strip 3 = .ok (.iload_n 2, 1) := by decide +kernel
theorem dX4_strip_4 : decode cX4_strip 4 = .ok (.invokevirtual 131, 3) := by decide +kernel
theorem dX4_strip_7 : decode cX4_strip 7 = .ok (.ireturn, 1) := by decide +kernel
theorem dX4_repeat_0 : decode cX4_repeat 0 = .ok (.iload_n 2, 1) := by decide +kernel
theorem dX4_repeat_1 : decode cX4_repeat 1 = .ok (.ifCond .ge 6, 3) := by decide +kernel
theorem dX4_repeat_4 : decode cX4_repeat 4 = .ok (.ldc 135, 2) := by decide +kernel
theorem dX4_repeat_6 : decode cX4_repeat 6 = .ok (.ireturn, 1) := by decide +kernel
theorem dX4_repeat_7 : decode cX4_repeat 7 = .ok (.aload_n 0, 1) := by decide +kernel
theorem dX4_repeat_8 : decode cX4_repeat 8 = .ok (.iload_n 1, 1) := by decide +kernel
theorem dX4_repeat_9 : decode cX4_repeat 9 = .ok (.invokevirtual 67, 3) := by decide +kernel
theorem dX4_repeat_12 : decode cX4_repeat 12 = .ok (.i2l, 1) := by decide +kernel
theorem dX4_repeat_13 : decode cX4_repeat 13 = .ok (.iload_n 2, 1) := by decide +kernel
theorem dX4_repeat_14 : decode cX4_repeat 14 = .ok (.i2l, 1) := by decide +kernel
theorem dX4_repeat_15 : decode cX4_repeat 15 = .ok (.lmul, 1) := by decide +kernel
theorem dX4_repeat_16 : decode cX4_repeat 16 = .ok (.ldc2_w 136, 3) := by decide +kernel
theorem dX4_repeat_19 : decode cX4_repeat 19 = .ok (.lcmp, 1) := by decide +kernel
theorem dX4_repeat_20 : decode cX4_repeat 20 = .ok (.ifCond .le 6, 3) := by decide +kernel
theorem dX4_repeat_23 : decode cX4_repeat 23 = .ok (.ldc 66, 2) := by decide +kernel
theorem dX4_repeat_25 : decode cX4_repeat 25 = .ok (.ireturn, 1) := by decide +kernel
theorem dX4_repeat_26 : decode cX4_repeat 26 = .ok (.aload_n 0, 1) := by decide +kernel
theorem dX4_repeat_27 : decode cX4_repeat 27 = .ok (.invokevirtual 75, 3) := by decide +kernel
theorem dX4_repeat_30 : decode cX4_repeat 30 = .ok (.iconst 0, 1) := by decide +kernel
theorem dX4_repeat_31 : decode cX4_repeat 31 = .ok (.istore 4, 2) := by decide +kernel
theorem dX4_repeat_33 : decode cX4_repeat 33 = .ok (.iload 4, 2) := by decide +kernel
theorem dX4_repeat_35 : decode cX4_repeat 35 = .ok (.iload_n 2, 1) := by decide +kernel
theorem dX4_repeat_36 : decode cX4_repeat 36 = .ok (.if_icmp .ge 28, 3) := by decide +kernel
theorem dX4_repeat_39 : decode cX4_repeat 39 = .ok (.aload_n 0, 1) := by decide +kernel
theorem dX4_repeat_40 : decode cX4_repeat 40 = .ok (.iload_n 1, 1) := by decide +kernel
theorem dX4_repeat_41 : decode cX4_repeat 41 = .ok (.invokevirtual 67, 3) := by decide +kernel
theorem dX4_repeat_44 : decode cX4_repeat 44 = .ok (.ifCond .le 20, 3) := by decide +kernel
theorem dX4_repeat_47 : decode cX4_repeat 47 = .ok (.aload_n 0, 1) := by decide +kernel
theorem dX4_repeat_48 : decode cX4_repeat 48 = .ok (.iload_n 1, 1) := by decide +kernel
theorem dX4_repeat_49 : decode cX4_repeat 49 = .ok (.iconst 0, 1) := by decide +kernel
theorem dX4_repeat_50 : decode cX4_repeat 50 = .ok (.aload_n 0, 1) := by decide +kernel
theorem dX4_repeat_51 : decode cX4_repeat 51 = .ok (.iload_n 1, 1) := by decide +kernel
theorem dX4_repeat_52 : decode cX4_repeat 52 = .ok (.invokevirtual 67, 3) := by decide +kernel
theorem dX4_repeat_55 : decode cX4_repeat 55 = .ok (.invokevirtual 78, 3) := by decide +kernel
theorem dX4_repeat_58 : decode cX4_repeat 58 = .ok (.iinc 4 1, 3) := by decide +kernel
theorem dX4_repeat_61 : decode cX4_repeat 61 = .ok (.goto (-28), 3) := by decide +kernel
theorem dX4_repeat_64 : decode cX4_repeat 64 = .ok (.aload_n 0, 1) := by decide +kernel
theorem dX4_repeat_65 : decode cX4_repeat 65 = .ok (.iload_n 3, 1) := by decide +kernel
theorem dX4_repeat_66 : decode cX4_repeat 66 = .ok (.invokevirtual 82, 3) := by decide +kernel
theorem dX4_repeat_69 : decode cX4_repeat 69 = .ok (.ireturn, 1) := by decide +kernel
theorem dX4_turn_0 : decode cX4_turn 0 = .ok (.aload_n 0, 1) := by decide +kernel
theorem dX4_turn_1 : decode cX4_turn 1 = .ok (.invokevirtual 75, 3) := by decide +kernel
theorem dX4_turn_4 : decode cX4_turn 4 = .ok (.aload_n 0, 1) := by decide +kernel
theorem dX4_turn_5 : decode cX4_turn 5 = .ok (.iload_n 1, 1) := by decide +kernel
theorem dX4_turn_6 : decode cX4_turn 6 = .ok (.invokevirtual 67, 3) := by decide +kernel
theorem dX4_turn_9 : decode cX4_turn 9 = .ok (.iconst 1, 1) := by decide +kernel
theorem dX4_turn_10 : decode cX4_turn 10 = .ok (.isub, 1) := by decide +kernel
theorem dX4_turn_11 : decode cX4_turn 11 = .ok (.istore_n 3, 1) := by decide +kernel
theorem dX4_turn_12 : decode cX4_turn 12 = .ok (.iload_n 3, 1) := by decide +kernel
theorem dX4_turn_13 : decode cX4_turn 13 = .ok (.ifCond .lt 19, 3) := by decide +kernel
theorem dX4_turn_16 : decode cX4_turn 16 = .ok (.aload_n 0, 1) := by decide +kernel
theorem dX4_turn_17 : decode cX4_turn 17 = .ok (.aload_n 0, 1) := by decide +kernel
theorem dX4_turn_18 : decode cX4_turn 18 = .ok (.iload_n 1, 1) := by decide +kernel
theorem dX4_turn_19 : decode cX4_turn 19 = .ok (.iload_n 3, 1) := by decide +kernel
theorem dX4_turn_20 : decode cX4_turn 20 = .ok (.invokevirtual 58, 3) := by decide +kernel
theorem dX4_turn_23 : decode cX4_turn 23 = .ok (.invokevirtual 62, 3) := by decide +kernel
theorem dX4_turn_26 : decode cX4_turn 26 = .ok (.iinc 3 (-1), 3) := by decide +kernel
theorem dX4_turn_29 : decode cX4_turn 29 = .ok (.goto (-17), 3) := by decide +kernel
theorem dX4_turn_32 : decode cX4_turn 32 = .ok (.aload_n 0, 1) := by decide +kernel
theorem dX4_turn_33 : decode cX4_turn 33 = .ok (.iload_n 2, 1) := by decide +kernel
theorem dX4_turn_34 : decode cX4_turn 34 = .ok (.invokevirtual 82, 3) := by decide +kernel
theorem dX4_turn_37 : decode cX4_turn 37 = .ok (.ireturn, 1) := by decide +kernel
theorem dX4_isSpecial_0 : decode cX4_isSpecial 0 = .ok (.iload_n 0, 1) := by decide +kernel
theorem dX4_isSpecial_1 : decode cX4_isSpecial 1 = .ok (.bipush 46, 2) := by decide +kernel
theorem dX4_isSpecial_3 : decode cX4_isSpecial 3 = .ok (.if_icmp .eq 56, 3) := by decide +kernel
theorem dX4_isSpecial_6 : decode cX4_isSpecial 6 = .ok (.iload_n 0, 1) := by decide +kernel
theorem dX4_isSpecial_7 : decode cX4_isSpecial 7 = .ok (.bipush 36, 2) := by decide +kernel
theorem dX4_isSpecial_9 : decode cX4_isSpecial 9 = .ok (.if_icmp .eq 50, 3) := by decide +kernel
theorem dX4_isSpecial_12 : decode cX4_isSpecial 12 = .ok (.iload_n 0, 1) := by decide +kernel
theorem dX4_isSpecial_13 : decode cX4_isSpecial 13 = .ok (.bipush 124, 2) := by decide +kernel
theorem dX4_isSpecial_15 : decode cX4_isSpecial 15 = .ok (.if_icmp .eq 44, 3) := by decide +kernel
theorem dX4_isSpecial_18 : decode cX4_isSpecial 18 = .ok (.iload_n 0, 1) := by decide +kernel
theorem dX4_isSpecial_19 : decode cX4_isSpecial 19 = .ok (.bipush 40, 2) := by decide +kernel
theorem dX4_isSpecial_21 : decode cX4_isSpecial 21 = .ok (.bipush 43, 2) := by decide +kernel
theorem dX4_isSpecial_23 : decode cX4_isSpecial 23 = .ok (.invokestatic 46, 3) := by decide +kernel
theorem dX4_isSpecial_26 : decode cX4_isSpecial 26 = .ok (.ifCond .ne 33, 3) := by decide +kernel
theorem dX4_isSpecial_29 : decode cX4_isSpecial 29 = .ok (.iload_n 0, 1) := by decide +kernel
theorem dX4_isSpecial_30 : decode cX4_isSpecial 30 = .ok (.bipush 91, 2) := by decide +kernel
theorem dX4_isSpecial_32 : decode cX4_isSpecial 32 = .ok (.if_icmp .eq 27, 3) := by decide +kernel
theorem dX4_isSpecial_35 : decode cX4_isSpecial 35 = .ok (.iload_n 0, 1) := by decide +kernel
theorem dX4_isSpecial_36 : decode cX4_isSpecial 36 = .ok (.bipush 92, 2) := by decide +kernel
theorem dX4_isSpecial_38 : decode cX4_isSpecial 38 = .ok (.if_icmp .eq 21, 3) := by decide +kernel
theorem dX4_isSpecial_41 : decode cX4_isSpecial 41 = .ok (.iload_n 0, 1) := by decide +kernel
theorem dX4_isSpecial_42 : decode cX4_isSpecial 42 = .ok (.bipush 123, 2) := by decide +kernel
theorem dX4_isSpecial_44 : decode cX4_isSpecial 44 = .ok (.if_icmp .eq 15, 3) := by decide +kernel
theorem dX4_isSpecial_47 : decode cX4_isSpecial 47 = .ok (.iload_n 0, 1) := by decide +kernel
theorem dX4_isSpecial_48 : decode cX4_isSpecial 48 = .ok (.bipush 94, 2) := by decide +kernel
theorem dX4_isSpecial_50 : decode cX4_isSpecial 50 = .ok (.if_icmp .eq 9, 3) := by decide +kernel
theorem dX4_isSpecial_53 : decode cX4_isSpecial 53 = .ok (.iload_n 0, 1) := by decide +kernel
theorem dX4_isSpecial_54 : decode cX4_isSpecial 54 = .ok (.bipush 63, 2) := by decide +kernel
theorem dX4_isSpecial_56 : decode cX4_isSpecial 56 = .ok (.if_icmp .ne 7, 3) := by decide +kernel
theorem dX4_isSpecial_59 : decode cX4_isSpecial 59 = .ok (.iconst 1, 1) := by decide +kernel
theorem dX4_isSpecial_60 : decode cX4_isSpecial 60 = .ok (.goto 4, 3) := by decide +kernel
theorem dX4_isSpecial_63 : decode cX4_isSpecial 63 = .ok (.iconst 0, 1) := by decide +kernel
theorem dX4_isSpecial_64 : decode cX4_isSpecial 64 = .ok (.ireturn, 1) := by decide +kernel
theorem dX4_addPiece_0 : decode cX4_addPiece 0 = .ok (.aload_n 0, 1) := by decide +kernel
theorem dX4_addPiece_1 : decode cX4_addPiece 1 = .ok (.getfield 19, 3) := by decide +kernel
theorem dX4_addPiece_4 : decode cX4_addPiece 4 = .ok (.aload_n 0, 1) := by decide +kernel
theorem dX4_addPiece_5 : decode cX4_addPiece 5 = .ok (.getfield 138, 3) := by decide +kernel
theorem dX4_addPiece_8 : decode cX4_addPiece 8 = .ok (.iload_n 1, 1) := by decide +kernel
theorem dX4_addPiece_9 : decode cX4_addPiece 9 = .ok (.iastore, 1) := by decide +kernel
theorem dX4_addPiece_10 : decode cX4_addPiece 10 = .ok (.aload_n 0, 1) := by decide +kernel
theorem dX4_addPiece_11 : decode cX4_addPiece 11 = .ok (.getfield 22, 3) := by decide +kernel
theorem dX4_addPiece_14 : decode cX4_addPiece 14 = .ok (.aload_n 0, 1) := by decide +kernel
theorem dX4_addPiece_15 : decode cX4_addPiece 15 = .ok (.getfield 138, 3) := by decide +kernel
theorem dX4_addPiece_18 : decode cX4_addPiece 18 = .ok (.iload_n 2, 1) := by decide +kernel
theorem dX4_addPiece_19 : decode cX4_addPiece 19 = .ok (.iload_n 1, 1) := by decide +kernel
theorem dX4_addPiece_20 : decode cX4_addPiece 20 = .ok (.isub, 1) := by decide +kernel
theorem dX4_addPiece_21 : decode cX4_addPiece 21 = .ok (.iastore, 1) := by decide +kernel
theorem dX4_addPiece_22 : decode cX4_addPiece 22 = .ok (.aload_n 0, 1) := by decide +kernel
theorem dX4_addPiece_23 : decode cX4_addPiece 23 = .ok (.dup, 1) := by decide +kernel
theorem dX4_addPiece_24 : decode cX4_addPiece 24 = .ok (.getfield 138, 3) := by decide +kernel
theorem dX4_addPiece_27 : decode cX4_addPiece 27 = .ok (.iconst 1, 1) := by decide +kernel
theorem dX4_addPiece_28 : decode cX4_addPiece 28 = .ok (.iadd, 1) := by decide +kernel
theorem dX4_addPiece_29 : decode cX4_addPiece 29 = .ok (.putfield 138, 3) := by decide +kernel
theorem dX4_addPiece_32 : decode cX4_addPiece 32 = .ok (.return_, 1) := by decide +kernel
theorem dX4_part_0 : decode cX4_part 0 = .ok (.iload_n 2, 1) := by decide +kernel
theorem dX4_part_1 : decode cX4_part 1 = .ok (.invokestatic 70, 3) := by decide +kernel
theorem dX4_part_4 : decode cX4_part 4 = .ok (.ifCond .eq 10, 3) := by decide +kernel
theorem dX4_part_7 : decode cX4_part 7 = .ok (.iload_n 2, 1) := by decide +kernel
theorem dX4_part_8 : decode cX4_part 8 = .ok (.invokestatic 141, 3) := by decide +kernel
theorem dX4_part_11 : decode cX4_part 11 = .ok (.ifCond .eq 6, 3) := by decide +kernel
theorem dX4_part_14 : decode cX4_part 14 = .ok (.ldc 74, 2) := by decide +kernel
theorem dX4_part_16 : decode cX4_part 16 = .ok (.ireturn, 1) := by decide +kernel
theorem dX4_part_17 : decode cX4_part 17 = .ok (.aload_n 0, 1) := by decide +kernel
theorem dX4_part_18 : decode cX4_part 18 = .ok (.iconst 0, 1) := by decide +kernel
theorem dX4_part_19 : decode cX4_part 19 = .ok (.putfield 138, 3) := by decide +kernel
theorem dX4_part_22 : decode cX4_part 22 = .ok (.iconst 0, 1) := by decide +kernel
theorem dX4_part_23 : decode cX4_part 23 = .ok (.istore 4, 2) := by decide +kernel
theorem dX4_part_25 : decode cX4_part 25 = .ok (.iconst 0, 1) := by decide +kernel
theorem dX4_part_26 : decode cX4_part 26 = .ok (.istore 5, 2) := by decide +kernel
theorem dX4_part_28 : decode cX4_part 28 = .ok (.iload 5, 2) := by decide +kernel
theorem dX4_part_30 : decode cX4_part 30 = .ok (.aload_n 0, 1) := by decide +kernel
theorem dX4_part_31 : decode cX4_part 31 = .ok (.iload_n 1, 1) := by decide +kernel
theorem dX4_part_32 : decode cX4_part 32 = .ok (.invokevirtual 67, 3) := by decide +kernel
theorem dX4_part_35 : decode cX4_part 35 = .ok (.if_icmp .ge 62, 3) := by decide +kernel
theorem dX4_part_38 : decode cX4_part 38 = .ok (.aload_n 0, 1) := by decide +kernel
theorem dX4_part_39 : decode cX4_part 39 = .ok (.getfield 16, 3) := by decide +kernel
theorem dX4_part_42 : decode cX4_part 42 = .ok (.iload 5, 2) := by decide +kernel
theorem dX4_part_44 : decode cX4_part 44 = .ok (.aload_n 0, 1) := by decide +kernel
theorem dX4_part_45 : decode cX4_part 45 = .ok (.iload_n 1, 1) := by decide +kernel
theorem dX4_part_46 : decode cX4_part 46 = .ok (.iload 5, 2) := by decide +kernel
theorem dX4_part_48 : decode cX4_part 48 = .ok (.invokevirtual 58, 3) := by decide +kernel
theorem dX4_part_51 : decode cX4_part 51 = .ok (.iastore, 1) := by decide +kernel
theorem dX4_part_52 : decode cX4_part 52 = .ok (.aload_n 0, 1) := by decide +kernel
theorem dX4_part_53 : decode cX4_part 53 = .ok (.getfield 16, 3) := by decide +kernel
theorem dX4_part_56 : decode cX4_part 56 = .ok (.iload 5, 2) := by decide +kernel
theorem dX4_part_58 : decode cX4_part 58 = .ok (.iaload, 1) := by decide +kernel
theorem dX4_part_59 : decode cX4_part 59 = .ok (.iload_n 2, 1) := by decide +kernel
theorem dX4_part_60 : decode cX4_part 60 = .ok (.if_icmp .ne 31, 3) := by decide +kernel
theorem dX4_part_63 : decode cX4_part 63 = .ok (.iload_n 3, 1) := by decide +kernel
theorem dX4_part_64 : decode cX4_part 64 = .ok (.ifCond .le 13, 3) := by decide +kernel
theorem dX4_part_67 : decode cX4_part 67 = .ok (.aload_n 0, 1) := by decide +kernel
theorem dX4_part_68 : decode cX4_part 68 = .ok (.getfield 138, 3) := by decide +kernel
theorem dX4_part_71 : decode cX4_part 71 = .ok (.iload_n 3, 1) := by decide +kernel
theorem dX4_part_72 : decode cX4_part 72 = .ok (.iconst 1, 1) := by decide +kernel
theorem dX4_part_73 : decode cX4_part 73 = .ok (.isub, 1) := by decide +kernel
theorem dX4_part_74 : decode cX4_part 74 = .ok (.if_icmp .ge 17, 3) := by decide +kernel
theorem dX4_part_77 : decode cX4_part 77 = .ok (.aload_n 0, 1) := by decide +kernel
theorem dX4_part_78 : decode cX4_part 78 = .ok (.iload 4, 2) := by decide +kernel
theorem dX4_part_80 : decode cX4_part 80 = .ok (.iload 5, 2) := by decide +kernel
theorem dX4_part_82 : decode cX4_part 82 = .ok (.invokevirtual 144, 3) := by decide +kernel
theorem dX4_part_85 : decode cX4_part 85 = .ok (.iload 5, 2) := by decide +kernel
theorem dX4_part_87 : decode cX4_part 87 = .ok (.iconst 1, 1) := by decide +kernel
theorem dX4_part_88 : decode cX4_part 88 = .ok (.iadd, 1) := by decide +kernel
theorem dX4_part_89 : decode cX4_part 89 = .ok (.istore 4, 2) := by decide +kernel
theorem dX4_part_91 : decode cX4_part 91 = .ok (.iinc 5 1, 3) := by decide +kernel
theorem dX4_part_94 : decode cX4_part 94 = .ok (.goto (-66), 3) := by decide +kernel
theorem dX4_part_97 : decode cX4_part 97 = .ok (.aload_n 0, 1) := by decide +kernel
theorem dX4_part_98 : decode cX4_part 98 = .ok (.iload 4, 2) := by decide +kernel
theorem dX4_part_100 : decode cX4_part 100 = .ok (.aload_n 0, 1) := by decide +kernel
theorem dX4_part_101 : decode cX4_part 101 = .ok (.iload_n 1, 1) := by decide +kernel
theorem dX4_part_102 : decode cX4_part 102 = .ok (.invokevirtual 67, 3) := by decide +kernel
theorem dX4_part_105 : decode cX4_part 105 = .ok (.invokevirtual 144, 3) := by decide +kernel
theorem dX4_part_108 : decode cX4_part 108 = .ok (.aload_n 0, 1) := by decide +kernel
theorem dX4_part_109 : decode cX4_part 109 = .ok (.getfield 138, 3) := by decide +kernel
theorem dX4_part_112 : decode cX4_part 112 = .ok (.iconst 1, 1) := by decide +kernel
theorem dX4_part_113 : decode cX4_part 113 = .ok (.if_icmp .le 7, 3) := by decide +kernel
theorem dX4_part_116 : decode cX4_part 116 = .ok (.iconst 1, 1) := by decide +kernel
theorem dX4_part_117 : decode cX4_part 117 = .ok (.goto 4, 3) := by decide +kernel
theorem dX4_part_120 : decode cX4_part 120 = .ok (.iconst 0, 1) := by decide +kernel
theorem dX4_part_121 : decode cX4_part 121 = .ok (.istore 5, 2) := by decide +kernel
theorem dX4_part_123 : decode cX4_part 123 = .ok (.iload_n 3, 1) := by decide +kernel
theorem dX4_part_124 : decode cX4_part 124 = .ok (.ifCond .ne 42, 3) := by decide +kernel
theorem dX4_part_127 : decode cX4_part 127 = .ok (.iload 5, 2) := by decide +kernel
theorem dX4_part_129 : decode cX4_part 129 = .ok (.ifCond .eq 37, 3) := by decide +kernel
theorem dX4_part_132 : decode cX4_part 132 = .ok (.aload_n 0, 1) := by decide +kernel
theorem dX4_part_133 : decode cX4_part 133 = .ok (.getfield 138, 3) := by decide +kernel
theorem dX4_part_136 : decode cX4_part 136 = .ok (.ifCond .le 30, 3) := by decide +kernel
theorem dX4_part_139 : decode cX4_part 139 = .ok (.aload_n 0, 1) := by decide +kernel
theorem dX4_part_140 : decode cX4_part 140 = .ok (.getfield 22, 3) := by decide +kernel
theorem dX4_part_143 : decode cX4_part 143 = .ok (.aload_n 0, 1) := by decide +kernel
theorem dX4_part_144 : decode cX4_part 144 = .ok (.getfield 138, 3) := by decide +kernel
theorem dX4_part_147 : decode cX4_part 147 = .ok (.iconst 1, 1) := by decide +kernel
theorem dX4_part_148 : decode cX4_part 148 = .ok (.isub, 1) := by decide +kernel
theorem dX4_part_149 : decode cX4_part 149 = .ok (.iaload, 1) := by decide +kernel
theorem dX4_part_150 : decode cX4_part 150 = .ok (.ifCond .ne 16, 3) := by decide +kernel
theorem dX4_part_153 : decode cX4_part 153 = .ok (.aload_n 0, 1) := by decide +kernel
theorem dX4_part_154 : decode cX4_part 154 = .ok (.dup, 1) := by decide +kernel
theorem dX4_part_155 : decode cX4_part 155 = .ok (.getfield 138, 3) := by decide +kernel
theorem dX4_part_158 : decode cX4_part 158 = .ok (.iconst 1, 1) := by decide +kernel
theorem dX4_part_159 : decode cX4_part 159 = .ok (.isub, 1) := by decide +kernel
theorem dX4_part_160 : decode cX4_part 160 = .ok (.putfield 138, 3) := by decide +kernel
theorem dX4_part_163 : decode cX4_part 163 = .ok (.goto (-40), 3) := by decide +kernel
theorem dX4_part_166 : decode cX4_part 166 = .ok (.aload_n 0, 1) := by decide +kernel
theorem dX4_part_167 : decode cX4_part 167 = .ok (.getfield 138, 3) := by decide +kernel
theorem dX4_part_170 : decode cX4_part 170 = .ok (.ireturn, 1) := by decide +kernel
theorem dX4_pieces_0 : decode cX4_pieces 0 = .ok (.aload_n 0, 1) := by decide +kernel
theorem dX4_pieces_1 : decode cX4_pieces 1 = .ok (.getfield 138, 3) := by decide +kernel
theorem dX4_pieces_4 : decode cX4_pieces 4 = .ok (.ireturn, 1) := by decide +kernel
theorem dX4_putsPiece_0 : decode cX4_putsPiece 0 = .ok (.iconst 0, 1) := by decide +kernel
theorem dX4_putsPiece_1 : decode cX4_putsPiece 1 = .ok (.istore_n 2, 1) := by decide +kernel
theorem dX4_putsPiece_2 : decode cX4_putsPiece 2 = .ok (.iload_n 2, 1) := by decide +kernel
theorem dX4_putsPiece_3 : decode cX4_putsPiece 3 = .ok (.aload_n 0, 1) := by decide +kernel
theorem dX4_putsPiece_4 : decode cX4_putsPiece 4 = .ok (.getfield 22, 3) := by decide +kernel
theorem dX4_putsPiece_7 : decode cX4_putsPiece 7 = .ok (.iload_n 1, 1) := by decide +kernel
theorem dX4_putsPiece_8 : decode cX4_putsPiece 8 = .ok (.iaload, 1) := by decide +kernel
theorem dX4_putsPiece_9 : decode cX4_putsPiece 9 = .ok (.if_icmp .ge 26, 3) := by decide +kernel
theorem dX4_putsPiece_12 : decode cX4_putsPiece 12 = .ok (.aload_n 0, 1) := by decide +kernel
theorem dX4_putsPiece_13 : decode cX4_putsPiece 13 = .ok (.aload_n 0, 1) := by decide +kernel
theorem dX4_putsPiece_14 : decode cX4_putsPiece 14 = .ok (.getfield 16, 3) := by decide +kernel
theorem dX4_putsPiece_17 : decode cX4_putsPiece 17 = .ok (.aload_n 0, 1) := by decide +kernel
theorem dX4_putsPiece_18 : decode cX4_putsPiece 18 = .ok (.getfield 19, 3) := by decide +kernel
theorem dX4_putsPiece_21 : decode cX4_putsPiece 21 = .ok (.iload_n 1, 1) := by decide +kernel
theorem dX4_putsPiece_22 : decode cX4_putsPiece 22 = .ok (.iaload, 1) := by decide +kernel
theorem dX4_putsPiece_23 : decode cX4_putsPiece 23 = .ok (.iload_n 2, 1) := by decide +kernel
theorem dX4_putsPiece_24 : decode cX4_putsPiece 24 = .ok (.iadd, 1) := by decide +kernel
theorem dX4_putsPiece_25 : decode cX4_putsPiece 25 = .ok (.iaload, 1) := by decide +kernel
theorem dX4_putsPiece_26 : decode cX4_putsPiece 26 = .ok (.invokevirtual 62, 3) := by decide +kernel
theorem dX4_putsPiece_29 : decode cX4_putsPiece 29 = .ok (.iinc 2 1, 3) := by decide +kernel
theorem dX4_putsPiece_32 : decode cX4_putsPiece 32 = .ok (.goto (-30), 3) := by decide +kernel
theorem dX4_putsPiece_35 : decode cX4_putsPiece 35 = .ok (.return_, 1) := by decide +kernel
theorem dX4_piece_0 : decode cX4_piece 0 = .ok (.iload_n 1, 1) := by decide +kernel
theorem dX4_piece_1 : decode cX4_piece 1 = .ok (.iconst 0, 1) := by decide +kernel
theorem dX4_piece_2 : decode cX4_piece 2 = .ok (.aload_n 0, 1) := by decide +kernel
theorem dX4_piece_3 : decode cX4_piece 3 = .ok (.getfield 138, 3) := by decide +kernel
theorem dX4_piece_6 : decode cX4_piece 6 = .ok (.iconst 1, 1) := by decide +kernel
theorem dX4_piece_7 : decode cX4_piece 7 = .ok (.isub, 1) := by decide +kernel
theorem dX4_piece_8 : decode cX4_piece 8 = .ok (.invokestatic 46, 3) := by decide +kernel
theorem dX4_piece_11 : decode cX4_piece 11 = .ok (.ifCond .ne 6, 3) := by decide +kernel
theorem dX4_piece_14 : decode cX4_piece 14 = .ok (.ldc 87, 2) := by decide +kernel
theorem dX4_piece_16 : decode cX4_piece 16 = .ok (.ireturn, 1) := by decide +kernel
theorem dX4_piece_17 : decode cX4_piece 17 = .ok (.aload_n 0, 1) := by decide +kernel
theorem dX4_piece_18 : decode cX4_piece 18 = .ok (.invokevirtual 75, 3) := by decide +kernel
theorem dX4_piece_21 : decode cX4_piece 21 = .ok (.aload_n 0, 1) := by decide +kernel
theorem dX4_piece_22 : decode cX4_piece 22 = .ok (.iload_n 1, 1) := by decide +kernel
theorem dX4_piece_23 : decode cX4_piece 23 = .ok (.invokevirtual 148, 3) := by decide +kernel
theorem dX4_piece_26 : decode cX4_piece 26 = .ok (.aload_n 0, 1) := by decide +kernel
theorem dX4_piece_27 : decode cX4_piece 27 = .ok (.iload_n 2, 1) := by decide +kernel
theorem dX4_piece_28 : decode cX4_piece 28 = .ok (.invokevirtual 82, 3) := by decide +kernel
theorem dX4_piece_31 : decode cX4_piece 31 = .ok (.ireturn, 1) := by decide +kernel
theorem dX4_join_0 : decode cX4_join 0 = .ok (.iload_n 1, 1) := by decide +kernel
theorem dX4_join_1 : decode cX4_join 1 = .ok (.invokestatic 70, 3) := by decide +kernel
theorem dX4_join_4 : decode cX4_join 4 = .ok (.ifCond .ne 6, 3) := by decide +kernel
theorem dX4_join_7 : decode cX4_join 7 = .ok (.ldc 74, 2) := by decide +kernel
theorem dX4_join_9 : decode cX4_join 9 = .ok (.ireturn, 1) := by decide +kernel
theorem dX4_join_10 : decode cX4_join 10 = .ok (.aload_n 0, 1) := by decide +kernel
theorem dX4_join_11 : decode cX4_join 11 = .ok (.invokevirtual 75, 3) := by decide +kernel
theorem dX4_join_14 : decode cX4_join 14 = .ok (.iconst 0, 1) := by decide +kernel
theorem dX4_join_15 : decode cX4_join 15 = .ok (.istore_n 3, 1) := by decide +kernel
theorem dX4_join_16 : decode cX4_join 16 = .ok (.iload_n 3, 1) := by decide +kernel
theorem dX4_join_17 : decode cX4_join 17 = .ok (.aload_n 0, 1) := by decide +kernel
theorem dX4_join_18 : decode cX4_join 18 = .ok (.getfield 138, 3) := by decide +kernel
theorem dX4_join_21 : decode cX4_join 21 = .ok (.if_icmp .ge 23, 3) := by decide +kernel
theorem dX4_join_24 : decode cX4_join 24 = .ok (.iload_n 3, 1) := by decide +kernel
theorem dX4_join_25 : decode cX4_join 25 = .ok (.ifCond .le 8, 3) := by decide +kernel
theorem dX4_join_28 : decode cX4_join 28 = .ok (.aload_n 0, 1) := by decide +kernel
theorem dX4_join_29 : decode cX4_join 29 = .ok (.iload_n 1, 1) := by decide +kernel
theorem dX4_join_30 : decode cX4_join 30 = .ok (.invokevirtual 62, 3) := by decide +kernel
theorem dX4_join_33 : decode cX4_join 33 = .ok (.aload_n 0, 1) := by decide +kernel
theorem dX4_join_34 : decode cX4_join 34 = .ok (.iload_n 3, 1) := by decide +kernel
theorem dX4_join_35 : decode cX4_join 35 = .ok (.invokevirtual 148, 3) := by decide +kernel
theorem dX4_join_38 : decode cX4_join 38 = .ok (.iinc 3 1, 3) := by decide +kernel
theorem dX4_join_41 : decode cX4_join 41 = .ok (.goto (-25), 3) := by decide +kernel
theorem dX4_join_44 : decode cX4_join 44 = .ok (.aload_n 0, 1) := by decide +kernel
theorem dX4_join_45 : decode cX4_join 45 = .ok (.iload_n 2, 1) := by decide +kernel
theorem dX4_join_46 : decode cX4_join 46 = .ok (.invokevirtual 82, 3) := by decide +kernel
theorem dX4_join_49 : decode cX4_join 49 = .ok (.ireturn, 1) := by decide +kernel
theorem dX4_finds_0 : decode cX4_finds 0 = .ok (.iconst 0, 1) := by decide +kernel
theorem dX4_finds_1 : decode cX4_finds 1 = .ok (.istore_n 3, 1) := by decide +kernel
theorem dX4_finds_2 : decode cX4_finds 2 = .ok (.iconst 0, 1) := by decide +kernel
theorem dX4_finds_3 : decode cX4_finds 3 = .ok (.istore 4, 2) := by decide +kernel
theorem dX4_finds_5 : decode cX4_finds 5 = .ok (.iload 4, 2) := by decide +kernel
theorem dX4_finds_7 : decode cX4_finds 7 = .ok (.aload_n 0, 1) := by decide +kernel
theorem dX4_finds_8 : decode cX4_finds 8 = .ok (.iload_n 1, 1) := by decide +kernel
theorem dX4_finds_9 : decode cX4_finds 9 = .ok (.invokevirtual 67, 3) := by decide +kernel
theorem dX4_finds_12 : decode cX4_finds 12 = .ok (.if_icmp .ge 48, 3) := by decide +kernel
theorem dX4_finds_15 : decode cX4_finds 15 = .ok (.aload_n 0, 1) := by decide +kernel
theorem dX4_finds_16 : decode cX4_finds 16 = .ok (.iload_n 1, 1) := by decide +kernel
theorem dX4_finds_17 : decode cX4_finds 17 = .ok (.iload_n 2, 1) := by decide +kernel
theorem dX4_finds_18 : decode cX4_finds 18 = .ok (.iload 4, 2) := by decide +kernel
theorem dX4_finds_20 : decode cX4_finds 20 = .ok (.invokevirtual 111, 3) := by decide +kernel
theorem dX4_finds_23 : decode cX4_finds 23 = .ok (.istore 5, 2) := by decide +kernel
theorem dX4_finds_25 : decode cX4_finds 25 = .ok (.iload_n 3, 1) := by decide +kernel
theorem dX4_finds_26 : decode cX4_finds 26 = .ok (.iload 5, 2) := by decide +kernel
theorem dX4_finds_28 : decode cX4_finds 28 = .ok (.ifCond .eq 7, 3) := by decide +kernel
theorem dX4_finds_31 : decode cX4_finds 31 = .ok (.iconst 1, 1) := by decide +kernel
theorem dX4_finds_32 : decode cX4_finds 32 = .ok (.goto 4, 3) := by decide +kernel
theorem dX4_finds_35 : decode cX4_finds 35 = .ok (.iconst 0, 1) := by decide +kernel
theorem dX4_finds_36 : decode cX4_finds 36 = .ok (.iadd, 1) := by decide +kernel
theorem dX4_finds_37 : decode cX4_finds 37 = .ok (.istore_n 3, 1) := by decide +kernel
theorem dX4_finds_38 : decode cX4_finds 38 = .ok (.iload 4, 2) := by decide +kernel
theorem dX4_finds_40 : decode cX4_finds 40 = .ok (.iload 5, 2) := by decide +kernel
theorem dX4_finds_42 : decode cX4_finds 42 = .ok (.ifCond .eq 11, 3) := by decide +kernel
theorem dX4_finds_45 : decode cX4_finds 45 = .ok (.aload_n 0, 1) := by decide +kernel
theorem dX4_finds_46 : decode cX4_finds 46 = .ok (.iload_n 2, 1) := by decide +kernel
theorem dX4_finds_47 : decode cX4_finds 47 = .ok (.invokevirtual 67, 3) := by decide +kernel
theorem dX4_finds_50 : decode cX4_finds 50 = .ok (.goto 4, 3) := by decide +kernel
theorem dX4_finds_53 : decode cX4_finds 53 = .ok (.iconst 1, 1) := by decide +kernel
theorem dX4_finds_54 : decode cX4_finds 54 = .ok (.iadd, 1) := by decide +kernel
theorem dX4_finds_55 : decode cX4_finds 55 = .ok (.istore 4, 2) := by decide +kernel
theorem dX4_finds_57 : decode cX4_finds 57 = .ok (.goto (-52), 3) := by decide +kernel
theorem dX4_finds_60 : decode cX4_finds 60 = .ok (.iload_n 3, 1) := by decide +kernel
theorem dX4_finds_61 : decode cX4_finds 61 = .ok (.ireturn, 1) := by decide +kernel
theorem dX4_count_0 : decode cX4_count 0 = .ok (.aload_n 0, 1) := by decide +kernel
theorem dX4_count_1 : decode cX4_count 1 = .ok (.iload_n 2, 1) := by decide +kernel
theorem dX4_count_2 : decode cX4_count 2 = .ok (.invokevirtual 67, 3) := by decide +kernel
theorem dX4_count_5 : decode cX4_count 5 = .ok (.ifCond .ne 8, 3) := by decide +kernel
theorem dX4_count_8 : decode cX4_count 8 = .ok (.ldc 74, 2) := by decide +kernel
theorem dX4_count_10 : decode cX4_count 10 = .ok (.goto 9, 3) := by decide +kernel
theorem dX4_count_13 : decode cX4_count 13 = .ok (.aload_n 0, 1) := by decide +kernel
theorem dX4_count_14 : decode cX4_count 14 = .ok (.iload_n 1, 1) := by decide +kernel
theorem dX4_count_15 : decode cX4_count 15 = .ok (.iload_n 2, 1) := by decide +kernel
theorem dX4_count_16 : decode cX4_count 16 = .ok (.invokevirtual 151, 3) := by decide +kernel
theorem dX4_count_19 : decode cX4_count 19 = .ok (.ireturn, 1) := by decide +kernel
theorem dX4_head_0 : decode cX4_head 0 = .ok (.iconst 0, 1) := by decide +kernel
theorem dX4_head_1 : decode cX4_head 1 = .ok (.istore_n 3, 1) := by decide +kernel
theorem dX4_head_2 : decode cX4_head 2 = .ok (.iload_n 3, 1) := by decide +kernel
theorem dX4_head_3 : decode cX4_head 3 = .ok (.aload_n 0, 1) := by decide +kernel
theorem dX4_head_4 : decode cX4_head 4 = .ok (.iload_n 1, 1) := by decide +kernel
theorem dX4_head_5 : decode cX4_head 5 = .ok (.invokevirtual 67, 3) := by decide +kernel
theorem dX4_head_8 : decode cX4_head 8 = .ok (.if_icmp .ge 33, 3) := by decide +kernel
theorem dX4_head_11 : decode cX4_head 11 = .ok (.iload_n 3, 1) := by decide +kernel
theorem dX4_head_12 : decode cX4_head 12 = .ok (.aload_n 0, 1) := by decide +kernel
theorem dX4_head_13 : decode cX4_head 13 = .ok (.iload_n 2, 1) := by decide +kernel
theorem dX4_head_14 : decode cX4_head 14 = .ok (.invokevirtual 67, 3) := by decide +kernel
theorem dX4_head_17 : decode cX4_head 17 = .ok (.if_icmp .ge 24, 3) := by decide +kernel
theorem dX4_head_20 : decode cX4_head 20 = .ok (.aload_n 0, 1) := by decide +kernel
theorem dX4_head_21 : decode cX4_head 21 = .ok (.iload_n 1, 1) := by decide +kernel
theorem dX4_head_22 : decode cX4_head 22 = .ok (.iload_n 3, 1) := by decide +kernel
theorem dX4_head_23 : decode cX4_head 23 = .ok (.invokevirtual 58, 3) := by decide +kernel
theorem dX4_head_26 : decode cX4_head 26 = .ok (.aload_n 0, 1) := by decide +kernel
theorem dX4_head_27 : decode cX4_head 27 = .ok (.iload_n 2, 1) := by decide +kernel
theorem dX4_head_28 : decode cX4_head 28 = .ok (.iload_n 3, 1) := by decide +kernel
theorem dX4_head_29 : decode cX4_head 29 = .ok (.invokevirtual 58, 3) := by decide +kernel
theorem dX4_head_32 : decode cX4_head 32 = .ok (.if_icmp .ne 9, 3) := by decide +kernel
theorem dX4_head_35 : decode cX4_head 35 = .ok (.iinc 3 1, 3) := by decide +kernel
theorem dX4_head_38 : decode cX4_head 38 = .ok (.goto (-36), 3) := by decide +kernel
theorem dX4_head_41 : decode cX4_head 41 = .ok (.iload_n 3, 1) := by decide +kernel
theorem dX4_head_42 : decode cX4_head 42 = .ok (.ireturn, 1) := by decide +kernel
theorem dX4_foot_0 : decode cX4_foot 0 = .ok (.iconst 0, 1) := by decide +kernel
theorem dX4_foot_1 : decode cX4_foot 1 = .ok (.istore_n 3, 1) := by decide +kernel
theorem dX4_foot_2 : decode cX4_foot 2 = .ok (.iload_n 3, 1) := by decide +kernel
theorem dX4_foot_3 : decode cX4_foot 3 = .ok (.aload_n 0, 1) := by decide +kernel
theorem dX4_foot_4 : decode cX4_foot 4 = .ok (.iload_n 1, 1) := by decide +kernel
theorem dX4_foot_5 : decode cX4_foot 5 = .ok (.invokevirtual 67, 3) := by decide +kernel
theorem dX4_foot_8 : decode cX4_foot 8 = .ok (.if_icmp .ge 49, 3) := by decide +kernel
theorem dX4_foot_11 : decode cX4_foot 11 = .ok (.iload_n 3, 1) := by decide +kernel
theorem dX4_foot_12 : decode cX4_foot 12 = .ok (.aload_n 0, 1) := by decide +kernel
theorem dX4_foot_13 : decode cX4_foot 13 = .ok (.iload_n 2, 1) := by decide +kernel
theorem dX4_foot_14 : decode cX4_foot 14 = .ok (.invokevirtual 67, 3) := by decide +kernel
theorem dX4_foot_17 : decode cX4_foot 17 = .ok (.if_icmp .ge 40, 3) := by decide +kernel
theorem dX4_foot_20 : decode cX4_foot 20 = .ok (.aload_n 0, 1) := by decide +kernel
theorem dX4_foot_21 : decode cX4_foot 21 = .ok (.iload_n 1, 1) := by decide +kernel
theorem dX4_foot_22 : decode cX4_foot 22 = .ok (.aload_n 0, 1) := by decide +kernel
theorem dX4_foot_23 : decode cX4_foot 23 = .ok (.iload_n 1, 1) := by decide +kernel
theorem dX4_foot_24 : decode cX4_foot 24 = .ok (.invokevirtual 67, 3) := by decide +kernel
theorem dX4_foot_27 : decode cX4_foot 27 = .ok (.iconst 1, 1) := by decide +kernel
theorem dX4_foot_28 : decode cX4_foot 28 = .ok (.isub, 1) := by decide +kernel
theorem dX4_foot_29 : decode cX4_foot 29 = .ok (.iload_n 3, 1) := by decide +kernel
theorem dX4_foot_30 : decode cX4_foot 30 = .ok (.isub, 1) := by decide +kernel
theorem dX4_foot_31 : decode cX4_foot 31 = .ok (.invokevirtual 58, 3) := by decide +kernel
theorem dX4_foot_34 : decode cX4_foot 34 = .ok (.aload_n 0, 1) := by decide +kernel
theorem dX4_foot_35 : decode cX4_foot 35 = .ok (.iload_n 2, 1) := by decide +kernel
theorem dX4_foot_36 : decode cX4_foot 36 = .ok (.aload_n 0, 1) := by decide +kernel
theorem dX4_foot_37 : decode cX4_foot 37 = .ok (.iload_n 2, 1) := by decide +kernel
theorem dX4_foot_38 : decode cX4_foot 38 = .ok (.invokevirtual 67, 3) := by decide +kernel
theorem dX4_foot_41 : decode cX4_foot 41 = .ok (.iconst 1, 1) := by decide +kernel
theorem dX4_foot_42 : decode cX4_foot 42 = .ok (.isub, 1) := by decide +kernel
theorem dX4_foot_43 : decode cX4_foot 43 = .ok (.iload_n 3, 1) := by decide +kernel
theorem dX4_foot_44 : decode cX4_foot 44 = .ok (.isub, 1) := by decide +kernel
theorem dX4_foot_45 : decode cX4_foot 45 = .ok (.invokevirtual 58, 3) := by decide +kernel
theorem dX4_foot_48 : decode cX4_foot 48 = .ok (.if_icmp .ne 9, 3) := by decide +kernel
theorem dX4_foot_51 : decode cX4_foot 51 = .ok (.iinc 3 1, 3) := by decide +kernel
theorem dX4_foot_54 : decode cX4_foot 54 = .ok (.goto (-52), 3) := by decide +kernel
theorem dX4_foot_57 : decode cX4_foot 57 = .ok (.iload_n 3, 1) := by decide +kernel
theorem dX4_foot_58 : decode cX4_foot 58 = .ok (.ireturn, 1) := by decide +kernel
theorem dX4_arePlacesSo_0 : decode cX4_arePlacesSo 0 = .ok (.aload_n 0, 1) := by decide +kernel
theorem dX4_arePlacesSo_1 : decode cX4_arePlacesSo 1 = .ok (.iload_n 1, 1) := by decide +kernel
theorem dX4_arePlacesSo_2 : decode cX4_arePlacesSo 2 = .ok (.invokevirtual 67, 3) := by decide +kernel
theorem dX4_arePlacesSo_5 : decode cX4_arePlacesSo 5 = .ok (.istore 4, 2) := by decide +kernel
theorem dX4_arePlacesSo_7 : decode cX4_arePlacesSo 7 = .ok (.iload_n 3, 1) := by decide +kernel
theorem dX4_arePlacesSo_8 : decode cX4_arePlacesSo 8 = .ok (.ifCond .ge 7, 3) := by decide +kernel
theorem dX4_arePlacesSo_11 : decode cX4_arePlacesSo 11 = .ok (.iconst 0, 1) := by decide +kernel
theorem dX4_arePlacesSo_12 : decode cX4_arePlacesSo 12 = .ok (.goto 15, 3) := by decide +kernel
theorem dX4_arePlacesSo_15 : decode cX4_arePlacesSo 15 = .ok (.iload_n 3, 1) := by decide +kernel
theorem dX4_arePlacesSo_16 : decode cX4_arePlacesSo 16 = .ok (.iload 4, 2) := by decide +kernel
theorem dX4_arePlacesSo_18 : decode cX4_arePlacesSo 18 = .ok (.if_icmp .le 8, 3) := by decide +kernel
theorem dX4_arePlacesSo_21 : decode cX4_arePlacesSo 21 = .ok (.iload 4, 2) := by decide +kernel
theorem dX4_arePlacesSo_23 : decode cX4_arePlacesSo 23 = .ok (.goto 4, 3) := by decide +kernel
theorem dX4_arePlacesSo_26 : decode cX4_arePlacesSo 26 = .ok (.iload_n 3, 1) := by decide +kernel
theorem dX4_arePlacesSo_27 : decode cX4_arePlacesSo 27 = .ok (.istore 5, 2) := by decide +kernel
theorem dX4_arePlacesSo_29 : decode cX4_arePlacesSo 29 = .ok (.iconst (-1), 1) := by decide +kernel
theorem dX4_arePlacesSo_30 : decode cX4_arePlacesSo 30 = .ok (.istore 6, 2) := by decide +kernel
theorem dX4_arePlacesSo_32 : decode cX4_arePlacesSo 32 = .ok (.iconst (-1), 1) := by decide +kernel
theorem dX4_arePlacesSo_33 : decode cX4_arePlacesSo 33 = .ok (.istore 7, 2) := by decide +kernel
theorem dX4_arePlacesSo_35 : decode cX4_arePlacesSo 35 = .ok (.iconst 0, 1) := by decide +kernel
theorem dX4_arePlacesSo_36 : decode cX4_arePlacesSo 36 = .ok (.istore 8, 2) := by decide +kernel
theorem dX4_arePlacesSo_38 : decode cX4_arePlacesSo 38 = .ok (.iload 8, 2) := by decide +kernel
theorem dX4_arePlacesSo_40 : decode cX4_arePlacesSo 40 = .ok (.iload 4, 2) := by decide +kernel
theorem dX4_arePlacesSo_42 : decode cX4_arePlacesSo 42 = .ok (.if_icmp .gt 66, 3) := by decide +kernel
theorem dX4_arePlacesSo_45 : decode cX4_arePlacesSo 45 = .ok (.aload_n 0, 1) := by decide +kernel
theorem dX4_arePlacesSo_46 : decode cX4_arePlacesSo 46 = .ok (.iload_n 1, 1) := by decide +kernel
theorem dX4_arePlacesSo_47 : decode cX4_arePlacesSo 47 = .ok (.iload_n 2, 1) := by decide +kernel
theorem dX4_arePlacesSo_48 : decode cX4_arePlacesSo 48 = .ok (.iload 8, 2) := by decide +kernel
theorem dX4_arePlacesSo_50 : decode cX4_arePlacesSo 50 = .ok (.invokevirtual 111, 3) := by decide +kernel
theorem dX4_arePlacesSo_53 : decode cX4_arePlacesSo 53 = .ok (.istore 9, 2) := by decide +kernel
theorem dX4_arePlacesSo_55 : decode cX4_arePlacesSo 55 = .ok (.iload 9, 2) := by decide +kernel
theorem dX4_arePlacesSo_57 : decode cX4_arePlacesSo 57 = .ok (.ifCond .eq 21, 3) := by decide +kernel
theorem dX4_arePlacesSo_60 : decode cX4_arePlacesSo 60 = .ok (.iload 8, 2) := by decide +kernel
theorem dX4_arePlacesSo_62 : decode cX4_arePlacesSo 62 = .ok (.iload 5, 2) := by decide +kernel
theorem dX4_arePlacesSo_64 : decode cX4_arePlacesSo 64 = .ok (.if_icmp .lt 14, 3) := by decide +kernel
theorem dX4_arePlacesSo_67 : decode cX4_arePlacesSo 67 = .ok (.iload 6, 2) := by decide +kernel
theorem dX4_arePlacesSo_69 : decode cX4_arePlacesSo 69 = .ok (.iconst (-1), 1) := by decide +kernel
theorem dX4_arePlacesSo_70 : decode cX4_arePlacesSo 70 = .ok (.if_icmp .ne 8, 3) := by decide +kernel
theorem dX4_arePlacesSo_73 : decode cX4_arePlacesSo 73 = .ok (.iload 8, 2) := by decide +kernel
theorem dX4_arePlacesSo_75 : decode cX4_arePlacesSo 75 = .ok (.goto 5, 3) := by decide +kernel
theorem dX4_arePlacesSo_78 : decode cX4_arePlacesSo 78 = .ok (.iload 6, 2) := by decide +kernel
theorem dX4_arePlacesSo_80 : decode cX4_arePlacesSo 80 = .ok (.istore 6, 2) := by decide +kernel
theorem dX4_arePlacesSo_82 : decode cX4_arePlacesSo 82 = .ok (.iload 9, 2) := by decide +kernel
theorem dX4_arePlacesSo_84 : decode cX4_arePlacesSo 84 = .ok (.ifCond .eq 14, 3) := by decide +kernel
theorem dX4_arePlacesSo_87 : decode cX4_arePlacesSo 87 = .ok (.iload 8, 2) := by decide +kernel
theorem dX4_arePlacesSo_89 : decode cX4_arePlacesSo 89 = .ok (.iload_n 3, 1) := by decide +kernel
theorem dX4_arePlacesSo_90 : decode cX4_arePlacesSo 90 = .ok (.if_icmp .gt 8, 3) := by decide +kernel
theorem dX4_arePlacesSo_93 : decode cX4_arePlacesSo 93 = .ok (.iload 8, 2) := by decide +kernel
theorem dX4_arePlacesSo_95 : decode cX4_arePlacesSo 95 = .ok (.goto 5, 3) := by decide +kernel
theorem dX4_arePlacesSo_98 : decode cX4_arePlacesSo 98 = .ok (.iload 7, 2) := by decide +kernel
theorem dX4_arePlacesSo_100 : decode cX4_arePlacesSo 100 = .ok (.istore 7, 2) := by decide +kernel
theorem dX4_arePlacesSo_102 : decode cX4_arePlacesSo 102 = .ok (.iinc 8 1, 3) := by decide +kernel
theorem dX4_arePlacesSo_105 : decode cX4_arePlacesSo 105 = .ok (.goto (-67), 3) := by decide +kernel
theorem dX4_arePlacesSo_108 : decode cX4_arePlacesSo 108 = .ok (.aload_n 0, 1) := by decide +kernel
theorem dX4_arePlacesSo_109 : decode cX4_arePlacesSo 109 = .ok (.iload_n 1, 1) := by decide +kernel
theorem dX4_arePlacesSo_110 : decode cX4_arePlacesSo 110 = .ok (.iload_n 2, 1) := by decide +kernel
theorem dX4_arePlacesSo_111 : decode cX4_arePlacesSo 111 = .ok (.iload_n 3, 1) := by decide +kernel
theorem dX4_arePlacesSo_112 : decode cX4_arePlacesSo 112 = .ok (.invokevirtual 108, 3) := by decide +kernel
theorem dX4_arePlacesSo_115 : decode cX4_arePlacesSo 115 = .ok (.iload 6, 2) := by decide +kernel
theorem dX4_arePlacesSo_117 : decode cX4_arePlacesSo 117 = .ok (.if_icmp .ne 19, 3) := by decide +kernel
theorem dX4_arePlacesSo_120 : decode cX4_arePlacesSo 120 = .ok (.aload_n 0, 1) := by decide +kernel
theorem dX4_arePlacesSo_121 : decode cX4_arePlacesSo 121 = .ok (.iload_n 1, 1) := by decide +kernel
theorem dX4_arePlacesSo_122 : decode cX4_arePlacesSo 122 = .ok (.iload_n 2, 1) := by decide +kernel
theorem dX4_arePlacesSo_123 : decode cX4_arePlacesSo 123 = .ok (.iload_n 3, 1) := by decide +kernel
theorem dX4_arePlacesSo_124 : decode cX4_arePlacesSo 124 = .ok (.invokevirtual 114, 3) := by decide +kernel
theorem dX4_arePlacesSo_127 : decode cX4_arePlacesSo 127 = .ok (.iload 7, 2) := by decide +kernel
theorem dX4_arePlacesSo_129 : decode cX4_arePlacesSo 129 = .ok (.if_icmp .ne 7, 3) := by decide +kernel
theorem dX4_arePlacesSo_132 : decode cX4_arePlacesSo 132 = .ok (.iconst 1, 1) := by decide +kernel
theorem dX4_arePlacesSo_133 : decode cX4_arePlacesSo 133 = .ok (.goto 4, 3) := by decide +kernel
theorem dX4_arePlacesSo_136 : decode cX4_arePlacesSo 136 = .ok (.iconst 0, 1) := by decide +kernel
theorem dX4_arePlacesSo_137 : decode cX4_arePlacesSo 137 = .ok (.ireturn, 1) := by decide +kernel
theorem dX4_isOrderSo_0 : decode cX4_isOrderSo 0 = .ok (.aload_n 0, 1) := by decide +kernel
theorem dX4_isOrderSo_1 : decode cX4_isOrderSo 1 = .ok (.iload_n 1, 1) := by decide +kernel
theorem dX4_isOrderSo_2 : decode cX4_isOrderSo 2 = .ok (.iload_n 2, 1) := by decide +kernel
theorem dX4_isOrderSo_3 : decode cX4_isOrderSo 3 = .ok (.invokevirtual 154, 3) := by decide +kernel
theorem dX4_isOrderSo_6 : decode cX4_isOrderSo 6 = .ok (.istore_n 3, 1) := by decide +kernel
theorem dX4_isOrderSo_7 : decode cX4_isOrderSo 7 = .ok (.aload_n 0, 1) := by decide +kernel
theorem dX4_isOrderSo_8 : decode cX4_isOrderSo 8 = .ok (.iload_n 1, 1) := by decide +kernel
theorem dX4_isOrderSo_9 : decode cX4_isOrderSo 9 = .ok (.iload_n 2, 1) := by decide +kernel
theorem dX4_isOrderSo_10 : decode cX4_isOrderSo 10 = .ok (.invokevirtual 157, 3) := by decide +kernel
theorem dX4_isOrderSo_13 : decode cX4_isOrderSo 13 = .ok (.istore 4, 2) := by decide +kernel
theorem dX4_isOrderSo_15 : decode cX4_isOrderSo 15 = .ok (.iload 4, 2) := by decide +kernel
theorem dX4_isOrderSo_17 : decode cX4_isOrderSo 17 = .ok (.aload_n 0, 1) := by decide +kernel
theorem dX4_isOrderSo_18 : decode cX4_isOrderSo 18 = .ok (.iload_n 1, 1) := by decide +kernel
theorem dX4_isOrderSo_19 : decode cX4_isOrderSo 19 = .ok (.invokevirtual 67, 3) := by decide +kernel
theorem dX4_isOrderSo_22 : decode cX4_isOrderSo 22 = .ok (.if_icmp .eq 13, 3) := by decide +kernel
theorem dX4_isOrderSo_25 : decode cX4_isOrderSo 25 = .ok (.iload 4, 2) := by decide +kernel
theorem dX4_isOrderSo_27 : decode cX4_isOrderSo 27 = .ok (.aload_n 0, 1) := by decide +kernel
theorem dX4_isOrderSo_28 : decode cX4_isOrderSo 28 = .ok (.iload_n 2, 1) := by decide +kernel
theorem dX4_isOrderSo_29 : decode cX4_isOrderSo 29 = .ok (.invokevirtual 67, 3) := by decide +kernel
theorem dX4_isOrderSo_32 : decode cX4_isOrderSo 32 = .ok (.if_icmp .ne 7, 3) := by decide +kernel
theorem dX4_isOrderSo_35 : decode cX4_isOrderSo 35 = .ok (.iconst 1, 1) := by decide +kernel
theorem dX4_isOrderSo_36 : decode cX4_isOrderSo 36 = .ok (.goto 4, 3) := by decide +kernel
theorem dX4_isOrderSo_39 : decode cX4_isOrderSo 39 = .ok (.iconst 0, 1) := by decide +kernel
theorem dX4_isOrderSo_40 : decode cX4_isOrderSo 40 = .ok (.istore 5, 2) := by decide +kernel
theorem dX4_isOrderSo_42 : decode cX4_isOrderSo 42 = .ok (.iload 5, 2) := by decide +kernel
theorem dX4_isOrderSo_44 : decode cX4_isOrderSo 44 = .ok (.ifCond .eq 17, 3) := by decide +kernel
theorem dX4_isOrderSo_47 : decode cX4_isOrderSo 47 = .ok (.aload_n 0, 1) := by decide +kernel
theorem dX4_isOrderSo_48 : decode cX4_isOrderSo 48 = .ok (.iload_n 1, 1) := by decide +kernel
theorem dX4_isOrderSo_49 : decode cX4_isOrderSo 49 = .ok (.invokevirtual 67, 3) := by decide +kernel
theorem dX4_isOrderSo_52 : decode cX4_isOrderSo 52 = .ok (.aload_n 0, 1) := by decide +kernel
theorem dX4_isOrderSo_53 : decode cX4_isOrderSo 53 = .ok (.iload_n 2, 1) := by decide +kernel
theorem dX4_isOrderSo_54 : decode cX4_isOrderSo 54 = .ok (.invokevirtual 67, 3) := by decide +kernel
theorem dX4_isOrderSo_57 : decode cX4_isOrderSo 57 = .ok (.isub, 1) := by decide +kernel
theorem dX4_isOrderSo_58 : decode cX4_isOrderSo 58 = .ok (.goto 18, 3) := by decide +kernel
theorem dX4_isOrderSo_61 : decode cX4_isOrderSo 61 = .ok (.aload_n 0, 1) := by decide +kernel
theorem dX4_isOrderSo_62 : decode cX4_isOrderSo 62 = .ok (.iload_n 1, 1) := by decide +kernel
theorem dX4_isOrderSo_63 : decode cX4_isOrderSo 63 = .ok (.iload 4, 2) := by decide +kernel
theorem dX4_isOrderSo_65 : decode cX4_isOrderSo 65 = .ok (.invokevirtual 58, 3) := by decide +kernel
theorem dX4_isOrderSo_68 : decode cX4_isOrderSo 68 = .ok (.aload_n 0, 1) := by decide +kernel
theorem dX4_isOrderSo_69 : decode cX4_isOrderSo 69 = .ok (.iload_n 2, 1) := by decide +kernel
theorem dX4_isOrderSo_70 : decode cX4_isOrderSo 70 = .ok (.iload 4, 2) := by decide +kernel
theorem dX4_isOrderSo_72 : decode cX4_isOrderSo 72 = .ok (.invokevirtual 58, 3) := by decide +kernel
theorem dX4_isOrderSo_75 : decode cX4_isOrderSo 75 = .ok (.isub, 1) := by decide +kernel
theorem dX4_isOrderSo_76 : decode cX4_isOrderSo 76 = .ok (.istore 6, 2) := by decide +kernel
theorem dX4_isOrderSo_78 : decode cX4_isOrderSo 78 = .ok (.iload_n 3, 1) := by decide +kernel
theorem dX4_isOrderSo_79 : decode cX4_isOrderSo 79 = .ok (.iload 6, 2) := by decide +kernel
theorem dX4_isOrderSo_81 : decode cX4_isOrderSo 81 = .ok (.if_icmp .ne 36, 3) := by decide +kernel
theorem dX4_isOrderSo_84 : decode cX4_isOrderSo 84 = .ok (.aload_n 0, 1) := by decide +kernel
theorem dX4_isOrderSo_85 : decode cX4_isOrderSo 85 = .ok (.iload_n 2, 1) := by decide +kernel
theorem dX4_isOrderSo_86 : decode cX4_isOrderSo 86 = .ok (.iload_n 1, 1) := by decide +kernel
theorem dX4_isOrderSo_87 : decode cX4_isOrderSo 87 = .ok (.invokevirtual 154, 3) := by decide +kernel
theorem dX4_isOrderSo_90 : decode cX4_isOrderSo 90 = .ok (.iload_n 3, 1) := by decide +kernel
theorem dX4_isOrderSo_91 : decode cX4_isOrderSo 91 = .ok (.ineg, 1) := by decide +kernel
theorem dX4_isOrderSo_92 : decode cX4_isOrderSo 92 = .ok (.if_icmp .ne 25, 3) := by decide +kernel
theorem dX4_isOrderSo_95 : decode cX4_isOrderSo 95 = .ok (.iload_n 3, 1) := by decide +kernel
theorem dX4_isOrderSo_96 : decode cX4_isOrderSo 96 = .ok (.ifCond .ne 7, 3) := by decide +kernel
theorem dX4_isOrderSo_99 : decode cX4_isOrderSo 99 = .ok (.iconst 1, 1) := by decide +kernel
theorem dX4_isOrderSo_100 : decode cX4_isOrderSo 100 = .ok (.goto 4, 3) := by decide +kernel
theorem dX4_isOrderSo_103 : decode cX4_isOrderSo 103 = .ok (.iconst 0, 1) := by decide +kernel
theorem dX4_isOrderSo_104 : decode cX4_isOrderSo 104 = .ok (.aload_n 0, 1) := by decide +kernel
theorem dX4_isOrderSo_105 : decode cX4_isOrderSo 105 = .ok (.iload_n 1, 1) := by decide +kernel
theorem dX4_isOrderSo_106 : decode cX4_isOrderSo 106 = .ok (.iload_n 2, 1) := by decide +kernel
theorem dX4_isOrderSo_107 : decode cX4_isOrderSo 107 = .ok (.invokevirtual 160, 3) := by decide +kernel
theorem dX4_isOrderSo_110 : decode cX4_isOrderSo 110 = .ok (.if_icmp .ne 7, 3) := by decide +kernel
theorem dX4_isOrderSo_113 : decode cX4_isOrderSo 113 = .ok (.iconst 1, 1) := by decide +kernel
theorem dX4_isOrderSo_114 : decode cX4_isOrderSo 114 = .ok (.goto 4, 3) := by decide +kernel
theorem dX4_isOrderSo_117 : decode cX4_isOrderSo 117 = .ok (.iconst 0, 1) := by decide +kernel
theorem dX4_isOrderSo_118 : decode cX4_isOrderSo 118 = .ok (.ireturn, 1) := by decide +kernel
theorem dX4_areFindsSo_0 : decode cX4_areFindsSo 0 = .ok (.iconst 0, 1) := by decide +kernel
theorem dX4_areFindsSo_1 : decode cX4_areFindsSo 1 = .ok (.istore_n 3, 1) := by decide +kernel
theorem dX4_areFindsSo_2 : decode cX4_areFindsSo 2 = .ok (.iconst 0, 1) := by decide +kernel
theorem dX4_areFindsSo_3 : decode cX4_areFindsSo 3 = .ok (.istore 4, 2) := by decide +kernel
theorem dX4_areFindsSo_5 : decode cX4_areFindsSo 5 = .ok (.aload_n 0, 1) := by decide +kernel
theorem dX4_areFindsSo_6 : decode cX4_areFindsSo 6 = .ok (.iload_n 2, 1) := by decide +kernel
theorem dX4_areFindsSo_7 : decode cX4_areFindsSo 7 = .ok (.invokevirtual 67, 3) := by decide +kernel
theorem dX4_areFindsSo_10 : decode cX4_areFindsSo 10 = .ok (.ifCond .ne 7, 3) := by decide +kernel
theorem dX4_areFindsSo_13 : decode cX4_areFindsSo 13 = .ok (.iconst (-1), 1) := by decide +kernel
theorem dX4_areFindsSo_14 : decode cX4_areFindsSo 14 = .ok (.goto 9, 3) := by decide +kernel
theorem dX4_areFindsSo_17 : decode cX4_areFindsSo 17 = .ok (.aload_n 0, 1) := by decide +kernel
theorem dX4_areFindsSo_18 : decode cX4_areFindsSo 18 = .ok (.iload_n 1, 1) := by decide +kernel
theorem dX4_areFindsSo_19 : decode cX4_areFindsSo 19 = .ok (.iload_n 2, 1) := by decide +kernel
theorem dX4_areFindsSo_20 : decode cX4_areFindsSo 20 = .ok (.invokevirtual 117, 3) := by decide +kernel
theorem dX4_areFindsSo_23 : decode cX4_areFindsSo 23 = .ok (.istore 5, 2) := by decide +kernel
theorem dX4_areFindsSo_25 : decode cX4_areFindsSo 25 = .ok (.iload 5, 2) := by decide +kernel
theorem dX4_areFindsSo_27 : decode cX4_areFindsSo 27 = .ok (.iconst (-1), 1) := by decide +kernel
theorem dX4_areFindsSo_28 : decode cX4_areFindsSo 28 = .ok (.if_icmp .eq 40, 3) := by decide +kernel
theorem dX4_areFindsSo_31 : decode cX4_areFindsSo 31 = .ok (.iload_n 3, 1) := by decide +kernel
theorem dX4_areFindsSo_32 : decode cX4_areFindsSo 32 = .ok (.iload 5, 2) := by decide +kernel
theorem dX4_areFindsSo_34 : decode cX4_areFindsSo 34 = .ok (.iload 4, 2) := by decide +kernel
theorem dX4_areFindsSo_36 : decode cX4_areFindsSo 36 = .ok (.isub, 1) := by decide +kernel
theorem dX4_areFindsSo_37 : decode cX4_areFindsSo 37 = .ok (.aload_n 0, 1) := by decide +kernel
theorem dX4_areFindsSo_38 : decode cX4_areFindsSo 38 = .ok (.iload_n 2, 1) := by decide +kernel
theorem dX4_areFindsSo_39 : decode cX4_areFindsSo 39 = .ok (.invokevirtual 67, 3) := by decide +kernel
theorem dX4_areFindsSo_42 : decode cX4_areFindsSo 42 = .ok (.iadd, 1) := by decide +kernel
theorem dX4_areFindsSo_43 : decode cX4_areFindsSo 43 = .ok (.iadd, 1) := by decide +kernel
theorem dX4_areFindsSo_44 : decode cX4_areFindsSo 44 = .ok (.istore_n 3, 1) := by decide +kernel
theorem dX4_areFindsSo_45 : decode cX4_areFindsSo 45 = .ok (.iload 5, 2) := by decide +kernel
theorem dX4_areFindsSo_47 : decode cX4_areFindsSo 47 = .ok (.aload_n 0, 1) := by decide +kernel
theorem dX4_areFindsSo_48 : decode cX4_areFindsSo 48 = .ok (.iload_n 2, 1) := by decide +kernel
theorem dX4_areFindsSo_49 : decode cX4_areFindsSo 49 = .ok (.invokevirtual 67, 3) := by decide +kernel
theorem dX4_areFindsSo_52 : decode cX4_areFindsSo 52 = .ok (.iadd, 1) := by decide +kernel
theorem dX4_areFindsSo_53 : decode cX4_areFindsSo 53 = .ok (.istore 4, 2) := by decide +kernel
theorem dX4_areFindsSo_55 : decode cX4_areFindsSo 55 = .ok (.aload_n 0, 1) := by decide +kernel
theorem dX4_areFindsSo_56 : decode cX4_areFindsSo 56 = .ok (.iload_n 1, 1) := by decide +kernel
theorem dX4_areFindsSo_57 : decode cX4_areFindsSo 57 = .ok (.iload_n 2, 1) := by decide +kernel
theorem dX4_areFindsSo_58 : decode cX4_areFindsSo 58 = .ok (.iload 4, 2) := by decide +kernel
theorem dX4_areFindsSo_60 : decode cX4_areFindsSo 60 = .ok (.invokevirtual 108, 3) := by decide +kernel
theorem dX4_areFindsSo_63 : decode cX4_areFindsSo 63 = .ok (.istore 5, 2) := by decide +kernel
theorem dX4_areFindsSo_65 : decode cX4_areFindsSo 65 = .ok (.goto (-40), 3) := by decide +kernel
theorem dX4_areFindsSo_68 : decode cX4_areFindsSo 68 = .ok (.iload_n 3, 1) := by decide +kernel
theorem dX4_areFindsSo_69 : decode cX4_areFindsSo 69 = .ok (.aload_n 0, 1) := by decide +kernel
theorem dX4_areFindsSo_70 : decode cX4_areFindsSo 70 = .ok (.iload_n 1, 1) := by decide +kernel
theorem dX4_areFindsSo_71 : decode cX4_areFindsSo 71 = .ok (.invokevirtual 67, 3) := by decide +kernel
theorem dX4_areFindsSo_74 : decode cX4_areFindsSo 74 = .ok (.iload 4, 2) := by decide +kernel
theorem dX4_areFindsSo_76 : decode cX4_areFindsSo 76 = .ok (.isub, 1) := by decide +kernel
theorem dX4_areFindsSo_77 : decode cX4_areFindsSo 77 = .ok (.iadd, 1) := by decide +kernel
theorem dX4_areFindsSo_78 : decode cX4_areFindsSo 78 = .ok (.istore_n 3, 1) := by decide +kernel
theorem dX4_areFindsSo_79 : decode cX4_areFindsSo 79 = .ok (.iload_n 3, 1) := by decide +kernel
theorem dX4_areFindsSo_80 : decode cX4_areFindsSo 80 = .ok (.aload_n 0, 1) := by decide +kernel
theorem dX4_areFindsSo_81 : decode cX4_areFindsSo 81 = .ok (.iload_n 1, 1) := by decide +kernel
theorem dX4_areFindsSo_82 : decode cX4_areFindsSo 82 = .ok (.invokevirtual 67, 3) := by decide +kernel
theorem dX4_areFindsSo_85 : decode cX4_areFindsSo 85 = .ok (.if_icmp .ne 7, 3) := by decide +kernel
theorem dX4_areFindsSo_88 : decode cX4_areFindsSo 88 = .ok (.iconst 1, 1) := by decide +kernel
theorem dX4_areFindsSo_89 : decode cX4_areFindsSo 89 = .ok (.goto 4, 3) := by decide +kernel
theorem dX4_areFindsSo_92 : decode cX4_areFindsSo 92 = .ok (.iconst 0, 1) := by decide +kernel
theorem dX4_areFindsSo_93 : decode cX4_areFindsSo 93 = .ok (.ireturn, 1) := by decide +kernel
theorem dX4_arePiecesSo_0 : decode cX4_arePiecesSo 0 = .ok (.iconst 0, 1) := by decide +kernel
theorem dX4_arePiecesSo_1 : decode cX4_arePiecesSo 1 = .ok (.istore_n 2, 1) := by decide +kernel
theorem dX4_arePiecesSo_2 : decode cX4_arePiecesSo 2 = .ok (.iconst 0, 1) := by decide +kernel
theorem dX4_arePiecesSo_3 : decode cX4_arePiecesSo 3 = .ok (.istore_n 3, 1) := by decide +kernel
theorem dX4_arePiecesSo_4 : decode cX4_arePiecesSo 4 = .ok (.iconst 0, 1) := by decide +kernel
theorem dX4_arePiecesSo_5 : decode cX4_arePiecesSo 5 = .ok (.istore 4, 2) := by decide +kernel
theorem dX4_arePiecesSo_7 : decode cX4_arePiecesSo 7 = .ok (.iload 4, 2) := by decide +kernel
theorem dX4_arePiecesSo_9 : decode cX4_arePiecesSo 9 = .ok (.aload_n 0, 1) := by decide +kernel
theorem dX4_arePiecesSo_10 : decode cX4_arePiecesSo 10 = .ok (.iload_n 1, 1) := by decide +kernel
theorem dX4_arePiecesSo_11 : decode cX4_arePiecesSo 11 = .ok (.invokevirtual 67, 3) := by decide +kernel
theorem dX4_arePiecesSo_14 : decode cX4_arePiecesSo 14 = .ok (.if_icmp .ge 49, 3) := by decide +kernel
theorem dX4_arePiecesSo_17 : decode cX4_arePiecesSo 17 = .ok (.iload_n 2, 1) := by decide +kernel
theorem dX4_arePiecesSo_18 : decode cX4_arePiecesSo 18 = .ok (.aload_n 0, 1) := by decide +kernel
theorem dX4_arePiecesSo_19 : decode cX4_arePiecesSo 19 = .ok (.iload_n 1, 1) := by decide +kernel
theorem dX4_arePiecesSo_20 : decode cX4_arePiecesSo 20 = .ok (.iload 4, 2) := by decide +kernel
theorem dX4_arePiecesSo_22 : decode cX4_arePiecesSo 22 = .ok (.invokevirtual 58, 3) := by decide +kernel
theorem dX4_arePiecesSo_25 : decode cX4_arePiecesSo 25 = .ok (.bipush 44, 2) := by decide +kernel
theorem dX4_arePiecesSo_27 : decode cX4_arePiecesSo 27 = .ok (.if_icmp .ne 7, 3) := by decide +kernel
theorem dX4_arePiecesSo_30 : decode cX4_arePiecesSo 30 = .ok (.iconst 1, 1) := by decide +kernel
theorem dX4_arePiecesSo_31 : decode cX4_arePiecesSo 31 = .ok (.goto 4, 3) := by decide +kernel
theorem dX4_arePiecesSo_34 : decode cX4_arePiecesSo 34 = .ok (.iconst 0, 1) := by decide +kernel
theorem dX4_arePiecesSo_35 : decode cX4_arePiecesSo 35 = .ok (.iadd, 1) := by decide +kernel
theorem dX4_arePiecesSo_36 : decode cX4_arePiecesSo 36 = .ok (.istore_n 2, 1) := by decide +kernel
theorem dX4_arePiecesSo_37 : decode cX4_arePiecesSo 37 = .ok (.iload_n 3, 1) := by decide +kernel
theorem dX4_arePiecesSo_38 : decode cX4_arePiecesSo 38 = .ok (.aload_n 0, 1) := by decide +kernel
theorem dX4_arePiecesSo_39 : decode cX4_arePiecesSo 39 = .ok (.iload_n 1, 1) := by decide +kernel
theorem dX4_arePiecesSo_40 : decode cX4_arePiecesSo 40 = .ok (.iload 4, 2) := by decide +kernel
theorem dX4_arePiecesSo_42 : decode cX4_arePiecesSo 42 = .ok (.invokevirtual 58, 3) := by decide +kernel
theorem dX4_arePiecesSo_45 : decode cX4_arePiecesSo 45 = .ok (.bipush 44, 2) := by decide +kernel
theorem dX4_arePiecesSo_47 : decode cX4_arePiecesSo 47 = .ok (.if_icmp .ne 7, 3) := by decide +kernel
theorem dX4_arePiecesSo_50 : decode cX4_arePiecesSo 50 = .ok (.iconst 0, 1) := by decide +kernel
theorem dX4_arePiecesSo_51 : decode cX4_arePiecesSo 51 = .ok (.goto 4, 3) := by decide +kernel
theorem dX4_arePiecesSo_54 : decode cX4_arePiecesSo 54 = .ok (.iconst 1, 1) := by decide +kernel
theorem dX4_arePiecesSo_55 : decode cX4_arePiecesSo 55 = .ok (.iadd, 1) := by decide +kernel
theorem dX4_arePiecesSo_56 : decode cX4_arePiecesSo 56 = .ok (.istore_n 3, 1) := by decide +kernel
theorem dX4_arePiecesSo_57 : decode cX4_arePiecesSo 57 = .ok (.iinc 4 1, 3) := by decide +kernel
theorem dX4_arePiecesSo_60 : decode cX4_arePiecesSo 60 = .ok (.goto (-53), 3) := by decide +kernel
theorem dX4_arePiecesSo_63 : decode cX4_arePiecesSo 63 = .ok (.iload_n 2, 1) := by decide +kernel
theorem dX4_arePiecesSo_64 : decode cX4_arePiecesSo 64 = .ok (.iload_n 3, 1) := by decide +kernel
theorem dX4_arePiecesSo_65 : decode cX4_arePiecesSo 65 = .ok (.iadd, 1) := by decide +kernel
theorem dX4_arePiecesSo_66 : decode cX4_arePiecesSo 66 = .ok (.aload_n 0, 1) := by decide +kernel
theorem dX4_arePiecesSo_67 : decode cX4_arePiecesSo 67 = .ok (.iload_n 1, 1) := by decide +kernel
theorem dX4_arePiecesSo_68 : decode cX4_arePiecesSo 68 = .ok (.invokevirtual 67, 3) := by decide +kernel
theorem dX4_arePiecesSo_71 : decode cX4_arePiecesSo 71 = .ok (.if_icmp .ne 7, 3) := by decide +kernel
theorem dX4_arePiecesSo_74 : decode cX4_arePiecesSo 74 = .ok (.iconst 1, 1) := by decide +kernel
theorem dX4_arePiecesSo_75 : decode cX4_arePiecesSo 75 = .ok (.goto 4, 3) := by decide +kernel
theorem dX4_arePiecesSo_78 : decode cX4_arePiecesSo 78 = .ok (.iconst 0, 1) := by decide +kernel
theorem dX4_arePiecesSo_79 : decode cX4_arePiecesSo 79 = .ok (.ireturn, 1) := by decide +kernel
theorem dX4_holds_0 : decode cX4_holds 0 = .ok (.aload_n 0, 1) := by decide +kernel
theorem dX4_holds_1 : decode cX4_holds 1 = .ok (.iload_n 1, 1) := by decide +kernel
theorem dX4_holds_2 : decode cX4_holds 2 = .ok (.iload_n 2, 1) := by decide +kernel
theorem dX4_holds_3 : decode cX4_holds 3 = .ok (.iload_n 3, 1) := by decide +kernel
theorem dX4_holds_4 : decode cX4_holds 4 = .ok (.invokevirtual 164, 3) := by decide +kernel
theorem dX4_holds_7 : decode cX4_holds 7 = .ok (.ifCond .eq 33, 3) := by decide +kernel
theorem dX4_holds_10 : decode cX4_holds 10 = .ok (.aload_n 0, 1) := by decide +kernel
theorem dX4_holds_11 : decode cX4_holds 11 = .ok (.iload_n 1, 1) := by decide +kernel
theorem dX4_holds_12 : decode cX4_holds 12 = .ok (.iload_n 2, 1) := by decide +kernel
theorem dX4_holds_13 : decode cX4_holds 13 = .ok (.invokevirtual 167, 3) := by decide +kernel
theorem dX4_holds_16 : decode cX4_holds 16 = .ok (.ifCond .eq 24, 3) := by decide +kernel
theorem dX4_holds_19 : decode cX4_holds 19 = .ok (.aload_n 0, 1) := by decide +kernel
theorem dX4_holds_20 : decode cX4_holds 20 = .ok (.iload_n 1, 1) := by decide +kernel
theorem dX4_holds_21 : decode cX4_holds 21 = .ok (.iload_n 2, 1) := by decide +kernel
theorem dX4_holds_22 : decode cX4_holds 22 = .ok (.invokevirtual 170, 3) := by decide +kernel
theorem dX4_holds_25 : decode cX4_holds 25 = .ok (.ifCond .eq 15, 3) := by decide +kernel
theorem dX4_holds_28 : decode cX4_holds 28 = .ok (.aload_n 0, 1) := by decide +kernel
theorem dX4_holds_29 : decode cX4_holds 29 = .ok (.iload_n 1, 1) := by decide +kernel
theorem dX4_holds_30 : decode cX4_holds 30 = .ok (.invokevirtual 173, 3) := by decide +kernel
theorem dX4_holds_33 : decode cX4_holds 33 = .ok (.ifCond .eq 7, 3) := by decide +kernel
theorem dX4_holds_36 : decode cX4_holds 36 = .ok (.iconst 1, 1) := by decide +kernel
theorem dX4_holds_37 : decode cX4_holds 37 = .ok (.goto 4, 3) := by decide +kernel
theorem dX4_holds_40 : decode cX4_holds 40 = .ok (.iconst 0, 1) := by decide +kernel
theorem dX4_holds_41 : decode cX4_holds 41 = .ok (.ireturn, 1) := by decide +kernel
theorem dX4_allSigns_0 : decode cX4_allSigns 0 = .ok (.iconst 0, 1) := by decide +kernel
theorem dX4_allSigns_1 : decode cX4_allSigns 1 = .ok (.istore_n 1, 1) := by decide +kernel
theorem dX4_allSigns_2 : decode cX4_allSigns 2 = .ok (.iconst 0, 1) := by decide +kernel
theorem dX4_allSigns_3 : decode cX4_allSigns 3 = .ok (.istore_n 2, 1) := by decide +kernel
theorem dX4_allSigns_4 : decode cX4_allSigns 4 = .ok (.iload_n 2, 1) := by decide +kernel
theorem dX4_allSigns_5 : decode cX4_allSigns 5 = .ok (.bipush 8, 2) := by decide +kernel
theorem dX4_allSigns_7 : decode cX4_allSigns 7 = .ok (.if_icmp .ge 18, 3) := by decide +kernel
theorem dX4_allSigns_10 : decode cX4_allSigns 10 = .ok (.iload_n 1, 1) := by decide +kernel
theorem dX4_allSigns_11 : decode cX4_allSigns 11 = .ok (.aload_n 0, 1) := by decide +kernel
theorem dX4_allSigns_12 : decode cX4_allSigns 12 = .ok (.getfield 13, 3) := by decide +kernel
theorem dX4_allSigns_15 : decode cX4_allSigns 15 = .ok (.iload_n 2, 1) := by decide +kernel
theorem dX4_allSigns_16 : decode cX4_allSigns 16 = .ok (.iaload, 1) := by decide +kernel
theorem dX4_allSigns_17 : decode cX4_allSigns 17 = .ok (.iadd, 1) := by decide +kernel
theorem dX4_allSigns_18 : decode cX4_allSigns 18 = .ok (.istore_n 1, 1) := by decide +kernel
theorem dX4_allSigns_19 : decode cX4_allSigns 19 = .ok (.iinc 2 1, 3) := by decide +kernel
theorem dX4_allSigns_22 : decode cX4_allSigns 22 = .ok (.goto (-18), 3) := by decide +kernel
theorem dX4_allSigns_25 : decode cX4_allSigns 25 = .ok (.iload_n 1, 1) := by decide +kernel
theorem dX4_allSigns_26 : decode cX4_allSigns 26 = .ok (.ireturn, 1) := by decide +kernel
theorem dX4_moves_0 : decode cX4_moves 0 = .ok (.iconst 0, 1) := by decide +kernel
theorem dX4_moves_1 : decode cX4_moves 1 = .ok (.istore 5, 2) := by decide +kernel
theorem dX4_moves_3 : decode cX4_moves 3 = .ok (.iload 5, 2) := by decide +kernel
theorem dX4_moves_5 : decode cX4_moves 5 = .ok (.iload 4, 2) := by decide +kernel
theorem dX4_moves_7 : decode cX4_moves 7 = .ok (.if_icmp .ge 21, 3) := by decide +kernel
theorem dX4_moves_10 : decode cX4_moves 10 = .ok (.aload_n 2, 1) := by decide +kernel
theorem dX4_moves_11 : decode cX4_moves 11 = .ok (.iload_n 3, 1) := by decide +kernel
theorem dX4_moves_12 : decode cX4_moves 12 = .ok (.iload 5, 2) := by decide +kernel
theorem dX4_moves_14 : decode cX4_moves 14 = .ok (.iadd, 1) := by decide +kernel
theorem dX4_moves_15 : decode cX4_moves 15 = .ok (.aload_n 0, 1) := by decide +kernel
theorem dX4_moves_16 : decode cX4_moves 16 = .ok (.iload_n 1, 1) := by decide +kernel
theorem dX4_moves_17 : decode cX4_moves 17 = .ok (.iload 5, 2) := by decide +kernel
theorem dX4_moves_19 : decode cX4_moves 19 = .ok (.iadd, 1) := by decide +kernel
theorem dX4_moves_20 : decode cX4_moves 20 = .ok (.iaload, 1) := by decide +kernel
theorem dX4_moves_21 : decode cX4_moves 21 = .ok (.iastore, 1) := by decide +kernel
theorem dX4_moves_22 : decode cX4_moves 22 = .ok (.iinc 5 1, 3) := by decide +kernel
theorem dX4_moves_25 : decode cX4_moves 25 = .ok (.goto (-22), 3) := by decide +kernel
theorem dX4_moves_28 : decode cX4_moves 28 = .ok (.return_, 1) := by decide +kernel
theorem dX4_keep_0 : decode cX4_keep 0 = .ok (.iload_n 1, 1) := by decide +kernel
theorem dX4_keep_1 : decode cX4_keep 1 = .ok (.iconst 1, 1) := by decide +kernel
theorem dX4_keep_2 : decode cX4_keep 2 = .ok (.iand, 1) := by decide +kernel
theorem dX4_keep_3 : decode cX4_keep 3 = .ok (.istore_n 2, 1) := by decide +kernel
theorem dX4_keep_4 : decode cX4_keep 4 = .ok (.aload_n 0, 1) := by decide +kernel
theorem dX4_keep_5 : decode cX4_keep 5 = .ok (.getfield 7, 3) := by decide +kernel
theorem dX4_keep_8 : decode cX4_keep 8 = .ok (.iconst 0, 1) := by decide +kernel
theorem dX4_keep_9 : decode cX4_keep 9 = .ok (.aload_n 0, 1) := by decide +kernel
theorem dX4_keep_10 : decode cX4_keep 10 = .ok (.getfield 25, 3) := by decide +kernel
theorem dX4_keep_13 : decode cX4_keep 13 = .ok (.sipush 2400, 3) := by decide +kernel
theorem dX4_keep_16 : decode cX4_keep 16 = .ok (.iload_n 2, 1) := by decide +kernel
theorem dX4_keep_17 : decode cX4_keep 17 = .ok (.imul, 1) := by decide +kernel
theorem dX4_keep_18 : decode cX4_keep 18 = .ok (.sipush 2400, 3) := by decide +kernel
theorem dX4_keep_21 : decode cX4_keep 21 = .ok (.invokestatic 176, 3) := by decide +kernel
theorem dX4_keep_24 : decode cX4_keep 24 = .ok (.aload_n 0, 1) := by decide +kernel
theorem dX4_keep_25 : decode cX4_keep 25 = .ok (.getfield 13, 3) := by decide +kernel
theorem dX4_keep_28 : decode cX4_keep 28 = .ok (.iconst 0, 1) := by decide +kernel
theorem dX4_keep_29 : decode cX4_keep 29 = .ok (.aload_n 0, 1) := by decide +kernel
theorem dX4_keep_30 : decode cX4_keep 30 = .ok (.getfield 28, 3) := by decide +kernel
theorem dX4_keep_33 : decode cX4_keep 33 = .ok (.bipush 8, 2) := by decide +kernel
theorem dX4_keep_35 : decode cX4_keep 35 = .ok (.iload_n 2, 1) := by decide +kernel
theorem dX4_keep_36 : decode cX4_keep 36 = .ok (.imul, 1) := by decide +kernel
theorem dX4_keep_37 : decode cX4_keep 37 = .ok (.bipush 8, 2) := by decide +kernel
theorem dX4_keep_39 : decode cX4_keep 39 = .ok (.invokestatic 176, 3) := by decide +kernel
theorem dX4_keep_42 : decode cX4_keep 42 = .ok (.aload_n 0, 1) := by decide +kernel
theorem dX4_keep_43 : decode cX4_keep 43 = .ok (.getfield 31, 3) := by decide +kernel
theorem dX4_keep_46 : decode cX4_keep 46 = .ok (.iload_n 2, 1) := by decide +kernel
theorem dX4_keep_47 : decode cX4_keep 47 = .ok (.aload_n 0, 1) := by decide +kernel
theorem dX4_keep_48 : decode cX4_keep 48 = .ok (.getfield 138, 3) := by decide +kernel
theorem dX4_keep_51 : decode cX4_keep 51 = .ok (.iastore, 1) := by decide +kernel
theorem dX4_keep_52 : decode cX4_keep 52 = .ok (.aload_n 0, 1) := by decide +kernel
theorem dX4_keep_53 : decode cX4_keep 53 = .ok (.getfield 16, 3) := by decide +kernel
theorem dX4_keep_56 : decode cX4_keep 56 = .ok (.iconst 0, 1) := by decide +kernel
theorem dX4_keep_57 : decode cX4_keep 57 = .ok (.aload_n 0, 1) := by decide +kernel
theorem dX4_keep_58 : decode cX4_keep 58 = .ok (.getfield 34, 3) := by decide +kernel
theorem dX4_keep_61 : decode cX4_keep 61 = .ok (.sipush 300, 3) := by decide +kernel
theorem dX4_keep_64 : decode cX4_keep 64 = .ok (.iload_n 2, 1) := by decide +kernel
theorem dX4_keep_65 : decode cX4_keep 65 = .ok (.imul, 1) := by decide +kernel
theorem dX4_keep_66 : decode cX4_keep 66 = .ok (.sipush 300, 3) := by decide +kernel
theorem dX4_keep_69 : decode cX4_keep 69 = .ok (.invokestatic 176, 3) := by decide +kernel
theorem dX4_keep_72 : decode cX4_keep 72 = .ok (.aload_n 0, 1) := by decide +kernel
theorem dX4_keep_73 : decode cX4_keep 73 = .ok (.getfield 19, 3) := by decide +kernel
theorem dX4_keep_76 : decode cX4_keep 76 = .ok (.iconst 0, 1) := by decide +kernel
theorem dX4_keep_77 : decode cX4_keep 77 = .ok (.aload_n 0, 1) := by decide +kernel
theorem dX4_keep_78 : decode cX4_keep 78 = .ok (.getfield 37, 3) := by decide +kernel
theorem dX4_keep_81 : decode cX4_keep 81 = .ok (.sipush 301, 3) := by decide +kernel
theorem dX4_keep_84 : decode cX4_keep 84 = .ok (.iload_n 2, 1) := by decide +kernel
theorem dX4_keep_85 : decode cX4_keep 85 = .ok (.imul, 1) := by decide +kernel
theorem dX4_keep_86 : decode cX4_keep 86 = .ok (.sipush 301, 3) := by decide +kernel
theorem dX4_keep_89 : decode cX4_keep 89 = .ok (.invokestatic 176, 3) := by decide +kernel
theorem dX4_keep_92 : decode cX4_keep 92 = .ok (.aload_n 0, 1) := by decide +kernel
theorem dX4_keep_93 : decode cX4_keep 93 = .ok (.getfield 22, 3) := by decide +kernel
theorem dX4_keep_96 : decode cX4_keep 96 = .ok (.iconst 0, 1) := by decide +kernel
theorem dX4_keep_97 : decode cX4_keep 97 = .ok (.aload_n 0, 1) := by decide +kernel
theorem dX4_keep_98 : decode cX4_keep 98 = .ok (.getfield 40, 3) := by decide +kernel
theorem dX4_keep_101 : decode cX4_keep 101 = .ok (.sipush 301, 3) := by decide +kernel
theorem dX4_keep_104 : decode cX4_keep 104 = .ok (.iload_n 2, 1) := by decide +kernel
theorem dX4_keep_105 : decode cX4_keep 105 = .ok (.imul, 1) := by decide +kernel
theorem dX4_keep_106 : decode cX4_keep 106 = .ok (.sipush 301, 3) := by decide +kernel
theorem dX4_keep_109 : decode cX4_keep 109 = .ok (.invokestatic 176, 3) := by decide +kernel
theorem dX4_keep_112 : decode cX4_keep 112 = .ok (.aload_n 0, 1) := by decide +kernel
theorem dX4_keep_113 : decode cX4_keep 113 = .ok (.invokevirtual 180, 3) := by decide +kernel
theorem dX4_keep_116 : decode cX4_keep 116 = .ok (.ireturn, 1) := by decide +kernel
theorem dX4_back_0 : decode cX4_back 0 = .ok (.iload_n 1, 1) := by decide +kernel
theorem dX4_back_1 : decode cX4_back 1 = .ok (.iconst 1, 1) := by decide +kernel
theorem dX4_back_2 : decode cX4_back 2 = .ok (.iand, 1) := by decide +kernel
theorem dX4_back_3 : decode cX4_back 3 = .ok (.istore_n 2, 1) := by decide +kernel
theorem dX4_back_4 : decode cX4_back 4 = .ok (.aload_n 0, 1) := by decide +kernel
theorem dX4_back_5 : decode cX4_back 5 = .ok (.getfield 25, 3) := by decide +kernel
theorem dX4_back_8 : decode cX4_back 8 = .ok (.sipush 2400, 3) := by decide +kernel
theorem dX4_back_11 : decode cX4_back 11 = .ok (.iload_n 2, 1) := by decide +kernel
theorem dX4_back_12 : decode cX4_back 12 = .ok (.imul, 1) := by decide +kernel
theorem dX4_back_13 : decode cX4_back 13 = .ok (.aload_n 0, 1) := by decide +kernel
theorem dX4_back_14 : decode cX4_back 14 = .ok (.getfield 7, 3) := by decide +kernel
theorem dX4_back_17 : decode cX4_back 17 = .ok (.iconst 0, 1) := by decide +kernel
theorem dX4_back_18 : decode cX4_back 18 = .ok (.sipush 2400, 3) := by decide +kernel
theorem dX4_back_21 : decode cX4_back 21 = .ok (.invokestatic 176, 3) := by decide +kernel
theorem dX4_back_24 : decode cX4_back 24 = .ok (.aload_n 0, 1) := by decide +kernel
theorem dX4_back_25 : decode cX4_back 25 = .ok (.getfield 28, 3) := by decide +kernel
theorem dX4_back_28 : decode cX4_back 28 = .ok (.bipush 8, 2) := by decide +kernel
theorem dX4_back_30 : decode cX4_back 30 = .ok (.iload_n 2, 1) := by decide +kernel
theorem dX4_back_31 : decode cX4_back 31 = .ok (.imul, 1) := by decide +kernel
theorem dX4_back_32 : decode cX4_back 32 = .ok (.aload_n 0, 1) := by decide +kernel
theorem dX4_back_33 : decode cX4_back 33 = .ok (.getfield 13, 3) := by decide +kernel
theorem dX4_back_36 : decode cX4_back 36 = .ok (.iconst 0, 1) := by decide +kernel
theorem dX4_back_37 : decode cX4_back 37 = .ok (.bipush 8, 2) := by decide +kernel
theorem dX4_back_39 : decode cX4_back 39 = .ok (.invokestatic 176, 3) := by decide +kernel
theorem dX4_back_42 : decode cX4_back 42 = .ok (.aload_n 0, 1) := by decide +kernel
theorem dX4_back_43 : decode cX4_back 43 = .ok (.aload_n 0, 1) := by decide +kernel
theorem dX4_back_44 : decode cX4_back 44 = .ok (.getfield 31, 3) := by decide +kernel
theorem dX4_back_47 : decode cX4_back 47 = .ok (.iload_n 2, 1) := by decide +kernel
theorem dX4_back_48 : decode cX4_back 48 = .ok (.iaload, 1) := by decide +kernel
theorem dX4_back_49 : decode cX4_back 49 = .ok (.putfield 138, 3) := by decide +kernel
theorem dX4_back_52 : decode cX4_back 52 = .ok (.aload_n 0, 1) := by decide +kernel
theorem dX4_back_53 : decode cX4_back 53 = .ok (.getfield 34, 3) := by decide +kernel
theorem dX4_back_56 : decode cX4_back 56 = .ok (.sipush 300, 3) := by decide +kernel
theorem dX4_back_59 : decode cX4_back 59 = .ok (.iload_n 2, 1) := by decide +kernel
theorem dX4_back_60 : decode cX4_back 60 = .ok (.imul, 1) := by decide +kernel
theorem dX4_back_61 : decode cX4_back 61 = .ok (.aload_n 0, 1) := by decide +kernel
theorem dX4_back_62 : decode cX4_back 62 = .ok (.getfield 16, 3) := by decide +kernel
theorem dX4_back_65 : decode cX4_back 65 = .ok (.iconst 0, 1) := by decide +kernel
theorem dX4_back_66 : decode cX4_back 66 = .ok (.sipush 300, 3) := by decide +kernel
theorem dX4_back_69 : decode cX4_back 69 = .ok (.invokestatic 176, 3) := by decide +kernel
theorem dX4_back_72 : decode cX4_back 72 = .ok (.aload_n 0, 1) := by decide +kernel
theorem dX4_back_73 : decode cX4_back 73 = .ok (.getfield 37, 3) := by decide +kernel
theorem dX4_back_76 : decode cX4_back 76 = .ok (.sipush 301, 3) := by decide +kernel
theorem dX4_back_79 : decode cX4_back 79 = .ok (.iload_n 2, 1) := by decide +kernel
theorem dX4_back_80 : decode cX4_back 80 = .ok (.imul, 1) := by decide +kernel
theorem dX4_back_81 : decode cX4_back 81 = .ok (.aload_n 0, 1) := by decide +kernel
theorem dX4_back_82 : decode cX4_back 82 = .ok (.getfield 19, 3) := by decide +kernel
theorem dX4_back_85 : decode cX4_back 85 = .ok (.iconst 0, 1) := by decide +kernel
theorem dX4_back_86 : decode cX4_back 86 = .ok (.sipush 301, 3) := by decide +kernel
theorem dX4_back_89 : decode cX4_back 89 = .ok (.invokestatic 176, 3) := by decide +kernel
theorem dX4_back_92 : decode cX4_back 92 = .ok (.aload_n 0, 1) := by decide +kernel
theorem dX4_back_93 : decode cX4_back 93 = .ok (.getfield 40, 3) := by decide +kernel
theorem dX4_back_96 : decode cX4_back 96 = .ok (.sipush 301, 3) := by decide +kernel
theorem dX4_back_99 : decode cX4_back 99 = .ok (.iload_n 2, 1) := by decide +kernel
theorem dX4_back_100 : decode cX4_back 100 = .ok (.imul, 1) := by decide +kernel
theorem dX4_back_101 : decode cX4_back 101 = .ok (.aload_n 0, 1) := by decide +kernel
theorem dX4_back_102 : decode cX4_back 102 = .ok (.getfield 22, 3) := by decide +kernel
theorem dX4_back_105 : decode cX4_back 105 = .ok (.iconst 0, 1) := by decide +kernel
theorem dX4_back_106 : decode cX4_back 106 = .ok (.sipush 301, 3) := by decide +kernel
theorem dX4_back_109 : decode cX4_back 109 = .ok (.invokestatic 176, 3) := by decide +kernel
theorem dX4_back_112 : decode cX4_back 112 = .ok (.aload_n 0, 1) := by decide +kernel
theorem dX4_back_113 : decode cX4_back 113 = .ok (.invokevirtual 180, 3) := by decide +kernel
theorem dX4_back_116 : decode cX4_back 116 = .ok (.ireturn, 1) := by decide +kernel
theorem dX4_digest_0 : decode cX4_digest 0 = .ok (.ldc2_w 184, 3) := by decide +kernel
theorem dX4_digest_3 : decode cX4_digest 3 = .ok (.lstore_n 1, 1) := by decide +kernel
theorem dX4_digest_4 : decode cX4_digest 4 = .ok (.iconst 0, 1) := by decide +kernel
theorem dX4_digest_5 : decode cX4_digest 5 = .ok (.istore_n 3, 1) := by decide +kernel
theorem dX4_digest_6 : decode cX4_digest 6 = .ok (.iload_n 3, 1) := by decide +kernel
theorem dX4_digest_7 : decode cX4_digest 7 = .ok (.bipush 8, 2) := by decide +kernel
theorem dX4_digest_9 : decode cX4_digest 9 = .ok (.if_icmp .ge 64, 3) := by decide +kernel
theorem dX4_digest_12 : decode cX4_digest 12 = .ok (.ldc2_w 186, 3) := by decide +kernel
theorem dX4_digest_15 : decode cX4_digest 15 = .ok (.lload_n 1, 1) := by decide +kernel
theorem dX4_digest_16 : decode cX4_digest 16 = .ok (.lmul, 1) := by decide +kernel
theorem dX4_digest_17 : decode cX4_digest 17 = .ok (.aload_n 0, 1) := by decide +kernel
theorem dX4_digest_18 : decode cX4_digest 18 = .ok (.getfield 13, 3) := by decide +kernel
theorem dX4_digest_21 : decode cX4_digest 21 = .ok (.iload_n 3, 1) := by decide +kernel
theorem dX4_digest_22 : decode cX4_digest 22 = .ok (.iaload, 1) := by decide +kernel
theorem dX4_digest_23 : decode cX4_digest 23 = .ok (.i2l, 1) := by decide +kernel
theorem dX4_digest_24 : decode cX4_digest 24 = .ok (.ladd, 1) := by decide +kernel
theorem dX4_digest_25 : decode cX4_digest 25 = .ok (.lstore_n 1, 1) := by decide +kernel
theorem dX4_digest_26 : decode cX4_digest 26 = .ok (.iconst 0, 1) := by decide +kernel
theorem dX4_digest_27 : decode cX4_digest 27 = .ok (.istore 4, 2) := by decide +kernel
theorem dX4_digest_29 : decode cX4_digest 29 = .ok (.iload 4, 2) := by decide +kernel
theorem dX4_digest_31 : decode cX4_digest 31 = .ok (.aload_n 0, 1) := by decide +kernel
theorem dX4_digest_32 : decode cX4_digest 32 = .ok (.getfield 13, 3) := by decide +kernel
theorem dX4_digest_35 : decode cX4_digest 35 = .ok (.iload_n 3, 1) := by decide +kernel
theorem dX4_digest_36 : decode cX4_digest 36 = .ok (.iaload, 1) := by decide +kernel
theorem dX4_digest_37 : decode cX4_digest 37 = .ok (.if_icmp .ge 30, 3) := by decide +kernel
theorem dX4_digest_40 : decode cX4_digest 40 = .ok (.ldc2_w 186, 3) := by decide +kernel
theorem dX4_digest_43 : decode cX4_digest 43 = .ok (.lload_n 1, 1) := by decide +kernel
theorem dX4_digest_44 : decode cX4_digest 44 = .ok (.lmul, 1) := by decide +kernel
theorem dX4_digest_45 : decode cX4_digest 45 = .ok (.aload_n 0, 1) := by decide +kernel
theorem dX4_digest_46 : decode cX4_digest 46 = .ok (.getfield 7, 3) := by decide +kernel
theorem dX4_digest_49 : decode cX4_digest 49 = .ok (.sipush 300, 3) := by decide +kernel
theorem dX4_digest_52 : decode cX4_digest 52 = .ok (.iload_n 3, 1) := by decide +kernel
theorem dX4_digest_53 : decode cX4_digest 53 = .ok (.imul, 1) := by decide +kernel
theorem dX4_digest_54 : decode cX4_digest 54 = .ok (.iload 4, 2) := by decide +kernel
theorem dX4_digest_56 : decode cX4_digest 56 = .ok (.iadd, 1) := by decide +kernel
theorem dX4_digest_57 : decode cX4_digest 57 = .ok (.iaload, 1) := by decide +kernel
theorem dX4_digest_58 : decode cX4_digest 58 = .ok (.i2l, 1) := by decide +kernel
theorem dX4_digest_59 : decode cX4_digest 59 = .ok (.ladd, 1) := by decide +kernel
theorem dX4_digest_60 : decode cX4_digest 60 = .ok (.lstore_n 1, 1) := by decide +kernel
theorem dX4_digest_61 : decode cX4_digest 61 = .ok (.iinc 4 1, 3) := by decide +kernel
theorem dX4_digest_64 : decode cX4_digest 64 = .ok (.goto (-35), 3) := by decide +kernel
theorem dX4_digest_67 : decode cX4_digest 67 = .ok (.iinc 3 1, 3) := by decide +kernel
theorem dX4_digest_70 : decode cX4_digest 70 = .ok (.goto (-64), 3) := by decide +kernel
theorem dX4_digest_73 : decode cX4_digest 73 = .ok (.iconst 0, 1) := by decide +kernel
theorem dX4_digest_74 : decode cX4_digest 74 = .ok (.istore_n 3, 1) := by decide +kernel
theorem dX4_digest_75 : decode cX4_digest 75 = .ok (.iload_n 3, 1) := by decide +kernel
theorem dX4_digest_76 : decode cX4_digest 76 = .ok (.aload_n 0, 1) := by decide +kernel
theorem dX4_digest_77 : decode cX4_digest 77 = .ok (.getfield 138, 3) := by decide +kernel
theorem dX4_digest_80 : decode cX4_digest 80 = .ok (.if_icmp .ge 65, 3) := by decide +kernel
theorem dX4_digest_83 : decode cX4_digest 83 = .ok (.ldc2_w 186, 3) := by decide +kernel
theorem dX4_digest_86 : decode cX4_digest 86 = .ok (.lload_n 1, 1) := by decide +kernel
theorem dX4_digest_87 : decode cX4_digest 87 = .ok (.lmul, 1) := by decide +kernel
theorem dX4_digest_88 : decode cX4_digest 88 = .ok (.aload_n 0, 1) := by decide +kernel
theorem dX4_digest_89 : decode cX4_digest 89 = .ok (.getfield 22, 3) := by decide +kernel
theorem dX4_digest_92 : decode cX4_digest 92 = .ok (.iload_n 3, 1) := by decide +kernel
theorem dX4_digest_93 : decode cX4_digest 93 = .ok (.iaload, 1) := by decide +kernel
theorem dX4_digest_94 : decode cX4_digest 94 = .ok (.i2l, 1) := by decide +kernel
theorem dX4_digest_95 : decode cX4_digest 95 = .ok (.ladd, 1) := by decide +kernel
theorem dX4_digest_96 : decode cX4_digest 96 = .ok (.lstore_n 1, 1) := by decide +kernel
theorem dX4_digest_97 : decode cX4_digest 97 = .ok (.iconst 0, 1) := by decide +kernel
theorem dX4_digest_98 : decode cX4_digest 98 = .ok (.istore 4, 2) := by decide +kernel
theorem dX4_digest_100 : decode cX4_digest 100 = .ok (.iload 4, 2) := by decide +kernel
theorem dX4_digest_102 : decode cX4_digest 102 = .ok (.aload_n 0, 1) := by decide +kernel
theorem dX4_digest_103 : decode cX4_digest 103 = .ok (.getfield 22, 3) := by decide +kernel
theorem dX4_digest_106 : decode cX4_digest 106 = .ok (.iload_n 3, 1) := by decide +kernel
theorem dX4_digest_107 : decode cX4_digest 107 = .ok (.iaload, 1) := by decide +kernel
theorem dX4_digest_108 : decode cX4_digest 108 = .ok (.if_icmp .ge 31, 3) := by decide +kernel
theorem dX4_digest_111 : decode cX4_digest 111 = .ok (.ldc2_w 186, 3) := by decide +kernel
theorem dX4_digest_114 : decode cX4_digest 114 = .ok (.lload_n 1, 1) := by decide +kernel
theorem dX4_digest_115 : decode cX4_digest 115 = .ok (.lmul, 1) := by decide +kernel
theorem dX4_digest_116 : decode cX4_digest 116 = .ok (.aload_n 0, 1) := by decide +kernel
theorem dX4_digest_117 : decode cX4_digest 117 = .ok (.getfield 16, 3) := by decide +kernel
theorem dX4_digest_120 : decode cX4_digest 120 = .ok (.aload_n 0, 1) := by decide +kernel
theorem dX4_digest_121 : decode cX4_digest 121 = .ok (.getfield 19, 3) := by decide +kernel
theorem dX4_digest_124 : decode cX4_digest 124 = .ok (.iload_n 3, 1) := by decide +kernel
theorem dX4_digest_125 : decode cX4_digest 125 = .ok (.iaload, 1) := by decide +kernel
theorem dX4_digest_126 : decode cX4_digest 126 = .ok (.iload 4, 2) := by decide +kernel
theorem dX4_digest_128 : decode cX4_digest 128 = .ok (.iadd, 1) := by decide +kernel
theorem dX4_digest_129 : decode cX4_digest 129 = .ok (.iaload, 1) := by decide +kernel
theorem dX4_digest_130 : decode cX4_digest 130 = .ok (.i2l, 1) := by decide +kernel
theorem dX4_digest_131 : decode cX4_digest 131 = .ok (.ladd, 1) := by decide +kernel
theorem dX4_digest_132 : decode cX4_digest 132 = .ok (.lstore_n 1, 1) := by decide +kernel
theorem dX4_digest_133 : decode cX4_digest 133 = .ok (.iinc 4 1, 3) := by decide +kernel
theorem dX4_digest_136 : decode cX4_digest 136 = .ok (.goto (-36), 3) := by decide +kernel
theorem dX4_digest_139 : decode cX4_digest 139 = .ok (.iinc 3 1, 3) := by decide +kernel
theorem dX4_digest_142 : decode cX4_digest 142 = .ok (.goto (-67), 3) := by decide +kernel
theorem dX4_digest_145 : decode cX4_digest 145 = .ok (.lload_n 1, 1) := by decide +kernel
theorem dX4_digest_146 : decode cX4_digest 146 = .ok (.lreturn, 1) := by decide +kernel
theorem dJ11_isValidCodePoint_9a6ad_0 : decode cJ11_isValidCodePoint_9a6ad 0 = .ok (.iload_n 0, 1) := by decide +kernel
theorem dJ11_isValidCodePoint_9a6ad_1 : decode cJ11_isValidCodePoint_9a6ad 1 = .ok (.bipush 16, 2) := by decide +kernel
theorem dJ11_isValidCodePoint_9a6ad_3 : decode cJ11_isValidCodePoint_9a6ad 3 = .ok (.iushr, 1) := by decide +kernel
theorem dJ11_isValidCodePoint_9a6ad_4 : decode cJ11_isValidCodePoint_9a6ad 4 = .ok (.istore_n 1, 1) := by decide +kernel
theorem dJ11_isValidCodePoint_9a6ad_5 : decode cJ11_isValidCodePoint_9a6ad 5 = .ok (.iload_n 1, 1) := by decide +kernel
theorem dJ11_isValidCodePoint_9a6ad_6 : decode cJ11_isValidCodePoint_9a6ad 6 = .ok (.bipush 17, 2) := by decide +kernel
theorem dJ11_isValidCodePoint_9a6ad_8 : decode cJ11_isValidCodePoint_9a6ad 8 = .ok (.if_icmp .ge 7, 3) := by decide +kernel
theorem dJ11_isValidCodePoint_9a6ad_11 : decode cJ11_isValidCodePoint_9a6ad 11 = .ok (.iconst 1, 1) := by decide +kernel
theorem dJ11_isValidCodePoint_9a6ad_12 : decode cJ11_isValidCodePoint_9a6ad 12 = .ok (.goto 4, 3) := by decide +kernel
theorem dJ11_isValidCodePoint_9a6ad_15 : decode cJ11_isValidCodePoint_9a6ad 15 = .ok (.iconst 0, 1) := by decide +kernel
theorem dJ11_isValidCodePoint_9a6ad_16 : decode cJ11_isValidCodePoint_9a6ad 16 = .ok (.ireturn, 1) := by decide +kernel
theorem dJ11_highSurrogate_5068e_0 : decode cJ11_highSurrogate_5068e 0 = .ok (.iload_n 0, 1) := by decide +kernel
theorem dJ11_highSurrogate_5068e_1 : decode cJ11_highSurrogate_5068e 1 = .ok (.bipush 10, 2) := by decide +kernel
theorem dJ11_highSurrogate_5068e_3 : decode cJ11_highSurrogate_5068e 3 = .ok (.iushr, 1) := by decide +kernel
theorem dJ11_highSurrogate_5068e_4 : decode cJ11_highSurrogate_5068e 4 = .ok (.ldc 110, 2) := by decide +kernel
theorem dJ11_highSurrogate_5068e_6 : decode cJ11_highSurrogate_5068e 6 = .ok (.iadd, 1) := by decide +kernel
theorem dJ11_highSurrogate_5068e_7 : decode cJ11_highSurrogate_5068e 7 = .ok (.i2c, 1) := by decide +kernel
theorem dJ11_highSurrogate_5068e_8 : decode cJ11_highSurrogate_5068e 8 = .ok (.ireturn, 1) := by decide +kernel
theorem dJ11_lowSurrogate_5068e_0 : decode cJ11_lowSurrogate_5068e 0 = .ok (.iload_n 0, 1) := by decide +kernel
theorem dJ11_lowSurrogate_5068e_1 : decode cJ11_lowSurrogate_5068e 1 = .ok (.sipush 1023, 3) := by decide +kernel
theorem dJ11_lowSurrogate_5068e_4 : decode cJ11_lowSurrogate_5068e 4 = .ok (.iand, 1) := by decide +kernel
theorem dJ11_lowSurrogate_5068e_5 : decode cJ11_lowSurrogate_5068e 5 = .ok (.ldc 76, 2) := by decide +kernel
theorem dJ11_lowSurrogate_5068e_7 : decode cJ11_lowSurrogate_5068e 7 = .ok (.iadd, 1) := by decide +kernel
theorem dJ11_lowSurrogate_5068e_8 : decode cJ11_lowSurrogate_5068e 8 = .ok (.i2c, 1) := by decide +kernel
theorem dJ11_lowSurrogate_5068e_9 : decode cJ11_lowSurrogate_5068e 9 = .ok (.ireturn, 1) := by decide +kernel
theorem dJ6_compare_7cf53_0 : decode cJ6_compare_7cf53 0 = .ok (.iload_n 0, 1) := by decide +kernel
theorem dJ6_compare_7cf53_1 : decode cJ6_compare_7cf53 1 = .ok (.iload_n 1, 1) := by decide +kernel
theorem dJ6_compare_7cf53_2 : decode cJ6_compare_7cf53 2 = .ok (.if_icmp .ge 7, 3) := by decide +kernel
theorem dJ6_compare_7cf53_5 : decode cJ6_compare_7cf53 5 = .ok (.iconst (-1), 1) := by decide +kernel
theorem dJ6_compare_7cf53_6 : decode cJ6_compare_7cf53 6 = .ok (.goto 13, 3) := by decide +kernel
theorem dJ6_compare_7cf53_9 : decode cJ6_compare_7cf53 9 = .ok (.iload_n 0, 1) := by decide +kernel
theorem dJ6_compare_7cf53_10 : decode cJ6_compare_7cf53 10 = .ok (.iload_n 1, 1) := by decide +kernel
theorem dJ6_compare_7cf53_11 : decode cJ6_compare_7cf53 11 = .ok (.if_icmp .ne 7, 3) := by decide +kernel
theorem dJ6_compare_7cf53_14 : decode cJ6_compare_7cf53 14 = .ok (.iconst 0, 1) := by decide +kernel
theorem dJ6_compare_7cf53_15 : decode cJ6_compare_7cf53 15 = .ok (.goto 4, 3) := by decide +kernel
theorem dJ6_compare_7cf53_18 : decode cJ6_compare_7cf53 18 = .ok (.iconst 1, 1) := by decide +kernel
theorem dJ6_compare_7cf53_19 : decode cJ6_compare_7cf53 19 = .ok (.ireturn, 1) := by decide +kernel
theorem dJ9_floorMod_7cf53_0 : decode cJ9_floorMod_7cf53 0 = .ok (.iload_n 0, 1) := by decide +kernel
theorem dJ9_floorMod_7cf53_1 : decode cJ9_floorMod_7cf53 1 = .ok (.iload_n 1, 1) := by decide +kernel
theorem dJ9_floorMod_7cf53_2 : decode cJ9_floorMod_7cf53 2 = .ok (.irem, 1) := by decide +kernel
theorem dJ9_floorMod_7cf53_3 : decode cJ9_floorMod_7cf53 3 = .ok (.istore_n 2, 1) := by decide +kernel
theorem dJ9_floorMod_7cf53_4 : decode cJ9_floorMod_7cf53 4 = .ok (.iload_n 0, 1) := by decide +kernel
theorem dJ9_floorMod_7cf53_5 : decode cJ9_floorMod_7cf53 5 = .ok (.iload_n 1, 1) := by decide +kernel
theorem dJ9_floorMod_7cf53_6 : decode cJ9_floorMod_7cf53 6 = .ok (.ixor, 1) := by decide +kernel
theorem dJ9_floorMod_7cf53_7 : decode cJ9_floorMod_7cf53 7 = .ok (.ifCond .ge 11, 3) := by decide +kernel
theorem dJ9_floorMod_7cf53_10 : decode cJ9_floorMod_7cf53 10 = .ok (.iload_n 2, 1) := by decide +kernel
theorem dJ9_floorMod_7cf53_11 : decode cJ9_floorMod_7cf53 11 = .ok (.ifCond .eq 7, 3) := by decide +kernel
theorem dJ9_floorMod_7cf53_14 : decode cJ9_floorMod_7cf53 14 = .ok (.iload_n 2, 1) := by decide +kernel
theorem dJ9_floorMod_7cf53_15 : decode cJ9_floorMod_7cf53 15 = .ok (.iload_n 1, 1) := by decide +kernel
theorem dJ9_floorMod_7cf53_16 : decode cJ9_floorMod_7cf53 16 = .ok (.iadd, 1) := by decide +kernel
theorem dJ9_floorMod_7cf53_17 : decode cJ9_floorMod_7cf53 17 = .ok (.ireturn, 1) := by decide +kernel
theorem dJ9_floorMod_7cf53_18 : decode cJ9_floorMod_7cf53 18 = .ok (.iload_n 2, 1) := by decide +kernel
theorem dJ9_floorMod_7cf53_19 : decode cJ9_floorMod_7cf53 19 = .ok (.ireturn, 1) := by decide +kernel
theorem dJ9_abs_067f4_0 : decode cJ9_abs_067f4 0 = .ok (.lload_n 0, 1) := by decide +kernel
theorem dJ9_abs_067f4_1 : decode cJ9_abs_067f4 1 = .ok (.lconst 0, 1) := by decide +kernel
theorem dJ9_abs_067f4_2 : decode cJ9_abs_067f4 2 = .ok (.lcmp, 1) := by decide +kernel
theorem dJ9_abs_067f4_3 : decode cJ9_abs_067f4 3 = .ok (.ifCond .ge 8, 3) := by decide +kernel
theorem dJ9_abs_067f4_6 : decode cJ9_abs_067f4 6 = .ok (.lload_n 0, 1) := by decide +kernel
theorem dJ9_abs_067f4_7 : decode cJ9_abs_067f4 7 = .ok (.lneg, 1) := by decide +kernel
theorem dJ9_abs_067f4_8 : decode cJ9_abs_067f4 8 = .ok (.goto 4, 3) := by decide +kernel
theorem dJ9_abs_067f4_11 : decode cJ9_abs_067f4 11 = .ok (.lload_n 0, 1) := by decide +kernel
theorem dJ9_abs_067f4_12 : decode cJ9_abs_067f4 12 = .ok (.lreturn, 1) := by decide +kernel
theorem dJ9_max_7cf53_0 : decode cJ9_max_7cf53 0 = .ok (.iload_n 0, 1) := by decide +kernel
theorem dJ9_max_7cf53_1 : decode cJ9_max_7cf53 1 = .ok (.iload_n 1, 1) := by decide +kernel
theorem dJ9_max_7cf53_2 : decode cJ9_max_7cf53 2 = .ok (.if_icmp .lt 7, 3) := by decide +kernel
theorem dJ9_max_7cf53_5 : decode cJ9_max_7cf53 5 = .ok (.iload_n 0, 1) := by decide +kernel
theorem dJ9_max_7cf53_6 : decode cJ9_max_7cf53 6 = .ok (.goto 4, 3) := by decide +kernel
theorem dJ9_max_7cf53_9 : decode cJ9_max_7cf53 9 = .ok (.iload_n 1, 1) := by decide +kernel
theorem dJ9_max_7cf53_10 : decode cJ9_max_7cf53 10 = .ok (.ireturn, 1) := by decide +kernel
theorem dJ9_min_7cf53_0 : decode cJ9_min_7cf53 0 = .ok (.iload_n 0, 1) := by decide +kernel
theorem dJ9_min_7cf53_1 : decode cJ9_min_7cf53 1 = .ok (.iload_n 1, 1) := by decide +kernel
theorem dJ9_min_7cf53_2 : decode cJ9_min_7cf53 2 = .ok (.if_icmp .gt 7, 3) := by decide +kernel
theorem dJ9_min_7cf53_5 : decode cJ9_min_7cf53 5 = .ok (.iload_n 0, 1) := by decide +kernel
theorem dJ9_min_7cf53_6 : decode cJ9_min_7cf53 6 = .ok (.goto 4, 3) := by decide +kernel
theorem dJ9_min_7cf53_9 : decode cJ9_min_7cf53 9 = .ok (.iload_n 1, 1) := by decide +kernel
theorem dJ9_min_7cf53_10 : decode cJ9_min_7cf53 10 = .ok (.ireturn, 1) := by decide +kernel
theorem dJ0_length_8abf5_0 : decode cJ0_length_8abf5 0 = .ok (.aload_n 0, 1) := by decide +kernel
theorem dJ0_length_8abf5_1 : decode cJ0_length_8abf5 1 = .ok (.getfield 9, 3) := by decide +kernel
theorem dJ0_length_8abf5_4 : decode cJ0_length_8abf5 4 = .ok (.arraylength, 1) := by decide +kernel
theorem dJ0_length_8abf5_5 : decode cJ0_length_8abf5 5 = .ok (.aload_n 0, 1) := by decide +kernel
theorem dJ0_length_8abf5_6 : decode cJ0_length_8abf5 6 = .ok (.invokevirtual 335, 3) := by decide +kernel
theorem dJ0_length_8abf5_9 : decode cJ0_length_8abf5 9 = .ok (.ishr, 1) := by decide +kernel
theorem dJ0_length_8abf5_10 : decode cJ0_length_8abf5 10 = .ok (.ireturn, 1) := by decide +kernel
theorem dJ0_indexOf_0f7a4_0 : decode cJ0_indexOf_0f7a4 0 = .ok (.aload_n 0, 1) := by decide +kernel
theorem dJ0_indexOf_0f7a4_1 : decode cJ0_indexOf_0f7a4 1 = .ok (.iload_n 1, 1) := by decide +kernel
theorem dJ0_indexOf_0f7a4_2 : decode cJ0_indexOf_0f7a4 2 = .ok (.iconst 0, 1) := by decide +kernel
theorem dJ0_indexOf_0f7a4_3 : decode cJ0_indexOf_0f7a4 3 = .ok (.invokevirtual 633, 3) := by decide +kernel
theorem dJ0_indexOf_0f7a4_6 : decode cJ0_indexOf_0f7a4 6 = .ok (.ireturn, 1) := by decide +kernel
theorem dJ0_indexOf_7cf53_0 : decode cJ0_indexOf_7cf53 0 = .ok (.aload_n 0, 1) := by decide +kernel
theorem dJ0_indexOf_7cf53_1 : decode cJ0_indexOf_7cf53 1 = .ok (.invokevirtual 492, 3) := by decide +kernel
theorem dJ0_indexOf_7cf53_4 : decode cJ0_indexOf_7cf53 4 = .ok (.ifCond .eq 19, 3) := by decide +kernel
theorem dJ0_indexOf_7cf53_7 : decode cJ0_indexOf_7cf53 7 = .ok (.aload_n 0, 1) := by decide +kernel
theorem dJ0_indexOf_7cf53_8 : decode cJ0_indexOf_7cf53 8 = .ok (.getfield 9, 3) := by decide +kernel
theorem dJ0_indexOf_7cf53_11 : decode cJ0_indexOf_7cf53 11 = .ok (.iload_n 1, 1) := by decide +kernel
theorem dJ0_indexOf_7cf53_12 : decode cJ0_indexOf_7cf53 12 = .ok (.iload_n 2, 1) := by decide +kernel
theorem dJ0_indexOf_7cf53_13 : decode cJ0_indexOf_7cf53 13 = .ok (.aload_n 0, 1) := by decide +kernel
theorem dJ0_indexOf_7cf53_14 : decode cJ0_indexOf_7cf53 14 = .ok (.invokevirtual 505, 3) := by decide +kernel
theorem dJ0_indexOf_7cf53_17 : decode cJ0_indexOf_7cf53 17 = .ok (.invokestatic 637, 3) := by decide +kernel
theorem dJ0_indexOf_7cf53_20 : decode cJ0_indexOf_7cf53 20 = .ok (.goto 16, 3) := by decide +kernel
theorem dJ0_indexOf_7cf53_23 : decode cJ0_indexOf_7cf53 23 = .ok (.aload_n 0, 1) := by decide +kernel
theorem dJ0_indexOf_7cf53_24 : decode cJ0_indexOf_7cf53 24 = .ok (.getfield 9, 3) := by decide +kernel
theorem dJ0_indexOf_7cf53_27 : decode cJ0_indexOf_7cf53 27 = .ok (.iload_n 1, 1) := by decide +kernel
theorem dJ0_indexOf_7cf53_28 : decode cJ0_indexOf_7cf53 28 = .ok (.iload_n 2, 1) := by decide +kernel
theorem dJ0_indexOf_7cf53_29 : decode cJ0_indexOf_7cf53 29 = .ok (.aload_n 0, 1) := by decide +kernel
theorem dJ0_indexOf_7cf53_30 : decode cJ0_indexOf_7cf53 30 = .ok (.invokevirtual 505, 3) := by decide +kernel
theorem dJ0_indexOf_7cf53_33 : decode cJ0_indexOf_7cf53 33 = .ok (.invokestatic 640, 3) := by decide +kernel
theorem dJ0_indexOf_7cf53_36 : decode cJ0_indexOf_7cf53 36 = .ok (.ireturn, 1) := by decide +kernel
theorem dJ0_coder_7d493_0 : decode cJ0_coder_7d493 0 = .ok (.getstatic 38, 3) := by decide +kernel
theorem dJ0_coder_7d493_3 : decode cJ0_coder_7d493 3 = .ok (.ifCond .eq 10, 3) := by decide +kernel
theorem dJ0_coder_7d493_6 : decode cJ0_coder_7d493 6 = .ok (.aload_n 0, 1) := by decide +kernel
theorem dJ0_coder_7d493_7 : decode cJ0_coder_7d493 7 = .ok (.getfield 15, 3) := by decide +kernel
theorem dJ0_coder_7d493_10 : decode cJ0_coder_7d493 10 = .ok (.goto 4, 3) := by decide +kernel
theorem dJ0_coder_7d493_13 : decode cJ0_coder_7d493 13 = .ok (.iconst 1, 1) := by decide +kernel
theorem dJ0_coder_7d493_14 : decode cJ0_coder_7d493 14 = .ok (.ireturn, 1) := by decide +kernel
theorem dJ0_isLatin1_aae02_0 : decode cJ0_isLatin1_aae02 0 = .ok (.getstatic 38, 3) := by decide +kernel
theorem dJ0_isLatin1_aae02_3 : decode cJ0_isLatin1_aae02 3 = .ok (.ifCond .eq 14, 3) := by decide +kernel
theorem dJ0_isLatin1_aae02_6 : decode cJ0_isLatin1_aae02 6 = .ok (.aload_n 0, 1) := by decide +kernel
theorem dJ0_isLatin1_aae02_7 : decode cJ0_isLatin1_aae02 7 = .ok (.getfield 15, 3) := by decide +kernel
theorem dJ0_isLatin1_aae02_10 : decode cJ0_isLatin1_aae02 10 = .ok (.ifCond .ne 7, 3) := by decide +kernel
theorem dJ0_isLatin1_aae02_13 : decode cJ0_isLatin1_aae02 13 = .ok (.iconst 1, 1) := by decide +kernel
theorem dJ0_isLatin1_aae02_14 : decode cJ0_isLatin1_aae02 14 = .ok (.goto 4, 3) := by decide +kernel
theorem dJ0_isLatin1_aae02_17 : decode cJ0_isLatin1_aae02 17 = .ok (.iconst 0, 1) := by decide +kernel
theorem dJ0_isLatin1_aae02_18 : decode cJ0_isLatin1_aae02 18 = .ok (.ireturn, 1) := by decide +kernel
theorem dJ0_checkBoundsBeginEnd_23922_0 : decode cJ0_checkBoundsBeginEnd_23922 0 = .ok (.iload_n 0, 1) := by decide +kernel
theorem dJ0_checkBoundsBeginEnd_23922_1 : decode cJ0_checkBoundsBeginEnd_23922 1 = .ok (.iload_n 1, 1) := by decide +kernel
theorem dJ0_checkBoundsBeginEnd_23922_2 : decode cJ0_checkBoundsBeginEnd_23922 2 = .ok (.iload_n 2, 1) := by decide +kernel
theorem dJ0_checkBoundsBeginEnd_23922_3 : decode cJ0_checkBoundsBeginEnd_23922 3 = .ok (.getstatic 1053, 3) := by decide +kernel
theorem dJ0_checkBoundsBeginEnd_23922_6 : decode cJ0_checkBoundsBeginEnd_23922 6 = .ok (.invokestatic 1062, 3) := by decide +kernel
theorem dJ0_checkBoundsBeginEnd_23922_9 : decode cJ0_checkBoundsBeginEnd_23922 9 = .ok (.pop, 1) := by decide +kernel
theorem dJ0_checkBoundsBeginEnd_23922_10 : decode cJ0_checkBoundsBeginEnd_23922 10 = .ok (.return_, 1) := by decide +kernel
theorem dJ1_canEncode_9a6ad_0 : decode cJ1_canEncode_9a6ad 0 = .ok (.iload_n 0, 1) := by decide +kernel
theorem dJ1_canEncode_9a6ad_1 : decode cJ1_canEncode_9a6ad 1 = .ok (.ifCond .lt 14, 3) := by decide +kernel
theorem dJ1_canEncode_9a6ad_4 : decode cJ1_canEncode_9a6ad 4 = .ok (.iload_n 0, 1) := by decide +kernel
theorem dJ1_canEncode_9a6ad_5 : decode cJ1_canEncode_9a6ad 5 = .ok (.sipush 255, 3) := by decide +kernel
theorem dJ1_canEncode_9a6ad_8 : decode cJ1_canEncode_9a6ad 8 = .ok (.if_icmp .gt 7, 3) := by decide +kernel
theorem dJ1_canEncode_9a6ad_11 : decode cJ1_canEncode_9a6ad 11 = .ok (.iconst 1, 1) := by decide +kernel
theorem dJ1_canEncode_9a6ad_12 : decode cJ1_canEncode_9a6ad 12 = .ok (.goto 4, 3) := by decide +kernel
theorem dJ1_canEncode_9a6ad_15 : decode cJ1_canEncode_9a6ad 15 = .ok (.iconst 0, 1) := by decide +kernel
theorem dJ1_canEncode_9a6ad_16 : decode cJ1_canEncode_9a6ad 16 = .ok (.ireturn, 1) := by decide +kernel
theorem dJ1_indexOf_4cfef_0 : decode cJ1_indexOf_4cfef 0 = .ok (.iload_n 1, 1) := by decide +kernel
theorem dJ1_indexOf_4cfef_1 : decode cJ1_indexOf_4cfef 1 = .ok (.invokestatic 88, 3) := by decide +kernel
theorem dJ1_indexOf_4cfef_4 : decode cJ1_indexOf_4cfef 4 = .ok (.ifCond .ne 5, 3) := by decide +kernel
theorem dJ1_indexOf_4cfef_7 : decode cJ1_indexOf_4cfef 7 = .ok (.iconst (-1), 1) := by decide +kernel
theorem dJ1_indexOf_4cfef_8 : decode cJ1_indexOf_4cfef 8 = .ok (.ireturn, 1) := by decide +kernel
theorem dJ1_indexOf_4cfef_9 : decode cJ1_indexOf_4cfef 9 = .ok (.iload_n 2, 1) := by decide +kernel
theorem dJ1_indexOf_4cfef_10 : decode cJ1_indexOf_4cfef 10 = .ok (.iconst 0, 1) := by decide +kernel
theorem dJ1_indexOf_4cfef_11 : decode cJ1_indexOf_4cfef 11 = .ok (.invokestatic 92, 3) := by decide +kernel
theorem dJ1_indexOf_4cfef_14 : decode cJ1_indexOf_4cfef 14 = .ok (.istore_n 2, 1) := by decide +kernel
theorem dJ1_indexOf_4cfef_15 : decode cJ1_indexOf_4cfef 15 = .ok (.iload_n 3, 1) := by decide +kernel
theorem dJ1_indexOf_4cfef_16 : decode cJ1_indexOf_4cfef 16 = .ok (.aload_n 0, 1) := by decide +kernel
theorem dJ1_indexOf_4cfef_17 : decode cJ1_indexOf_4cfef 17 = .ok (.arraylength, 1) := by decide +kernel
theorem dJ1_indexOf_4cfef_18 : decode cJ1_indexOf_4cfef 18 = .ok (.invokestatic 38, 3) := by decide +kernel
theorem dJ1_indexOf_4cfef_21 : decode cJ1_indexOf_4cfef 21 = .ok (.istore_n 3, 1) := by decide +kernel
theorem dJ1_indexOf_4cfef_22 : decode cJ1_indexOf_4cfef 22 = .ok (.iload_n 2, 1) := by decide +kernel
theorem dJ1_indexOf_4cfef_23 : decode cJ1_indexOf_4cfef 23 = .ok (.iload_n 3, 1) := by decide +kernel
theorem dJ1_indexOf_4cfef_24 : decode cJ1_indexOf_4cfef 24 = .ok (.if_icmp .lt 5, 3) := by decide +kernel
theorem dJ1_indexOf_4cfef_27 : decode cJ1_indexOf_4cfef 27 = .ok (.iconst (-1), 1) := by decide +kernel
theorem dJ1_indexOf_4cfef_28 : decode cJ1_indexOf_4cfef 28 = .ok (.ireturn, 1) := by decide +kernel
theorem dJ1_indexOf_4cfef_29 : decode cJ1_indexOf_4cfef 29 = .ok (.aload_n 0, 1) := by decide +kernel
theorem dJ1_indexOf_4cfef_30 : decode cJ1_indexOf_4cfef 30 = .ok (.iload_n 1, 1) := by decide +kernel
theorem dJ1_indexOf_4cfef_31 : decode cJ1_indexOf_4cfef 31 = .ok (.iload_n 2, 1) := by decide +kernel
theorem dJ1_indexOf_4cfef_32 : decode cJ1_indexOf_4cfef 32 = .ok (.iload_n 3, 1) := by decide +kernel
theorem dJ1_indexOf_4cfef_33 : decode cJ1_indexOf_4cfef 33 = .ok (.invokestatic 95, 3) := by decide +kernel
theorem dJ1_indexOf_4cfef_36 : decode cJ1_indexOf_4cfef 36 = .ok (.ireturn, 1) := by decide +kernel
theorem dJ1_indexOfChar_4cfef_0 : decode cJ1_indexOfChar_4cfef 0 = .ok (.iload_n 1, 1) := by decide +kernel
theorem dJ1_indexOfChar_4cfef_1 : decode cJ1_indexOfChar_4cfef 1 = .ok (.i2b, 1) := by decide +kernel
theorem dJ1_indexOfChar_4cfef_2 : decode cJ1_indexOfChar_4cfef 2 = .ok (.istore 4, 2) := by decide +kernel
theorem dJ1_indexOfChar_4cfef_4 : decode cJ1_indexOfChar_4cfef 4 = .ok (.iload_n 2, 1) := by decide +kernel
theorem dJ1_indexOfChar_4cfef_5 : decode cJ1_indexOfChar_4cfef 5 = .ok (.istore 5, 2) := by decide +kernel
theorem dJ1_indexOfChar_4cfef_7 : decode cJ1_indexOfChar_4cfef 7 = .ok (.iload 5, 2) := by decide +kernel
theorem dJ1_indexOfChar_4cfef_9 : decode cJ1_indexOfChar_4cfef 9 = .ok (.iload_n 3, 1) := by decide +kernel
theorem dJ1_indexOfChar_4cfef_10 : decode cJ1_indexOfChar_4cfef 10 = .ok (.if_icmp .ge 21, 3) := by decide +kernel
theorem dJ1_indexOfChar_4cfef_13 : decode cJ1_indexOfChar_4cfef 13 = .ok (.aload_n 0, 1) := by decide +kernel
theorem dJ1_indexOfChar_4cfef_14 : decode cJ1_indexOfChar_4cfef 14 = .ok (.iload 5, 2) := by decide +kernel
theorem dJ1_indexOfChar_4cfef_16 : decode cJ1_indexOfChar_4cfef 16 = .ok (.baload, 1) := by decide +kernel
theorem dJ1_indexOfChar_4cfef_17 : decode cJ1_indexOfChar_4cfef 17 = .ok (.iload 4, 2) := by decide +kernel
theorem dJ1_indexOfChar_4cfef_19 : decode cJ1_indexOfChar_4cfef 19 = .ok (.if_icmp .ne 6, 3) := by decide +kernel
theorem dJ1_indexOfChar_4cfef_22 : decode cJ1_indexOfChar_4cfef 22 = .ok (.iload 5, 2) := by decide +kernel
theorem dJ1_indexOfChar_4cfef_24 : decode cJ1_indexOfChar_4cfef 24 = .ok (.ireturn, 1) := by decide +kernel
theorem dJ1_indexOfChar_4cfef_25 : decode cJ1_indexOfChar_4cfef 25 = .ok (.iinc 5 1, 3) := by decide +kernel
theorem dJ1_indexOfChar_4cfef_28 : decode cJ1_indexOfChar_4cfef 28 = .ok (.goto (-21), 3) := by decide +kernel
theorem dJ1_indexOfChar_4cfef_31 : decode cJ1_indexOfChar_4cfef 31 = .ok (.iconst (-1), 1) := by decide +kernel
theorem dJ1_indexOfChar_4cfef_32 : decode cJ1_indexOfChar_4cfef 32 = .ok (.ireturn, 1) := by decide +kernel
theorem dJ2_getChar_3b067_0 : decode cJ2_getChar_3b067 0 = .ok (.getstatic 44, 3) := by decide +kernel
theorem dJ2_getChar_3b067_3 : decode cJ2_getChar_3b067 3 = .ok (.ifCond .ne 25, 3) := by decide +kernel
theorem dJ2_getChar_3b067_6 : decode cJ2_getChar_3b067 6 = .ok (.iload_n 1, 1) := by decide +kernel
theorem dJ2_getChar_3b067_7 : decode cJ2_getChar_3b067 7 = .ok (.ifCond .lt 11, 3) := by decide +kernel
theorem dJ2_getChar_3b067_10 : decode cJ2_getChar_3b067 10 = .ok (.iload_n 1, 1) := by decide +kernel
theorem dJ2_getChar_3b067_11 : decode cJ2_getChar_3b067 11 = .ok (.aload_n 0, 1) := by decide +kernel
theorem dJ2_getChar_3b067_12 : decode cJ2_getChar_3b067 12 = .ok (.invokestatic 48, 3) := by decide +kernel
theorem dJ2_getChar_3b067_15 : decode cJ2_getChar_3b067 15 = .ok (.if_icmp .lt 13, 3) := by decide +kernel
theorem dJ2_getChar_3b067_18 : decode cJ2_getChar_3b067 18 = .ok (.new 52, 3) := by decide +kernel
theorem dJ2_getChar_3b067_21 : decode cJ2_getChar_3b067 21 = .ok (.dup, 1) := by decide +kernel
theorem dJ2_getChar_3b067_22 : decode cJ2_getChar_3b067 22 = .ok (.ldc 54, 2) := by decide +kernel
theorem dJ2_getChar_3b067_24 : decode cJ2_getChar_3b067 24 = .ok (.invokespecial 56, 3) := by decide +kernel
theorem dJ2_getChar_3b067_27 : decode cJ2_getChar_3b067 27 = .ok (.athrow, 1) := by decide +kernel
theorem dJ2_getChar_3b067_28 : decode cJ2_getChar_3b067 28 = .ok (.iload_n 1, 1) := by decide +kernel
theorem dJ2_getChar_3b067_29 : decode cJ2_getChar_3b067 29 = .ok (.iconst 1, 1) := by decide +kernel
theorem dJ2_getChar_3b067_30 : decode cJ2_getChar_3b067 30 = .ok (.ishl, 1) := by decide +kernel
theorem dJ2_getChar_3b067_31 : decode cJ2_getChar_3b067 31 = .ok (.istore_n 1, 1) := by decide +kernel
theorem dJ2_getChar_3b067_32 : decode cJ2_getChar_3b067 32 = .ok (.aload_n 0, 1) := by decide +kernel
theorem dJ2_getChar_3b067_33 : decode cJ2_getChar_3b067 33 = .ok (.iload_n 1, 1) := by decide +kernel
theorem dJ2_getChar_3b067_34 : decode cJ2_getChar_3b067 34 = .ok (.iinc 1 1, 3) := by decide +kernel
theorem dJ2_getChar_3b067_37 : decode cJ2_getChar_3b067 37 = .ok (.baload, 1) := by decide +kernel
theorem dJ2_getChar_3b067_38 : decode cJ2_getChar_3b067 38 = .ok (.sipush 255, 3) := by decide +kernel
theorem dJ2_getChar_3b067_41 : decode cJ2_getChar_3b067 41 = .ok (.iand, 1) := by decide +kernel
theorem dJ2_getChar_3b067_42 : decode cJ2_getChar_3b067 42 = .ok (.getstatic 59, 3) := by decide +kernel
theorem dJ2_getChar_3b067_45 : decode cJ2_getChar_3b067 45 = .ok (.ishl, 1) := by decide +kernel
theorem dJ2_getChar_3b067_46 : decode cJ2_getChar_3b067 46 = .ok (.aload_n 0, 1) := by decide +kernel
theorem dJ2_getChar_3b067_47 : decode cJ2_getChar_3b067 47 = .ok (.iload_n 1, 1) := by decide +kernel
theorem dJ2_getChar_3b067_48 : decode cJ2_getChar_3b067 48 = .ok (.baload, 1) := by decide +kernel
theorem dJ2_getChar_3b067_49 : decode cJ2_getChar_3b067 49 = .ok (.sipush 255, 3) := by decide +kernel
theorem dJ2_getChar_3b067_52 : decode cJ2_getChar_3b067 52 = .ok (.iand, 1) := by decide +kernel
theorem dJ2_getChar_3b067_53 : decode cJ2_getChar_3b067 53 = .ok (.getstatic 63, 3) := by decide +kernel
theorem dJ2_getChar_3b067_56 : decode cJ2_getChar_3b067 56 = .ok (.ishl, 1) := by decide +kernel
theorem dJ2_getChar_3b067_57 : decode cJ2_getChar_3b067 57 = .ok (.ior, 1) := by decide +kernel
theorem dJ2_getChar_3b067_58 : decode cJ2_getChar_3b067 58 = .ok (.i2c, 1) := by decide +kernel
theorem dJ2_getChar_3b067_59 : decode cJ2_getChar_3b067 59 = .ok (.ireturn, 1) := by decide +kernel
theorem dJ2_length_9d52b_0 : decode cJ2_length_9d52b 0 = .ok (.aload_n 0, 1) := by decide +kernel
theorem dJ2_length_9d52b_1 : decode cJ2_length_9d52b 1 = .ok (.arraylength, 1) := by decide +kernel
theorem dJ2_length_9d52b_2 : decode cJ2_length_9d52b 2 = .ok (.iconst 1, 1) := by decide +kernel
theorem dJ2_length_9d52b_3 : decode cJ2_length_9d52b 3 = .ok (.ishr, 1) := by decide +kernel
theorem dJ2_length_9d52b_4 : decode cJ2_length_9d52b 4 = .ok (.ireturn, 1) := by decide +kernel
theorem dJ2_indexOf_4cfef_0 : decode cJ2_indexOf_4cfef 0 = .ok (.iload_n 2, 1) := by decide +kernel
theorem dJ2_indexOf_4cfef_1 : decode cJ2_indexOf_4cfef 1 = .ok (.iconst 0, 1) := by decide +kernel
theorem dJ2_indexOf_4cfef_2 : decode cJ2_indexOf_4cfef 2 = .ok (.invokestatic 224, 3) := by decide +kernel
theorem dJ2_indexOf_4cfef_5 : decode cJ2_indexOf_4cfef 5 = .ok (.istore_n 2, 1) := by decide +kernel
theorem dJ2_indexOf_4cfef_6 : decode cJ2_indexOf_4cfef 6 = .ok (.iload_n 3, 1) := by decide +kernel
theorem dJ2_indexOf_4cfef_7 : decode cJ2_indexOf_4cfef 7 = .ok (.aload_n 0, 1) := by decide +kernel
theorem dJ2_indexOf_4cfef_8 : decode cJ2_indexOf_4cfef 8 = .ok (.arraylength, 1) := by decide +kernel
theorem dJ2_indexOf_4cfef_9 : decode cJ2_indexOf_4cfef 9 = .ok (.iconst 1, 1) := by decide +kernel
theorem dJ2_indexOf_4cfef_10 : decode cJ2_indexOf_4cfef 10 = .ok (.ishr, 1) := by decide +kernel
theorem dJ2_indexOf_4cfef_11 : decode cJ2_indexOf_4cfef 11 = .ok (.invokestatic 183, 3) := by decide +kernel
theorem dJ2_indexOf_4cfef_14 : decode cJ2_indexOf_4cfef 14 = .ok (.istore_n 3, 1) := by decide +kernel
theorem dJ2_indexOf_4cfef_15 : decode cJ2_indexOf_4cfef 15 = .ok (.iload_n 2, 1) := by decide +kernel
theorem dJ2_indexOf_4cfef_16 : decode cJ2_indexOf_4cfef 16 = .ok (.iload_n 3, 1) := by decide +kernel
theorem dJ2_indexOf_4cfef_17 : decode cJ2_indexOf_4cfef 17 = .ok (.if_icmp .lt 5, 3) := by decide +kernel
theorem dJ2_indexOf_4cfef_20 : decode cJ2_indexOf_4cfef 20 = .ok (.iconst (-1), 1) := by decide +kernel
theorem dJ2_indexOf_4cfef_21 : decode cJ2_indexOf_4cfef 21 = .ok (.ireturn, 1) := by decide +kernel
theorem dJ2_indexOf_4cfef_22 : decode cJ2_indexOf_4cfef 22 = .ok (.iload_n 1, 1) := by decide +kernel
theorem dJ2_indexOf_4cfef_23 : decode cJ2_indexOf_4cfef 23 = .ok (.ldc 227, 2) := by decide +kernel
theorem dJ2_indexOf_4cfef_25 : decode cJ2_indexOf_4cfef 25 = .ok (.if_icmp .ge 11, 3) := by decide +kernel
theorem dJ2_indexOf_4cfef_28 : decode cJ2_indexOf_4cfef 28 = .ok (.aload_n 0, 1) := by decide +kernel
theorem dJ2_indexOf_4cfef_29 : decode cJ2_indexOf_4cfef 29 = .ok (.iload_n 1, 1) := by decide +kernel
theorem dJ2_indexOf_4cfef_30 : decode cJ2_indexOf_4cfef 30 = .ok (.iload_n 2, 1) := by decide +kernel
theorem dJ2_indexOf_4cfef_31 : decode cJ2_indexOf_4cfef 31 = .ok (.iload_n 3, 1) := by decide +kernel
theorem dJ2_indexOf_4cfef_32 : decode cJ2_indexOf_4cfef 32 = .ok (.invokestatic 228, 3) := by decide +kernel
theorem dJ2_indexOf_4cfef_35 : decode cJ2_indexOf_4cfef 35 = .ok (.ireturn, 1) := by decide +kernel
theorem dJ2_indexOf_4cfef_36 : decode cJ2_indexOf_4cfef 36 = .ok (.aload_n 0, 1) := by decide +kernel
theorem dJ2_indexOf_4cfef_37 : decode cJ2_indexOf_4cfef 37 = .ok (.iload_n 1, 1) := by decide +kernel
theorem dJ2_indexOf_4cfef_38 : decode cJ2_indexOf_4cfef 38 = .ok (.iload_n 2, 1) := by decide +kernel
theorem dJ2_indexOf_4cfef_39 : decode cJ2_indexOf_4cfef 39 = .ok (.iload_n 3, 1) := by decide +kernel
theorem dJ2_indexOf_4cfef_40 : decode cJ2_indexOf_4cfef 40 = .ok (.invokestatic 232, 3) := by decide +kernel
theorem dJ2_indexOf_4cfef_43 : decode cJ2_indexOf_4cfef 43 = .ok (.ireturn, 1) := by decide +kernel
theorem dJ2_indexOfChar_4cfef_0 : decode cJ2_indexOfChar_4cfef 0 = .ok (.iload_n 2, 1) := by decide +kernel
theorem dJ2_indexOfChar_4cfef_1 : decode cJ2_indexOfChar_4cfef 1 = .ok (.iload_n 3, 1) := by decide +kernel
theorem dJ2_indexOfChar_4cfef_2 : decode cJ2_indexOfChar_4cfef 2 = .ok (.aload_n 0, 1) := by decide +kernel
theorem dJ2_indexOfChar_4cfef_3 : decode cJ2_indexOfChar_4cfef 3 = .ok (.invokestatic 96, 3) := by decide +kernel
theorem dJ2_indexOfChar_4cfef_6 : decode cJ2_indexOfChar_4cfef 6 = .ok (.aload_n 0, 1) := by decide +kernel
theorem dJ2_indexOfChar_4cfef_7 : decode cJ2_indexOfChar_4cfef 7 = .ok (.iload_n 1, 1) := by decide +kernel
theorem dJ2_indexOfChar_4cfef_8 : decode cJ2_indexOfChar_4cfef 8 = .ok (.iload_n 2, 1) := by decide +kernel
theorem dJ2_indexOfChar_4cfef_9 : decode cJ2_indexOfChar_4cfef 9 = .ok (.iload_n 3, 1) := by decide +kernel
theorem dJ2_indexOfChar_4cfef_10 : decode cJ2_indexOfChar_4cfef 10 = .ok (.invokestatic 244, 3) := by decide +kernel
theorem dJ2_indexOfChar_4cfef_13 : decode cJ2_indexOfChar_4cfef 13 = .ok (.ireturn, 1) := by decide +kernel
theorem dJ2_indexOfCharUnsafe_4cfef_0 : decode cJ2_indexOfCharUnsafe_4cfef 0 = .ok (.iload_n 2, 1) := by decide +kernel
theorem dJ2_indexOfCharUnsafe_4cfef_1 : decode cJ2_indexOfCharUnsafe_4cfef 1 = .ok (.istore 4, 2) := by decide +kernel
theorem dJ2_indexOfCharUnsafe_4cfef_3 : decode cJ2_indexOfCharUnsafe_4cfef 3 = .ok (.iload 4, 2) := by decide +kernel
theorem dJ2_indexOfCharUnsafe_4cfef_5 : decode cJ2_indexOfCharUnsafe_4cfef 5 = .ok (.iload_n 3, 1) := by decide +kernel
theorem dJ2_indexOfCharUnsafe_4cfef_6 : decode cJ2_indexOfCharUnsafe_4cfef 6 = .ok (.if_icmp .ge 22, 3) := by decide +kernel
theorem dJ2_indexOfCharUnsafe_4cfef_9 : decode cJ2_indexOfCharUnsafe_4cfef 9 = .ok (.aload_n 0, 1) := by decide +kernel
theorem dJ2_indexOfCharUnsafe_4cfef_10 : decode cJ2_indexOfCharUnsafe_4cfef 10 = .ok (.iload 4, 2) := by decide +kernel
theorem dJ2_indexOfCharUnsafe_4cfef_12 : decode cJ2_indexOfCharUnsafe_4cfef 12 = .ok (.invokestatic 71, 3) := by decide +kernel
theorem dJ2_indexOfCharUnsafe_4cfef_15 : decode cJ2_indexOfCharUnsafe_4cfef 15 = .ok (.iload_n 1, 1) := by decide +kernel
theorem dJ2_indexOfCharUnsafe_4cfef_16 : decode cJ2_indexOfCharUnsafe_4cfef 16 = .ok (.if_icmp .ne 6, 3) := by decide +kernel
theorem dJ2_indexOfCharUnsafe_4cfef_19 : decode cJ2_indexOfCharUnsafe_4cfef 19 = .ok (.iload 4, 2) := by decide +kernel
theorem dJ2_indexOfCharUnsafe_4cfef_21 : decode cJ2_indexOfCharUnsafe_4cfef 21 = .ok (.ireturn, 1) := by decide +kernel
theorem dJ2_indexOfCharUnsafe_4cfef_22 : decode cJ2_indexOfCharUnsafe_4cfef 22 = .ok (.iinc 4 1, 3) := by decide +kernel
theorem dJ2_indexOfCharUnsafe_4cfef_25 : decode cJ2_indexOfCharUnsafe_4cfef 25 = .ok (.goto (-22), 3) := by decide +kernel
theorem dJ2_indexOfCharUnsafe_4cfef_28 : decode cJ2_indexOfCharUnsafe_4cfef 28 = .ok (.iconst (-1), 1) := by decide +kernel
theorem dJ2_indexOfCharUnsafe_4cfef_29 : decode cJ2_indexOfCharUnsafe_4cfef 29 = .ok (.ireturn, 1) := by decide +kernel
theorem dJ2_indexOfSupplementary_4cfef_0 : decode cJ2_indexOfSupplementary_4cfef 0 = .ok (.iload_n 1, 1) := by decide +kernel
theorem dJ2_indexOfSupplementary_4cfef_1 : decode cJ2_indexOfSupplementary_4cfef 1 = .ok (.invokestatic 164, 3) := by decide +kernel
theorem dJ2_indexOfSupplementary_4cfef_4 : decode cJ2_indexOfSupplementary_4cfef 4 = .ok (.ifCond .eq 65, 3) := by decide +kernel
theorem dJ2_indexOfSupplementary_4cfef_7 : decode cJ2_indexOfSupplementary_4cfef 7 = .ok (.iload_n 1, 1) := by decide +kernel
theorem dJ2_indexOfSupplementary_4cfef_8 : decode cJ2_indexOfSupplementary_4cfef 8 = .ok (.invokestatic 157, 3) := by decide +kernel
theorem dJ2_indexOfSupplementary_4cfef_11 : decode cJ2_indexOfSupplementary_4cfef 11 = .ok (.istore 4, 2) := by decide +kernel
theorem dJ2_indexOfSupplementary_4cfef_13 : decode cJ2_indexOfSupplementary_4cfef 13 = .ok (.iload_n 1, 1) := by decide +kernel
theorem dJ2_indexOfSupplementary_4cfef_14 : decode cJ2_indexOfSupplementary_4cfef 14 = .ok (.invokestatic 161, 3) := by decide +kernel
theorem dJ2_indexOfSupplementary_4cfef_17 : decode cJ2_indexOfSupplementary_4cfef 17 = .ok (.istore 5, 2) := by decide +kernel
theorem dJ2_indexOfSupplementary_4cfef_19 : decode cJ2_indexOfSupplementary_4cfef 19 = .ok (.iload_n 2, 1) := by decide +kernel
theorem dJ2_indexOfSupplementary_4cfef_20 : decode cJ2_indexOfSupplementary_4cfef 20 = .ok (.iload_n 3, 1) := by decide +kernel
theorem dJ2_indexOfSupplementary_4cfef_21 : decode cJ2_indexOfSupplementary_4cfef 21 = .ok (.aload_n 0, 1) := by decide +kernel
theorem dJ2_indexOfSupplementary_4cfef_22 : decode cJ2_indexOfSupplementary_4cfef 22 = .ok (.invokestatic 96, 3) := by decide +kernel
theorem dJ2_indexOfSupplementary_4cfef_25 : decode cJ2_indexOfSupplementary_4cfef 25 = .ok (.iload_n 2, 1) := by decide +kernel
theorem dJ2_indexOfSupplementary_4cfef_26 : decode cJ2_indexOfSupplementary_4cfef 26 = .ok (.istore 6, 2) := by decide +kernel
theorem dJ2_indexOfSupplementary_4cfef_28 : decode cJ2_indexOfSupplementary_4cfef 28 = .ok (.iload 6, 2) := by decide +kernel
theorem dJ2_indexOfSupplementary_4cfef_30 : decode cJ2_indexOfSupplementary_4cfef 30 = .ok (.iload_n 3, 1) := by decide +kernel
theorem dJ2_indexOfSupplementary_4cfef_31 : decode cJ2_indexOfSupplementary_4cfef 31 = .ok (.iconst 1, 1) := by decide +kernel
theorem dJ2_indexOfSupplementary_4cfef_32 : decode cJ2_indexOfSupplementary_4cfef 32 = .ok (.isub, 1) := by decide +kernel
theorem dJ2_indexOfSupplementary_4cfef_33 : decode cJ2_indexOfSupplementary_4cfef 33 = .ok (.if_icmp .ge 36, 3) := by decide +kernel
theorem dJ2_indexOfSupplementary_4cfef_36 : decode cJ2_indexOfSupplementary_4cfef 36 = .ok (.aload_n 0, 1) := by decide +kernel
theorem dJ2_indexOfSupplementary_4cfef_37 : decode cJ2_indexOfSupplementary_4cfef 37 = .ok (.iload 6, 2) := by decide +kernel
theorem dJ2_indexOfSupplementary_4cfef_39 : decode cJ2_indexOfSupplementary_4cfef 39 = .ok (.invokestatic 71, 3) := by decide +kernel
theorem dJ2_indexOfSupplementary_4cfef_42 : decode cJ2_indexOfSupplementary_4cfef 42 = .ok (.iload 4, 2) := by decide +kernel
theorem dJ2_indexOfSupplementary_4cfef_44 : decode cJ2_indexOfSupplementary_4cfef 44 = .ok (.if_icmp .ne 19, 3) := by decide +kernel
theorem dJ2_indexOfSupplementary_4cfef_47 : decode cJ2_indexOfSupplementary_4cfef 47 = .ok (.aload_n 0, 1) := by decide +kernel
theorem dJ2_indexOfSupplementary_4cfef_48 : decode cJ2_indexOfSupplementary_4cfef 48 = .ok (.iload 6, 2) := by decide +kernel
theorem dJ2_indexOfSupplementary_4cfef_50 : decode cJ2_indexOfSupplementary_4cfef 50 = .ok (.iconst 1, 1) := by decide +kernel
theorem dJ2_indexOfSupplementary_4cfef_51 : decode cJ2_indexOfSupplementary_4cfef 51 = .ok (.iadd, 1) := by decide +kernel
theorem dJ2_indexOfSupplementary_4cfef_52 : decode cJ2_indexOfSupplementary_4cfef 52 = .ok (.invokestatic 71, 3) := by decide +kernel
theorem dJ2_indexOfSupplementary_4cfef_55 : decode cJ2_indexOfSupplementary_4cfef 55 = .ok (.iload 5, 2) := by decide +kernel
theorem dJ2_indexOfSupplementary_4cfef_57 : decode cJ2_indexOfSupplementary_4cfef 57 = .ok (.if_icmp .ne 6, 3) := by decide +kernel
theorem dJ2_indexOfSupplementary_4cfef_60 : decode cJ2_indexOfSupplementary_4cfef 60 = .ok (.iload 6, 2) := by decide +kernel
theorem dJ2_indexOfSupplementary_4cfef_62 : decode cJ2_indexOfSupplementary_4cfef 62 = .ok (.ireturn, 1) := by decide +kernel
theorem dJ2_indexOfSupplementary_4cfef_63 : decode cJ2_indexOfSupplementary_4cfef 63 = .ok (.iinc 6 1, 3) := by decide +kernel
theorem dJ2_indexOfSupplementary_4cfef_66 : decode cJ2_indexOfSupplementary_4cfef 66 = .ok (.goto (-38), 3) := by decide +kernel
theorem dJ2_indexOfSupplementary_4cfef_69 : decode cJ2_indexOfSupplementary_4cfef 69 = .ok (.iconst (-1), 1) := by decide +kernel
theorem dJ2_indexOfSupplementary_4cfef_70 : decode cJ2_indexOfSupplementary_4cfef 70 = .ok (.ireturn, 1) := by decide +kernel
theorem dJ2_checkBoundsBeginEnd_d044e_0 : decode cJ2_checkBoundsBeginEnd_d044e 0 = .ok (.iload_n 0, 1) := by decide +kernel
theorem dJ2_checkBoundsBeginEnd_d044e_1 : decode cJ2_checkBoundsBeginEnd_d044e 1 = .ok (.iload_n 1, 1) := by decide +kernel
theorem dJ2_checkBoundsBeginEnd_d044e_2 : decode cJ2_checkBoundsBeginEnd_d044e 2 = .ok (.aload_n 2, 1) := by decide +kernel
theorem dJ2_checkBoundsBeginEnd_d044e_3 : decode cJ2_checkBoundsBeginEnd_d044e 3 = .ok (.invokestatic 48, 3) := by decide +kernel
theorem dJ2_checkBoundsBeginEnd_d044e_6 : decode cJ2_checkBoundsBeginEnd_d044e 6 = .ok (.invokestatic 241, 3) := by decide +kernel
theorem dJ2_checkBoundsBeginEnd_d044e_9 : decode cJ2_checkBoundsBeginEnd_d044e 9 = .ok (.return_, 1) := by decide +kernel
theorem dJ3_checkFromToIndex_8c36e_0 : decode cJ3_checkFromToIndex_8c36e 0 = .ok (.iload_n 0, 1) := by decide +kernel
theorem dJ3_checkFromToIndex_8c36e_1 : decode cJ3_checkFromToIndex_8c36e 1 = .ok (.ifCond .lt 13, 3) := by decide +kernel
theorem dJ3_checkFromToIndex_8c36e_4 : decode cJ3_checkFromToIndex_8c36e 4 = .ok (.iload_n 0, 1) := by decide +kernel
theorem dJ3_checkFromToIndex_8c36e_5 : decode cJ3_checkFromToIndex_8c36e 5 = .ok (.iload_n 1, 1) := by decide +kernel
theorem dJ3_checkFromToIndex_8c36e_6 : decode cJ3_checkFromToIndex_8c36e 6 = .ok (.if_icmp .gt 8, 3) := by decide +kernel
theorem dJ3_checkFromToIndex_8c36e_9 : decode cJ3_checkFromToIndex_8c36e 9 = .ok (.iload_n 1, 1) := by decide +kernel
theorem dJ3_checkFromToIndex_8c36e_10 : decode cJ3_checkFromToIndex_8c36e 10 = .ok (.iload_n 2, 1) := by decide +kernel
theorem dJ3_checkFromToIndex_8c36e_11 : decode cJ3_checkFromToIndex_8c36e 11 = .ok (.if_icmp .le 11, 3) := by decide +kernel
theorem dJ3_checkFromToIndex_8c36e_14 : decode cJ3_checkFromToIndex_8c36e 14 = .ok (.aload_n 3, 1) := by decide +kernel
theorem dJ3_checkFromToIndex_8c36e_15 : decode cJ3_checkFromToIndex_8c36e 15 = .ok (.iload_n 0, 1) := by decide +kernel
theorem dJ3_checkFromToIndex_8c36e_16 : decode cJ3_checkFromToIndex_8c36e 16 = .ok (.iload_n 1, 1) := by decide +kernel
theorem dJ3_checkFromToIndex_8c36e_17 : decode cJ3_checkFromToIndex_8c36e 17 = .ok (.iload_n 2, 1) := by decide +kernel
theorem dJ3_checkFromToIndex_8c36e_18 : decode cJ3_checkFromToIndex_8c36e 18 = .ok (.invokestatic 99, 3) := by decide +kernel
theorem dJ3_checkFromToIndex_8c36e_21 : decode cJ3_checkFromToIndex_8c36e 21 = .ok (.athrow, 1) := by decide +kernel
theorem dJ3_checkFromToIndex_8c36e_22 : decode cJ3_checkFromToIndex_8c36e 22 = .ok (.iload_n 0, 1) := by decide +kernel
theorem dJ3_checkFromToIndex_8c36e_23 : decode cJ3_checkFromToIndex_8c36e 23 = .ok (.ireturn, 1) := by decide +kernel
