theorem dX10_flush_8 : decode cX10_flush 8 = .ok (.aload_n 0, 1) := by decide +kernel
theorem dX10_flush_9 : decode cX10_flush 9 = .ok (.getfield 12, 3) := by decide +kernel
theorem dX10_flush_12 : decode cX10_flush 12 = .ok (.invokevirtual 97, 3) := by decide +kernel
theorem dX10_flush_15 : decode cX10_flush 15 = .ok (.iload_n 1, 1) := by decide +kernel
theorem dX10_flush_16 : decode cX10_flush 16 = .ok (.ireturn, 1) := by decide +kernel
theorem dX10_read_0 : decode cX10_read 0 = .ok (.iload_n 1, 1) := by decide +kernel
theorem dX10_read_1 : decode cX10_read 1 = .ok (.iload_n 2, 1) := by decide +kernel
theorem dX10_read_2 : decode cX10_read 2 = .ok (.invokestatic 100, 3) := by decide +kernel
theorem dX10_read_5 : decode cX10_read 5 = .ok (.ifCond .ne 13, 3) := by decide +kernel
theorem dX10_read_8 : decode cX10_read 8 = .ok (.new 104, 3) := by decide +kernel
theorem dX10_read_11 : decode cX10_read 11 = .ok (.dup, 1) := by decide +kernel
theorem dX10_read_12 : decode cX10_read 12 = .ok (.ldc 106, 2) := by decide +kernel
theorem dX10_read_14 : decode cX10_read 14 = .ok (.invokespecial 108, 3) := by decide +kernel
theorem dX10_read_17 : decode cX10_read 17 = .ok (.athrow, 1) := by decide +kernel
theorem dX10_read_18 : decode cX10_read 18 = .ok (.aload_n 0, 1) := by decide +kernel
theorem dX10_read_19 : decode cX10_read 19 = .ok (.getfield 12, 3) := by decide +kernel
theorem dX10_read_22 : decode cX10_read 22 = .ok (.getfield 111, 3) := by decide +kernel
theorem dX10_read_25 : decode cX10_read 25 = .ok (.iconst 2, 1) := by decide +kernel
theorem dX10_read_26 : decode cX10_read 26 = .ok (.iload_n 1, 1) := by decide +kernel
theorem dX10_read_27 : decode cX10_read 27 = .ok (.imul, 1) := by decide +kernel
theorem dX10_read_28 : decode cX10_read 28 = .ok (.iload_n 2, 1) := by decide +kernel
theorem dX10_read_29 : decode cX10_read 29 = .ok (.iadd, 1) := by decide +kernel
theorem dX10_read_30 : decode cX10_read 30 = .ok (.iaload, 1) := by decide +kernel
theorem dX10_read_31 : decode cX10_read 31 = .ok (.ireturn, 1) := by decide +kernel
theorem dX10_plate_0 : decode cX10_plate 0 = .ok (.iload_n 1, 1) := by decide +kernel
theorem dX10_plate_1 : decode cX10_plate 1 = .ok (.iload_n 2, 1) := by decide +kernel
theorem dX10_plate_2 : decode cX10_plate 2 = .ok (.invokestatic 100, 3) := by decide +kernel
theorem dX10_plate_5 : decode cX10_plate 5 = .ok (.ifCond .ne 13, 3) := by decide +kernel
theorem dX10_plate_8 : decode cX10_plate 8 = .ok (.new 104, 3) := by decide +kernel
theorem dX10_plate_11 : decode cX10_plate 11 = .ok (.dup, 1) := by decide +kernel
theorem dX10_plate_12 : decode cX10_plate 12 = .ok (.ldc 106, 2) := by decide +kernel
theorem dX10_plate_14 : decode cX10_plate 14 = .ok (.invokespecial 108, 3) := by decide +kernel
theorem dX10_plate_17 : decode cX10_plate 17 = .ok (.athrow, 1) := by decide +kernel
theorem dX10_plate_18 : decode cX10_plate 18 = .ok (.aload_n 0, 1) := by decide +kernel
theorem dX10_plate_19 : decode cX10_plate 19 = .ok (.getfield 12, 3) := by decide +kernel
theorem dX10_plate_22 : decode cX10_plate 22 = .ok (.getfield 114, 3) := by decide +kernel
theorem dX10_plate_25 : decode cX10_plate 25 = .ok (.iconst 2, 1) := by decide +kernel
theorem dX10_plate_26 : decode cX10_plate 26 = .ok (.iload_n 1, 1) := by decide +kernel
theorem dX10_plate_27 : decode cX10_plate 27 = .ok (.imul, 1) := by decide +kernel
theorem dX10_plate_28 : decode cX10_plate 28 = .ok (.iload_n 2, 1) := by decide +kernel
theorem dX10_plate_29 : decode cX10_plate 29 = .ok (.iadd, 1) := by decide +kernel
theorem dX10_plate_30 : decode cX10_plate 30 = .ok (.iaload, 1) := by decide +kernel
theorem dX10_plate_31 : decode cX10_plate 31 = .ok (.ireturn, 1) := by decide +kernel
theorem dX10_entry_0 : decode cX10_entry 0 = .ok (.iload_n 1, 1) := by decide +kernel
theorem dX10_entry_1 : decode cX10_entry 1 = .ok (.ifCond .lt 14, 3) := by decide +kernel
theorem dX10_entry_4 : decode cX10_entry 4 = .ok (.iload_n 1, 1) := by decide +kernel
theorem dX10_entry_5 : decode cX10_entry 5 = .ok (.aload_n 0, 1) := by decide +kernel
theorem dX10_entry_6 : decode cX10_entry 6 = .ok (.getfield 12, 3) := by decide +kernel
theorem dX10_entry_9 : decode cX10_entry 9 = .ok (.getfield 88, 3) := by decide +kernel
theorem dX10_entry_12 : decode cX10_entry 12 = .ok (.if_icmp .lt 9, 3) := by decide +kernel
theorem dX10_entry_15 : decode cX10_entry 15 = .ok (.aload_n 0, 1) := by decide +kernel
theorem dX10_entry_16 : decode cX10_entry 16 = .ok (.iconst (-1), 1) := by decide +kernel
theorem dX10_entry_17 : decode cX10_entry 17 = .ok (.invokevirtual 77, 3) := by decide +kernel
theorem dX10_entry_20 : decode cX10_entry 20 = .ok (.ireturn, 1) := by decide +kernel
theorem dX10_entry_21 : decode cX10_entry 21 = .ok (.iload_n 2, 1) := by decide +kernel
theorem dX10_entry_22 : decode cX10_entry 22 = .ok (.tableswitch 70 0 3 #[30, 40, 50, 60], 30) := by decide +kernel
theorem dX10_entry_52 : decode cX10_entry 52 = .ok (.aload_n 0, 1) := by decide +kernel
theorem dX10_entry_53 : decode cX10_entry 53 = .ok (.getfield 12, 3) := by decide +kernel
theorem dX10_entry_56 : decode cX10_entry 56 = .ok (.getfield 117, 3) := by decide +kernel
theorem dX10_entry_59 : decode cX10_entry 59 = .ok (.iload_n 1, 1) := by decide +kernel
theorem dX10_entry_60 : decode cX10_entry 60 = .ok (.iaload, 1) := by decide +kernel
theorem dX10_entry_61 : decode cX10_entry 61 = .ok (.ireturn, 1) := by decide +kernel
theorem dX10_entry_62 : decode cX10_entry 62 = .ok (.aload_n 0, 1) := by decide +kernel
theorem dX10_entry_63 : decode cX10_entry 63 = .ok (.getfield 12, 3) := by decide +kernel
theorem dX10_entry_66 : decode cX10_entry 66 = .ok (.getfield 120, 3) := by decide +kernel
theorem dX10_entry_69 : decode cX10_entry 69 = .ok (.iload_n 1, 1) := by decide +kernel
theorem dX10_entry_70 : decode cX10_entry 70 = .ok (.iaload, 1) := by decide +kernel
theorem dX10_entry_71 : decode cX10_entry 71 = .ok (.ireturn, 1) := by decide +kernel
theorem dX10_entry_72 : decode cX10_entry 72 = .ok (.aload_n 0, 1) := by decide +kernel
theorem dX10_entry_73 : decode cX10_entry 73 = .ok (.getfield 12, 3) := by decide +kernel
theorem dX10_entry_76 : decode cX10_entry 76 = .ok (.getfield 123, 3) := by decide +kernel
theorem dX10_entry_79 : decode cX10_entry 79 = .ok (.iload_n 1, 1) := by decide +kernel
theorem dX10_entry_80 : decode cX10_entry 80 = .ok (.iaload, 1) := by decide +kernel
theorem dX10_entry_81 : decode cX10_entry 81 = .ok (.ireturn, 1) := by decide +kernel
theorem dX10_entry_82 : decode cX10_entry 82 = .ok (.aload_n 0, 1) := by decide +kernel
theorem dX10_entry_83 : decode cX10_entry 83 = .ok (.getfield 12, 3) := by decide +kernel
theorem dX10_entry_86 : decode cX10_entry 86 = .ok (.getfield 126, 3) := by decide +kernel
theorem dX10_entry_89 : decode cX10_entry 89 = .ok (.iload_n 1, 1) := by decide +kernel
theorem dX10_entry_90 : decode cX10_entry 90 = .ok (.iaload, 1) := by decide +kernel
theorem dX10_entry_91 : decode cX10_entry 91 = .ok (.ireturn, 1) := by decide +kernel
theorem dX10_entry_92 : decode cX10_entry 92 = .ok (.bipush (-9), 2) := by decide +kernel
theorem dX10_entry_94 : decode cX10_entry 94 = .ok (.ireturn, 1) := by decide +kernel
theorem dX10_states_0 : decode cX10_states 0 = .ok (.aload_n 0, 1) := by decide +kernel
theorem dX10_states_1 : decode cX10_states 1 = .ok (.getfield 19, 3) := by decide +kernel
theorem dX10_states_4 : decode cX10_states 4 = .ok (.aload_n 0, 1) := by decide +kernel
theorem dX10_states_5 : decode cX10_states 5 = .ok (.getfield 12, 3) := by decide +kernel
theorem dX10_states_8 : decode cX10_states 8 = .ok (.invokevirtual 129, 3) := by decide +kernel
theorem dX10_states_11 : decode cX10_states 11 = .ok (.aload_n 0, 1) := by decide +kernel
theorem dX10_states_12 : decode cX10_states 12 = .ok (.getfield 19, 3) := by decide +kernel
theorem dX10_states_15 : decode cX10_states 15 = .ok (.getfield 133, 3) := by decide +kernel
theorem dX10_states_18 : decode cX10_states 18 = .ok (.sipush 4096, 3) := by decide +kernel
theorem dX10_states_21 : decode cX10_states 21 = .ok (.if_icmp .le 12, 3) := by decide +kernel
theorem dX10_states_24 : decode cX10_states 24 = .ok (.aload_n 0, 1) := by decide +kernel
theorem dX10_states_25 : decode cX10_states 25 = .ok (.bipush (-6), 2) := by decide +kernel
theorem dX10_states_27 : decode cX10_states 27 = .ok (.invokevirtual 77, 3) := by decide +kernel
theorem dX10_states_30 : decode cX10_states 30 = .ok (.goto 10, 3) := by decide +kernel
theorem dX10_states_33 : decode cX10_states 33 = .ok (.aload_n 0, 1) := by decide +kernel
theorem dX10_states_34 : decode cX10_states 34 = .ok (.getfield 19, 3) := by decide +kernel
theorem dX10_states_37 : decode cX10_states 37 = .ok (.getfield 133, 3) := by decide +kernel
theorem dX10_states_40 : decode cX10_states 40 = .ok (.ireturn, 1) := by decide +kernel
theorem dX10_state_0 : decode cX10_state 0 = .ok (.iload_n 2, 1) := by decide +kernel
theorem dX10_state_1 : decode cX10_state 1 = .ok (.iload_n 3, 1) := by decide +kernel
theorem dX10_state_2 : decode cX10_state 2 = .ok (.invokestatic 100, 3) := by decide +kernel
theorem dX10_state_5 : decode cX10_state 5 = .ok (.ifCond .ne 13, 3) := by decide +kernel
theorem dX10_state_8 : decode cX10_state 8 = .ok (.new 104, 3) := by decide +kernel
theorem dX10_state_11 : decode cX10_state 11 = .ok (.dup, 1) := by decide +kernel
theorem dX10_state_12 : decode cX10_state 12 = .ok (.ldc 106, 2) := by decide +kernel
theorem dX10_state_14 : decode cX10_state 14 = .ok (.invokespecial 108, 3) := by decide +kernel
theorem dX10_state_17 : decode cX10_state 17 = .ok (.athrow, 1) := by decide +kernel
theorem dX10_state_18 : decode cX10_state 18 = .ok (.aload_n 0, 1) := by decide +kernel
theorem dX10_state_19 : decode cX10_state 19 = .ok (.getfield 19, 3) := by decide +kernel
theorem dX10_state_22 : decode cX10_state 22 = .ok (.aload_n 0, 1) := by decide +kernel
theorem dX10_state_23 : decode cX10_state 23 = .ok (.getfield 12, 3) := by decide +kernel
theorem dX10_state_26 : decode cX10_state 26 = .ok (.invokevirtual 129, 3) := by decide +kernel
theorem dX10_state_29 : decode cX10_state 29 = .ok (.aload_n 0, 1) := by decide +kernel
theorem dX10_state_30 : decode cX10_state 30 = .ok (.getfield 19, 3) := by decide +kernel
theorem dX10_state_33 : decode cX10_state 33 = .ok (.getfield 133, 3) := by decide +kernel
theorem dX10_state_36 : decode cX10_state 36 = .ok (.sipush 4096, 3) := by decide +kernel
theorem dX10_state_39 : decode cX10_state 39 = .ok (.if_icmp .gt 18, 3) := by decide +kernel
theorem dX10_state_42 : decode cX10_state 42 = .ok (.iload_n 1, 1) := by decide +kernel
theorem dX10_state_43 : decode cX10_state 43 = .ok (.ifCond .lt 14, 3) := by decide +kernel
theorem dX10_state_46 : decode cX10_state 46 = .ok (.iload_n 1, 1) := by decide +kernel
theorem dX10_state_47 : decode cX10_state 47 = .ok (.aload_n 0, 1) := by decide +kernel
theorem dX10_state_48 : decode cX10_state 48 = .ok (.getfield 19, 3) := by decide +kernel
theorem dX10_state_51 : decode cX10_state 51 = .ok (.getfield 133, 3) := by decide +kernel
theorem dX10_state_54 : decode cX10_state 54 = .ok (.if_icmp .lt 13, 3) := by decide +kernel
theorem dX10_state_57 : decode cX10_state 57 = .ok (.new 104, 3) := by decide +kernel
theorem dX10_state_60 : decode cX10_state 60 = .ok (.dup, 1) := by decide +kernel
theorem dX10_state_61 : decode cX10_state 61 = .ok (.ldc 136, 2) := by decide +kernel
theorem dX10_state_63 : decode cX10_state 63 = .ok (.invokespecial 108, 3) := by decide +kernel
theorem dX10_state_66 : decode cX10_state 66 = .ok (.athrow, 1) := by decide +kernel
theorem dX10_state_67 : decode cX10_state 67 = .ok (.aload_n 0, 1) := by decide +kernel
theorem dX10_state_68 : decode cX10_state 68 = .ok (.getfield 19, 3) := by decide +kernel
theorem dX10_state_71 : decode cX10_state 71 = .ok (.iload_n 1, 1) := by decide +kernel
theorem dX10_state_72 : decode cX10_state 72 = .ok (.invokevirtual 138, 3) := by decide +kernel
theorem dX10_state_75 : decode cX10_state 75 = .ok (.aload_n 0, 1) := by decide +kernel
theorem dX10_state_76 : decode cX10_state 76 = .ok (.getfield 19, 3) := by decide +kernel
theorem dX10_state_79 : decode cX10_state 79 = .ok (.getfield 142, 3) := by decide +kernel
theorem dX10_state_82 : decode cX10_state 82 = .ok (.iconst 2, 1) := by decide +kernel
theorem dX10_state_83 : decode cX10_state 83 = .ok (.iload_n 2, 1) := by decide +kernel
theorem dX10_state_84 : decode cX10_state 84 = .ok (.imul, 1) := by decide +kernel
theorem dX10_state_85 : decode cX10_state 85 = .ok (.iload_n 3, 1) := by decide +kernel
theorem dX10_state_86 : decode cX10_state 86 = .ok (.iadd, 1) := by decide +kernel
theorem dX10_state_87 : decode cX10_state 87 = .ok (.iaload, 1) := by decide +kernel
theorem dX10_state_88 : decode cX10_state 88 = .ok (.ireturn, 1) := by decide +kernel
theorem dX10_fall_0 : decode cX10_fall 0 = .ok (.aload_n 0, 1) := by decide +kernel
theorem dX10_fall_1 : decode cX10_fall 1 = .ok (.getfield 19, 3) := by decide +kernel
theorem dX10_fall_4 : decode cX10_fall 4 = .ok (.aload_n 0, 1) := by decide +kernel
theorem dX10_fall_5 : decode cX10_fall 5 = .ok (.getfield 12, 3) := by decide +kernel
theorem dX10_fall_8 : decode cX10_fall 8 = .ok (.invokevirtual 129, 3) := by decide +kernel
theorem dX10_fall_11 : decode cX10_fall 11 = .ok (.aload_n 0, 1) := by decide +kernel
theorem dX10_fall_12 : decode cX10_fall 12 = .ok (.getfield 19, 3) := by decide +kernel
theorem dX10_fall_15 : decode cX10_fall 15 = .ok (.getfield 133, 3) := by decide +kernel
theorem dX10_fall_18 : decode cX10_fall 18 = .ok (.sipush 4096, 3) := by decide +kernel
theorem dX10_fall_21 : decode cX10_fall 21 = .ok (.if_icmp .le 10, 3) := by decide +kernel
theorem dX10_fall_24 : decode cX10_fall 24 = .ok (.aload_n 0, 1) := by decide +kernel
theorem dX10_fall_25 : decode cX10_fall 25 = .ok (.bipush (-6), 2) := by decide +kernel
theorem dX10_fall_27 : decode cX10_fall 27 = .ok (.invokevirtual 77, 3) := by decide +kernel
theorem dX10_fall_30 : decode cX10_fall 30 = .ok (.ireturn, 1) := by decide +kernel
theorem dX10_fall_31 : decode cX10_fall 31 = .ok (.iload_n 1, 1) := by decide +kernel
theorem dX10_fall_32 : decode cX10_fall 32 = .ok (.ifCond .lt 14, 3) := by decide +kernel
theorem dX10_fall_35 : decode cX10_fall 35 = .ok (.iload_n 1, 1) := by decide +kernel
theorem dX10_fall_36 : decode cX10_fall 36 = .ok (.aload_n 0, 1) := by decide +kernel
theorem dX10_fall_37 : decode cX10_fall 37 = .ok (.getfield 19, 3) := by decide +kernel
theorem dX10_fall_40 : decode cX10_fall 40 = .ok (.getfield 133, 3) := by decide +kernel
theorem dX10_fall_43 : decode cX10_fall 43 = .ok (.if_icmp .lt 9, 3) := by decide +kernel
theorem dX10_fall_46 : decode cX10_fall 46 = .ok (.aload_n 0, 1) := by decide +kernel
theorem dX10_fall_47 : decode cX10_fall 47 = .ok (.iconst (-1), 1) := by decide +kernel
theorem dX10_fall_48 : decode cX10_fall 48 = .ok (.invokevirtual 77, 3) := by decide +kernel
theorem dX10_fall_51 : decode cX10_fall 51 = .ok (.ireturn, 1) := by decide +kernel
theorem dX10_fall_52 : decode cX10_fall 52 = .ok (.aload_n 0, 1) := by decide +kernel
theorem dX10_fall_53 : decode cX10_fall 53 = .ok (.getfield 19, 3) := by decide +kernel
theorem dX10_fall_56 : decode cX10_fall 56 = .ok (.iload_n 1, 1) := by decide +kernel
theorem dX10_fall_57 : decode cX10_fall 57 = .ok (.invokevirtual 138, 3) := by decide +kernel
theorem dX10_fall_60 : decode cX10_fall 60 = .ok (.aload_n 0, 1) := by decide +kernel
theorem dX10_fall_61 : decode cX10_fall 61 = .ok (.getfield 12, 3) := by decide +kernel
theorem dX10_fall_64 : decode cX10_fall 64 = .ok (.aload_n 0, 1) := by decide +kernel
theorem dX10_fall_65 : decode cX10_fall 65 = .ok (.getfield 19, 3) := by decide +kernel
theorem dX10_fall_68 : decode cX10_fall 68 = .ok (.getfield 142, 3) := by decide +kernel
theorem dX10_fall_71 : decode cX10_fall 71 = .ok (.invokevirtual 145, 3) := by decide +kernel
theorem dX10_fall_74 : decode cX10_fall 74 = .ok (.aload_n 0, 1) := by decide +kernel
theorem dX10_fall_75 : decode cX10_fall 75 = .ok (.dup, 1) := by decide +kernel
theorem dX10_fall_76 : decode cX10_fall 76 = .ok (.getfield 70, 3) := by decide +kernel
theorem dX10_fall_79 : decode cX10_fall 79 = .ok (.iconst 1, 1) := by decide +kernel
theorem dX10_fall_80 : decode cX10_fall 80 = .ok (.iadd, 1) := by decide +kernel
theorem dX10_fall_81 : decode cX10_fall 81 = .ok (.putfield 70, 3) := by decide +kernel
theorem dX10_fall_84 : decode cX10_fall 84 = .ok (.iconst 1, 1) := by decide +kernel
theorem dX10_fall_85 : decode cX10_fall 85 = .ok (.ireturn, 1) := by decide +kernel
theorem dX10_store_0 : decode cX10_store 0 = .ok (.aload_n 0, 1) := by decide +kernel
theorem dX10_store_1 : decode cX10_store 1 = .ok (.iload_n 1, 1) := by decide +kernel
theorem dX10_store_2 : decode cX10_store 2 = .ok (.invokevirtual 149, 3) := by decide +kernel
theorem dX10_store_5 : decode cX10_store 5 = .ok (.ifCond .ne 10, 3) := by decide +kernel
theorem dX10_store_8 : decode cX10_store 8 = .ok (.aload_n 0, 1) := by decide +kernel
theorem dX10_store_9 : decode cX10_store 9 = .ok (.bipush (-2), 2) := by decide +kernel
theorem dX10_store_11 : decode cX10_store 11 = .ok (.invokevirtual 77, 3) := by decide +kernel
theorem dX10_store_14 : decode cX10_store 14 = .ok (.ireturn, 1) := by decide +kernel
theorem dX10_store_15 : decode cX10_store 15 = .ok (.aload_n 0, 1) := by decide +kernel
theorem dX10_store_16 : decode cX10_store 16 = .ok (.iload_n 1, 1) := by decide +kernel
theorem dX10_store_17 : decode cX10_store 17 = .ok (.putfield 66, 3) := by decide +kernel
theorem dX10_store_20 : decode cX10_store 20 = .ok (.aload_n 0, 1) := by decide +kernel
theorem dX10_store_21 : decode cX10_store 21 = .ok (.getfield 12, 3) := by decide +kernel
theorem dX10_store_24 : decode cX10_store 24 = .ok (.aload_n 0, 1) := by decide +kernel
theorem dX10_store_25 : decode cX10_store 25 = .ok (.getfield 55, 3) := by decide +kernel
theorem dX10_store_28 : decode cX10_store 28 = .ok (.iload_n 1, 1) := by decide +kernel
theorem dX10_store_29 : decode cX10_store 29 = .ok (.aaload, 1) := by decide +kernel
theorem dX10_store_30 : decode cX10_store 30 = .ok (.invokevirtual 152, 3) := by decide +kernel
theorem dX10_store_33 : decode cX10_store 33 = .ok (.aload_n 0, 1) := by decide +kernel
theorem dX10_store_34 : decode cX10_store 34 = .ok (.getfield 55, 3) := by decide +kernel
theorem dX10_store_37 : decode cX10_store 37 = .ok (.iload_n 1, 1) := by decide +kernel
theorem dX10_store_38 : decode cX10_store 38 = .ok (.aaload, 1) := by decide +kernel
theorem dX10_store_39 : decode cX10_store 39 = .ok (.invokevirtual 156, 3) := by decide +kernel
theorem dX10_store_42 : decode cX10_store 42 = .ok (.ireturn, 1) := by decide +kernel
theorem dX10_put_0 : decode cX10_put 0 = .ok (.aload_n 0, 1) := by decide +kernel
theorem dX10_put_1 : decode cX10_put 1 = .ok (.invokevirtual 160, 3) := by decide +kernel
theorem dX10_put_4 : decode cX10_put 4 = .ok (.ifCond .ne 10, 3) := by decide +kernel
theorem dX10_put_7 : decode cX10_put 7 = .ok (.aload_n 0, 1) := by decide +kernel
theorem dX10_put_8 : decode cX10_put 8 = .ok (.bipush (-5), 2) := by decide +kernel
theorem dX10_put_10 : decode cX10_put 10 = .ok (.invokevirtual 77, 3) := by decide +kernel
theorem dX10_put_13 : decode cX10_put 13 = .ok (.ireturn, 1) := by decide +kernel
theorem dX10_put_14 : decode cX10_put 14 = .ok (.iload_n 1, 1) := by decide +kernel
theorem dX10_put_15 : decode cX10_put 15 = .ok (.invokestatic 164, 3) := by decide +kernel
theorem dX10_put_18 : decode cX10_put 18 = .ok (.ifCond .ne 9, 3) := by decide +kernel
theorem dX10_put_21 : decode cX10_put 21 = .ok (.aload_n 0, 1) := by decide +kernel
theorem dX10_put_22 : decode cX10_put 22 = .ok (.iconst (-1), 1) := by decide +kernel
theorem dX10_put_23 : decode cX10_put 23 = .ok (.invokevirtual 77, 3) := by decide +kernel
theorem dX10_put_26 : decode cX10_put 26 = .ok (.ireturn, 1) := by decide +kernel
theorem dX10_put_27 : decode cX10_put 27 = .ok (.aload_n 0, 1) := by decide +kernel
theorem dX10_put_28 : decode cX10_put 28 = .ok (.getfield 26, 3) := by decide +kernel
theorem dX10_put_31 : decode cX10_put 31 = .ok (.aload_n 0, 1) := by decide +kernel
theorem dX10_put_32 : decode cX10_put 32 = .ok (.getfield 59, 3) := by decide +kernel
theorem dX10_put_35 : decode cX10_put 35 = .ok (.aload_n 0, 1) := by decide +kernel
theorem dX10_put_36 : decode cX10_put 36 = .ok (.getfield 66, 3) := by decide +kernel
theorem dX10_put_39 : decode cX10_put 39 = .ok (.iaload, 1) := by decide +kernel
theorem dX10_put_40 : decode cX10_put 40 = .ok (.invokevirtual 167, 3) := by decide +kernel
theorem dX10_put_43 : decode cX10_put 43 = .ok (.aload_n 0, 1) := by decide +kernel
theorem dX10_put_44 : decode cX10_put 44 = .ok (.getfield 55, 3) := by decide +kernel
theorem dX10_put_47 : decode cX10_put 47 = .ok (.aload_n 0, 1) := by decide +kernel
theorem dX10_put_48 : decode cX10_put 48 = .ok (.getfield 66, 3) := by decide +kernel
theorem dX10_put_51 : decode cX10_put 51 = .ok (.aaload, 1) := by decide +kernel
theorem dX10_put_52 : decode cX10_put 52 = .ok (.aload_n 0, 1) := by decide +kernel
theorem dX10_put_53 : decode cX10_put 53 = .ok (.getfield 12, 3) := by decide +kernel
theorem dX10_put_56 : decode cX10_put 56 = .ok (.getfield 111, 3) := by decide +kernel
theorem dX10_put_59 : decode cX10_put 59 = .ok (.iload_n 1, 1) := by decide +kernel
theorem dX10_put_60 : decode cX10_put 60 = .ok (.lload_n 2, 1) := by decide +kernel
theorem dX10_put_61 : decode cX10_put 61 = .ok (.aload_n 0, 1) := by decide +kernel
theorem dX10_put_62 : decode cX10_put 62 = .ok (.getfield 26, 3) := by decide +kernel
theorem dX10_put_65 : decode cX10_put 65 = .ok (.invokevirtual 170, 3) := by decide +kernel
theorem dX10_put_68 : decode cX10_put 68 = .ok (.aload_n 0, 1) := by decide +kernel
theorem dX10_put_69 : decode cX10_put 69 = .ok (.invokevirtual 174, 3) := by decide +kernel
theorem dX10_put_72 : decode cX10_put 72 = .ok (.ireturn, 1) := by decide +kernel
theorem dX10_move_0 : decode cX10_move 0 = .ok (.aload_n 0, 1) := by decide +kernel
theorem dX10_move_1 : decode cX10_move 1 = .ok (.invokevirtual 160, 3) := by decide +kernel
theorem dX10_move_4 : decode cX10_move 4 = .ok (.ifCond .ne 10, 3) := by decide +kernel
theorem dX10_move_7 : decode cX10_move 7 = .ok (.aload_n 0, 1) := by decide +kernel
theorem dX10_move_8 : decode cX10_move 8 = .ok (.bipush (-5), 2) := by decide +kernel
theorem dX10_move_10 : decode cX10_move 10 = .ok (.invokevirtual 77, 3) := by decide +kernel
theorem dX10_move_13 : decode cX10_move 13 = .ok (.ireturn, 1) := by decide +kernel
theorem dX10_move_14 : decode cX10_move 14 = .ok (.iload_n 1, 1) := by decide +kernel
theorem dX10_move_15 : decode cX10_move 15 = .ok (.iload_n 2, 1) := by decide +kernel
theorem dX10_move_16 : decode cX10_move 16 = .ok (.invokestatic 177, 3) := by decide +kernel
theorem dX10_move_19 : decode cX10_move 19 = .ok (.ifCond .ne 9, 3) := by decide +kernel
theorem dX10_move_22 : decode cX10_move 22 = .ok (.aload_n 0, 1) := by decide +kernel
theorem dX10_move_23 : decode cX10_move 23 = .ok (.iconst (-1), 1) := by decide +kernel
theorem dX10_move_24 : decode cX10_move 24 = .ok (.invokevirtual 77, 3) := by decide +kernel
theorem dX10_move_27 : decode cX10_move 27 = .ok (.ireturn, 1) := by decide +kernel
theorem dX10_move_28 : decode cX10_move 28 = .ok (.aload_n 0, 1) := by decide +kernel
theorem dX10_move_29 : decode cX10_move 29 = .ok (.getfield 26, 3) := by decide +kernel
theorem dX10_move_32 : decode cX10_move 32 = .ok (.aload_n 0, 1) := by decide +kernel
theorem dX10_move_33 : decode cX10_move 33 = .ok (.getfield 59, 3) := by decide +kernel
theorem dX10_move_36 : decode cX10_move 36 = .ok (.aload_n 0, 1) := by decide +kernel
theorem dX10_move_37 : decode cX10_move 37 = .ok (.getfield 66, 3) := by decide +kernel
theorem dX10_move_40 : decode cX10_move 40 = .ok (.iaload, 1) := by decide +kernel
theorem dX10_move_41 : decode cX10_move 41 = .ok (.invokevirtual 167, 3) := by decide +kernel
theorem dX10_move_44 : decode cX10_move 44 = .ok (.aload_n 0, 1) := by decide +kernel
theorem dX10_move_45 : decode cX10_move 45 = .ok (.getfield 55, 3) := by decide +kernel
theorem dX10_move_48 : decode cX10_move 48 = .ok (.aload_n 0, 1) := by decide +kernel
theorem dX10_move_49 : decode cX10_move 49 = .ok (.getfield 66, 3) := by decide +kernel
theorem dX10_move_52 : decode cX10_move 52 = .ok (.aaload, 1) := by decide +kernel
theorem dX10_move_53 : decode cX10_move 53 = .ok (.aload_n 0, 1) := by decide +kernel
theorem dX10_move_54 : decode cX10_move 54 = .ok (.getfield 12, 3) := by decide +kernel
theorem dX10_move_57 : decode cX10_move 57 = .ok (.getfield 111, 3) := by decide +kernel
theorem dX10_move_60 : decode cX10_move 60 = .ok (.iload_n 1, 1) := by decide +kernel
theorem dX10_move_61 : decode cX10_move 61 = .ok (.iload_n 2, 1) := by decide +kernel
theorem dX10_move_62 : decode cX10_move 62 = .ok (.aload_n 0, 1) := by decide +kernel
theorem dX10_move_63 : decode cX10_move 63 = .ok (.getfield 26, 3) := by decide +kernel
theorem dX10_move_66 : decode cX10_move 66 = .ok (.invokevirtual 180, 3) := by decide +kernel
theorem dX10_move_69 : decode cX10_move 69 = .ok (.aload_n 0, 1) := by decide +kernel
theorem dX10_move_70 : decode cX10_move 70 = .ok (.invokevirtual 174, 3) := by decide +kernel
theorem dX10_move_73 : decode cX10_move 73 = .ok (.ireturn, 1) := by decide +kernel
theorem dX10_get_0 : decode cX10_get 0 = .ok (.aload_n 0, 1) := by decide +kernel
theorem dX10_get_1 : decode cX10_get 1 = .ok (.invokevirtual 160, 3) := by decide +kernel
theorem dX10_get_4 : decode cX10_get 4 = .ok (.ifCond .ne 13, 3) := by decide +kernel
theorem dX10_get_7 : decode cX10_get 7 = .ok (.new 184, 3) := by decide +kernel
theorem dX10_get_10 : decode cX10_get 10 = .ok (.dup, 1) := by decide +kernel
theorem dX10_get_11 : decode cX10_get 11 = .ok (.ldc 186, 2) := by decide +kernel
theorem dX10_get_13 : decode cX10_get 13 = .ok (.invokespecial 188, 3) := by decide +kernel
theorem dX10_get_16 : decode cX10_get 16 = .ok (.athrow, 1) := by decide +kernel
theorem dX10_get_17 : decode cX10_get 17 = .ok (.iload_n 1, 1) := by decide +kernel
theorem dX10_get_18 : decode cX10_get 18 = .ok (.invokestatic 164, 3) := by decide +kernel
theorem dX10_get_21 : decode cX10_get 21 = .ok (.ifCond .ne 13, 3) := by decide +kernel
theorem dX10_get_24 : decode cX10_get 24 = .ok (.new 104, 3) := by decide +kernel
theorem dX10_get_27 : decode cX10_get 27 = .ok (.dup, 1) := by decide +kernel
theorem dX10_get_28 : decode cX10_get 28 = .ok (.ldc 189, 2) := by decide +kernel
theorem dX10_get_30 : decode cX10_get 30 = .ok (.invokespecial 108, 3) := by decide +kernel
theorem dX10_get_33 : decode cX10_get 33 = .ok (.athrow, 1) := by decide +kernel
theorem dX10_get_34 : decode cX10_get 34 = .ok (.aload_n 0, 1) := by decide +kernel
theorem dX10_get_35 : decode cX10_get 35 = .ok (.getfield 55, 3) := by decide +kernel
theorem dX10_get_38 : decode cX10_get 38 = .ok (.aload_n 0, 1) := by decide +kernel
theorem dX10_get_39 : decode cX10_get 39 = .ok (.getfield 66, 3) := by decide +kernel
theorem dX10_get_42 : decode cX10_get 42 = .ok (.aaload, 1) := by decide +kernel
theorem dX10_get_43 : decode cX10_get 43 = .ok (.aload_n 0, 1) := by decide +kernel
theorem dX10_get_44 : decode cX10_get 44 = .ok (.getfield 12, 3) := by decide +kernel
theorem dX10_get_47 : decode cX10_get 47 = .ok (.getfield 111, 3) := by decide +kernel
theorem dX10_get_50 : decode cX10_get 50 = .ok (.iload_n 1, 1) := by decide +kernel
theorem dX10_get_51 : decode cX10_get 51 = .ok (.invokevirtual 191, 3) := by decide +kernel
theorem dX10_get_54 : decode cX10_get 54 = .ok (.lreturn, 1) := by decide +kernel
theorem dX10_rise_0 : decode cX10_rise 0 = .ok (.aload_n 0, 1) := by decide +kernel
theorem dX10_rise_1 : decode cX10_rise 1 = .ok (.invokevirtual 160, 3) := by decide +kernel
theorem dX10_rise_4 : decode cX10_rise 4 = .ok (.ifCond .eq 13, 3) := by decide +kernel
theorem dX10_rise_7 : decode cX10_rise 7 = .ok (.aload_n 0, 1) := by decide +kernel
theorem dX10_rise_8 : decode cX10_rise 8 = .ok (.getfield 12, 3) := by decide +kernel
theorem dX10_rise_11 : decode cX10_rise 11 = .ok (.getfield 88, 3) := by decide +kernel
theorem dX10_rise_14 : decode cX10_rise 14 = .ok (.ifCond .le 10, 3) := by decide +kernel
theorem dX10_rise_17 : decode cX10_rise 17 = .ok (.aload_n 0, 1) := by decide +kernel
theorem dX10_rise_18 : decode cX10_rise 18 = .ok (.bipush (-5), 2) := by decide +kernel
theorem dX10_rise_20 : decode cX10_rise 20 = .ok (.invokevirtual 77, 3) := by decide +kernel
theorem dX10_rise_23 : decode cX10_rise 23 = .ok (.ireturn, 1) := by decide +kernel
theorem dX10_rise_24 : decode cX10_rise 24 = .ok (.aload_n 0, 1) := by decide +kernel
theorem dX10_rise_25 : decode cX10_rise 25 = .ok (.getfield 26, 3) := by decide +kernel
theorem dX10_rise_28 : decode cX10_rise 28 = .ok (.aload_n 0, 1) := by decide +kernel
theorem dX10_rise_29 : decode cX10_rise 29 = .ok (.getfield 59, 3) := by decide +kernel
theorem dX10_rise_32 : decode cX10_rise 32 = .ok (.aload_n 0, 1) := by decide +kernel
theorem dX10_rise_33 : decode cX10_rise 33 = .ok (.getfield 66, 3) := by decide +kernel
theorem dX10_rise_36 : decode cX10_rise 36 = .ok (.iaload, 1) := by decide +kernel
theorem dX10_rise_37 : decode cX10_rise 37 = .ok (.invokevirtual 167, 3) := by decide +kernel
theorem dX10_rise_40 : decode cX10_rise 40 = .ok (.aload_n 0, 1) := by decide +kernel
theorem dX10_rise_41 : decode cX10_rise 41 = .ok (.getfield 55, 3) := by decide +kernel
theorem dX10_rise_44 : decode cX10_rise 44 = .ok (.aload_n 0, 1) := by decide +kernel
theorem dX10_rise_45 : decode cX10_rise 45 = .ok (.getfield 66, 3) := by decide +kernel
theorem dX10_rise_48 : decode cX10_rise 48 = .ok (.aaload, 1) := by decide +kernel
theorem dX10_rise_49 : decode cX10_rise 49 = .ok (.aload_n 0, 1) := by decide +kernel
theorem dX10_rise_50 : decode cX10_rise 50 = .ok (.getfield 12, 3) := by decide +kernel
theorem dX10_rise_53 : decode cX10_rise 53 = .ok (.getfield 111, 3) := by decide +kernel
theorem dX10_rise_56 : decode cX10_rise 56 = .ok (.aload_n 0, 1) := by decide +kernel
theorem dX10_rise_57 : decode cX10_rise 57 = .ok (.getfield 26, 3) := by decide +kernel
theorem dX10_rise_60 : decode cX10_rise 60 = .ok (.invokevirtual 195, 3) := by decide +kernel
theorem dX10_rise_63 : decode cX10_rise 63 = .ok (.aload_n 0, 1) := by decide +kernel
theorem dX10_rise_64 : decode cX10_rise 64 = .ok (.invokevirtual 174, 3) := by decide +kernel
theorem dX10_rise_67 : decode cX10_rise 67 = .ok (.ireturn, 1) := by decide +kernel
theorem dX10_isSound_0 : decode cX10_isSound 0 = .ok (.aload_n 0, 1) := by decide +kernel
theorem dX10_isSound_1 : decode cX10_isSound 1 = .ok (.invokevirtual 160, 3) := by decide +kernel
theorem dX10_isSound_4 : decode cX10_isSound 4 = .ok (.ifCond .eq 29, 3) := by decide +kernel
theorem dX10_isSound_7 : decode cX10_isSound 7 = .ok (.aload_n 0, 1) := by decide +kernel
theorem dX10_isSound_8 : decode cX10_isSound 8 = .ok (.getfield 55, 3) := by decide +kernel
theorem dX10_isSound_11 : decode cX10_isSound 11 = .ok (.aload_n 0, 1) := by decide +kernel
theorem dX10_isSound_12 : decode cX10_isSound 12 = .ok (.getfield 66, 3) := by decide +kernel
theorem dX10_isSound_15 : decode cX10_isSound 15 = .ok (.aaload, 1) := by decide +kernel
theorem dX10_isSound_16 : decode cX10_isSound 16 = .ok (.aload_n 0, 1) := by decide +kernel
theorem dX10_isSound_17 : decode cX10_isSound 17 = .ok (.getfield 12, 3) := by decide +kernel
theorem dX10_isSound_20 : decode cX10_isSound 20 = .ok (.getfield 111, 3) := by decide +kernel
theorem dX10_isSound_23 : decode cX10_isSound 23 = .ok (.invokevirtual 199, 3) := by decide +kernel
theorem dX10_isSound_26 : decode cX10_isSound 26 = .ok (.ifCond .eq 7, 3) := by decide +kernel
theorem dX10_isSound_29 : decode cX10_isSound 29 = .ok (.iconst 1, 1) := by decide +kernel
theorem dX10_isSound_30 : decode cX10_isSound 30 = .ok (.goto 4, 3) := by decide +kernel
theorem dX10_isSound_33 : decode cX10_isSound 33 = .ok (.iconst 0, 1) := by decide +kernel
theorem dX10_isSound_34 : decode cX10_isSound 34 = .ok (.ireturn, 1) := by decide +kernel
theorem dX10_addPut_0 : decode cX10_addPut 0 = .ok (.iload_n 1, 1) := by decide +kernel
theorem dX10_addPut_1 : decode cX10_addPut 1 = .ok (.invokestatic 164, 3) := by decide +kernel
theorem dX10_addPut_4 : decode cX10_addPut 4 = .ok (.ifCond .ne 9, 3) := by decide +kernel
theorem dX10_addPut_7 : decode cX10_addPut 7 = .ok (.aload_n 0, 1) := by decide +kernel
theorem dX10_addPut_8 : decode cX10_addPut 8 = .ok (.iconst (-1), 1) := by decide +kernel
theorem dX10_addPut_9 : decode cX10_addPut 9 = .ok (.invokevirtual 77, 3) := by decide +kernel
theorem dX10_addPut_12 : decode cX10_addPut 12 = .ok (.ireturn, 1) := by decide +kernel
theorem dX10_addPut_13 : decode cX10_addPut 13 = .ok (.aload_n 0, 1) := by decide +kernel
theorem dX10_addPut_14 : decode cX10_addPut 14 = .ok (.iconst 0, 1) := by decide +kernel
theorem dX10_addPut_15 : decode cX10_addPut 15 = .ok (.iload_n 1, 1) := by decide +kernel
theorem dX10_addPut_16 : decode cX10_addPut 16 = .ok (.iconst (-1), 1) := by decide +kernel
theorem dX10_addPut_17 : decode cX10_addPut 17 = .ok (.lload_n 2, 1) := by decide +kernel
theorem dX10_addPut_18 : decode cX10_addPut 18 = .ok (.invokevirtual 203, 3) := by decide +kernel
theorem dX10_addPut_21 : decode cX10_addPut 21 = .ok (.ireturn, 1) := by decide +kernel
theorem dX10_addMove_0 : decode cX10_addMove 0 = .ok (.iload_n 1, 1) := by decide +kernel
theorem dX10_addMove_1 : decode cX10_addMove 1 = .ok (.iload_n 2, 1) := by decide +kernel
theorem dX10_addMove_2 : decode cX10_addMove 2 = .ok (.invokestatic 177, 3) := by decide +kernel
theorem dX10_addMove_5 : decode cX10_addMove 5 = .ok (.ifCond .ne 9, 3) := by decide +kernel
theorem dX10_addMove_8 : decode cX10_addMove 8 = .ok (.aload_n 0, 1) := by decide +kernel
theorem dX10_addMove_9 : decode cX10_addMove 9 = .ok (.iconst (-1), 1) := by decide +kernel
theorem dX10_addMove_10 : decode cX10_addMove 10 = .ok (.invokevirtual 77, 3) := by decide +kernel
theorem dX10_addMove_13 : decode cX10_addMove 13 = .ok (.ireturn, 1) := by decide +kernel
theorem dX10_addMove_14 : decode cX10_addMove 14 = .ok (.aload_n 0, 1) := by decide +kernel
theorem dX10_addMove_15 : decode cX10_addMove 15 = .ok (.iconst 1, 1) := by decide +kernel
theorem dX10_addMove_16 : decode cX10_addMove 16 = .ok (.iload_n 1, 1) := by decide +kernel
theorem dX10_addMove_17 : decode cX10_addMove 17 = .ok (.iload_n 2, 1) := by decide +kernel
theorem dX10_addMove_18 : decode cX10_addMove 18 = .ok (.lconst 0, 1) := by decide +kernel
theorem dX10_addMove_19 : decode cX10_addMove 19 = .ok (.invokevirtual 203, 3) := by decide +kernel
theorem dX10_addMove_22 : decode cX10_addMove 22 = .ok (.ireturn, 1) := by decide +kernel
theorem dX10_addSure_0 : decode cX10_addSure 0 = .ok (.aload_n 0, 1) := by decide +kernel
theorem dX10_addSure_1 : decode cX10_addSure 1 = .ok (.iconst 2, 1) := by decide +kernel
theorem dX10_addSure_2 : decode cX10_addSure 2 = .ok (.iconst (-1), 1) := by decide +kernel
theorem dX10_addSure_3 : decode cX10_addSure 3 = .ok (.iconst (-1), 1) := by decide +kernel
theorem dX10_addSure_4 : decode cX10_addSure 4 = .ok (.lconst 0, 1) := by decide +kernel
theorem dX10_addSure_5 : decode cX10_addSure 5 = .ok (.invokevirtual 203, 3) := by decide +kernel
theorem dX10_addSure_8 : decode cX10_addSure 8 = .ok (.ireturn, 1) := by decide +kernel
theorem dX10_clear_0 : decode cX10_clear 0 = .ok (.aload_n 0, 1) := by decide +kernel
theorem dX10_clear_1 : decode cX10_clear 1 = .ok (.getfield 33, 3) := by decide +kernel
theorem dX10_clear_4 : decode cX10_clear 4 = .ok (.getfield 207, 3) := by decide +kernel
theorem dX10_clear_7 : decode cX10_clear 7 = .ok (.istore_n 1, 1) := by decide +kernel
theorem dX10_clear_8 : decode cX10_clear 8 = .ok (.aload_n 0, 1) := by decide +kernel
theorem dX10_clear_9 : decode cX10_clear 9 = .ok (.getfield 33, 3) := by decide +kernel
theorem dX10_clear_12 : decode cX10_clear 12 = .ok (.iconst 0, 1) := by decide +kernel
theorem dX10_clear_13 : decode cX10_clear 13 = .ok (.putfield 207, 3) := by decide +kernel
theorem dX10_clear_16 : decode cX10_clear 16 = .ok (.iload_n 1, 1) := by decide +kernel
theorem dX10_clear_17 : decode cX10_clear 17 = .ok (.ireturn, 1) := by decide +kernel
theorem dX10_through_0 : decode cX10_through 0 = .ok (.aload_n 0, 1) := by decide +kernel
theorem dX10_through_1 : decode cX10_through 1 = .ok (.iload_n 1, 1) := by decide +kernel
theorem dX10_through_2 : decode cX10_through 2 = .ok (.invokevirtual 149, 3) := by decide +kernel
theorem dX10_through_5 : decode cX10_through 5 = .ok (.ifCond .ne 10, 3) := by decide +kernel
theorem dX10_through_8 : decode cX10_through 8 = .ok (.aload_n 0, 1) := by decide +kernel
theorem dX10_through_9 : decode cX10_through 9 = .ok (.bipush (-2), 2) := by decide +kernel
theorem dX10_through_11 : decode cX10_through 11 = .ok (.invokevirtual 77, 3) := by decide +kernel
theorem dX10_through_14 : decode cX10_through 14 = .ok (.ireturn, 1) := by decide +kernel
theorem dX10_through_15 : decode cX10_through 15 = .ok (.aload_n 0, 1) := by decide +kernel
theorem dX10_through_16 : decode cX10_through 16 = .ok (.getfield 40, 3) := by decide +kernel
theorem dX10_through_19 : decode cX10_through 19 = .ok (.aload_n 0, 1) := by decide +kernel
theorem dX10_through_20 : decode cX10_through 20 = .ok (.getfield 55, 3) := by decide +kernel
theorem dX10_through_23 : decode cX10_through 23 = .ok (.iload_n 1, 1) := by decide +kernel
theorem dX10_through_24 : decode cX10_through 24 = .ok (.aaload, 1) := by decide +kernel
theorem dX10_through_25 : decode cX10_through 25 = .ok (.aload_n 0, 1) := by decide +kernel
theorem dX10_through_26 : decode cX10_through 26 = .ok (.getfield 59, 3) := by decide +kernel
theorem dX10_through_29 : decode cX10_through 29 = .ok (.iload_n 1, 1) := by decide +kernel
theorem dX10_through_30 : decode cX10_through 30 = .ok (.iaload, 1) := by decide +kernel
theorem dX10_through_31 : decode cX10_through 31 = .ok (.aload_n 0, 1) := by decide +kernel
theorem dX10_through_32 : decode cX10_through 32 = .ok (.getfield 33, 3) := by decide +kernel
theorem dX10_through_35 : decode cX10_through 35 = .ok (.iconst 0, 1) := by decide +kernel
theorem dX10_through_36 : decode cX10_through 36 = .ok (.invokevirtual 210, 3) := by decide +kernel
theorem dX10_through_39 : decode cX10_through 39 = .ok (.ifCond .ne 10, 3) := by decide +kernel
theorem dX10_through_42 : decode cX10_through 42 = .ok (.aload_n 0, 1) := by decide +kernel
theorem dX10_through_43 : decode cX10_through 43 = .ok (.bipush (-6), 2) := by decide +kernel
theorem dX10_through_45 : decode cX10_through 45 = .ok (.invokevirtual 77, 3) := by decide +kernel
theorem dX10_through_48 : decode cX10_through 48 = .ok (.ireturn, 1) := by decide +kernel
theorem dX10_through_49 : decode cX10_through 49 = .ok (.aload_n 0, 1) := by decide +kernel
theorem dX10_through_50 : decode cX10_through 50 = .ok (.getfield 40, 3) := by decide +kernel
theorem dX10_through_53 : decode cX10_through 53 = .ok (.invokevirtual 214, 3) := by decide +kernel
theorem dX10_through_56 : decode cX10_through 56 = .ok (.aload_n 0, 1) := by decide +kernel
theorem dX10_through_57 : decode cX10_through 57 = .ok (.getfield 40, 3) := by decide +kernel
theorem dX10_through_60 : decode cX10_through 60 = .ok (.getfield 217, 3) := by decide +kernel
theorem dX10_through_63 : decode cX10_through 63 = .ok (.getfield 221, 3) := by decide +kernel
theorem dX10_through_66 : decode cX10_through 66 = .ok (.iconst 2, 1) := by decide +kernel
theorem dX10_through_67 : decode cX10_through 67 = .ok (.iaload, 1) := by decide +kernel
theorem dX10_through_68 : decode cX10_through 68 = .ok (.ireturn, 1) := by decide +kernel
theorem dX10_gone_0 : decode cX10_gone 0 = .ok (.iload_n 1, 1) := by decide +kernel
theorem dX10_gone_1 : decode cX10_gone 1 = .ok (.ifCond .lt 9, 3) := by decide +kernel
theorem dX10_gone_4 : decode cX10_gone 4 = .ok (.iload_n 1, 1) := by decide +kernel
theorem dX10_gone_5 : decode cX10_gone 5 = .ok (.bipush 7, 2) := by decide +kernel
theorem dX10_gone_7 : decode cX10_gone 7 = .ok (.if_icmp .lt 6, 3) := by decide +kernel
theorem dX10_gone_10 : decode cX10_gone 10 = .ok (.bipush (-9), 2) := by decide +kernel
theorem dX10_gone_12 : decode cX10_gone 12 = .ok (.ireturn, 1) := by decide +kernel
theorem dX10_gone_13 : decode cX10_gone 13 = .ok (.aload_n 0, 1) := by decide +kernel
theorem dX10_gone_14 : decode cX10_gone 14 = .ok (.getfield 40, 3) := by decide +kernel
theorem dX10_gone_17 : decode cX10_gone 17 = .ok (.getfield 217, 3) := by decide +kernel
theorem dX10_gone_20 : decode cX10_gone 20 = .ok (.getfield 221, 3) := by decide +kernel
theorem dX10_gone_23 : decode cX10_gone 23 = .ok (.iload_n 1, 1) := by decide +kernel
theorem dX10_gone_24 : decode cX10_gone 24 = .ok (.iaload, 1) := by decide +kernel
theorem dX10_gone_25 : decode cX10_gone 25 = .ok (.ireturn, 1) := by decide +kernel
theorem dX10_bad_0 : decode cX10_bad 0 = .ok (.iload_n 1, 1) := by decide +kernel
theorem dX10_bad_1 : decode cX10_bad 1 = .ok (.ifCond .lt 17, 3) := by decide +kernel
theorem dX10_bad_4 : decode cX10_bad 4 = .ok (.iload_n 1, 1) := by decide +kernel
theorem dX10_bad_5 : decode cX10_bad 5 = .ok (.aload_n 0, 1) := by decide +kernel
theorem dX10_bad_6 : decode cX10_bad 6 = .ok (.getfield 40, 3) := by decide +kernel
theorem dX10_bad_9 : decode cX10_bad 9 = .ok (.getfield 217, 3) := by decide +kernel
theorem dX10_bad_12 : decode cX10_bad 12 = .ok (.getfield 226, 3) := by decide +kernel
theorem dX10_bad_15 : decode cX10_bad 15 = .ok (.if_icmp .lt 9, 3) := by decide +kernel
theorem dX10_bad_18 : decode cX10_bad 18 = .ok (.aload_n 0, 1) := by decide +kernel
theorem dX10_bad_19 : decode cX10_bad 19 = .ok (.iconst (-1), 1) := by decide +kernel
theorem dX10_bad_20 : decode cX10_bad 20 = .ok (.invokevirtual 77, 3) := by decide +kernel
theorem dX10_bad_23 : decode cX10_bad 23 = .ok (.ireturn, 1) := by decide +kernel
theorem dX10_bad_24 : decode cX10_bad 24 = .ok (.iload_n 2, 1) := by decide +kernel
theorem dX10_bad_25 : decode cX10_bad 25 = .ok (.ifCond .lt 9, 3) := by decide +kernel
theorem dX10_bad_28 : decode cX10_bad 28 = .ok (.iload_n 2, 1) := by decide +kernel
theorem dX10_bad_29 : decode cX10_bad 29 = .ok (.bipush 10, 2) := by decide +kernel
theorem dX10_bad_31 : decode cX10_bad 31 = .ok (.if_icmp .lt 6, 3) := by decide +kernel
theorem dX10_bad_34 : decode cX10_bad 34 = .ok (.bipush (-9), 2) := by decide +kernel
theorem dX10_bad_36 : decode cX10_bad 36 = .ok (.ireturn, 1) := by decide +kernel
theorem dX10_bad_37 : decode cX10_bad 37 = .ok (.aload_n 0, 1) := by decide +kernel
theorem dX10_bad_38 : decode cX10_bad 38 = .ok (.getfield 40, 3) := by decide +kernel
theorem dX10_bad_41 : decode cX10_bad 41 = .ok (.getfield 217, 3) := by decide +kernel
theorem dX10_bad_44 : decode cX10_bad 44 = .ok (.getfield 229, 3) := by decide +kernel
theorem dX10_bad_47 : decode cX10_bad 47 = .ok (.iload_n 1, 1) := by decide +kernel
theorem dX10_bad_48 : decode cX10_bad 48 = .ok (.bipush 10, 2) := by decide +kernel
theorem dX10_bad_50 : decode cX10_bad 50 = .ok (.imul, 1) := by decide +kernel
theorem dX10_bad_51 : decode cX10_bad 51 = .ok (.iload_n 2, 1) := by decide +kernel
theorem dX10_bad_52 : decode cX10_bad 52 = .ok (.iadd, 1) := by decide +kernel
theorem dX10_bad_53 : decode cX10_bad 53 = .ok (.iaload, 1) := by decide +kernel
theorem dX10_bad_54 : decode cX10_bad 54 = .ok (.ireturn, 1) := by decide +kernel
theorem dX10_spare_0 : decode cX10_spare 0 = .ok (.aload_n 0, 1) := by decide +kernel
theorem dX10_spare_1 : decode cX10_spare 1 = .ok (.iload_n 1, 1) := by decide +kernel
theorem dX10_spare_2 : decode cX10_spare 2 = .ok (.invokevirtual 149, 3) := by decide +kernel
theorem dX10_spare_5 : decode cX10_spare 5 = .ok (.ifCond .eq 20, 3) := by decide +kernel
theorem dX10_spare_8 : decode cX10_spare 8 = .ok (.iload_n 2, 1) := by decide +kernel
theorem dX10_spare_9 : decode cX10_spare 9 = .ok (.ifCond .lt 16, 3) := by decide +kernel
theorem dX10_spare_12 : decode cX10_spare 12 = .ok (.iload_n 2, 1) := by decide +kernel
theorem dX10_spare_13 : decode cX10_spare 13 = .ok (.aload_n 0, 1) := by decide +kernel
theorem dX10_spare_14 : decode cX10_spare 14 = .ok (.getfield 55, 3) := by decide +kernel
theorem dX10_spare_17 : decode cX10_spare 17 = .ok (.iload_n 1, 1) := by decide +kernel
theorem dX10_spare_18 : decode cX10_spare 18 = .ok (.aaload, 1) := by decide +kernel
theorem dX10_spare_19 : decode cX10_spare 19 = .ok (.invokevirtual 156, 3) := by decide +kernel
theorem dX10_spare_22 : decode cX10_spare 22 = .ok (.if_icmp .lt 5, 3) := by decide +kernel
theorem dX10_spare_25 : decode cX10_spare 25 = .ok (.iconst 0, 1) := by decide +kernel
theorem dX10_spare_26 : decode cX10_spare 26 = .ok (.ireturn, 1) := by decide +kernel
theorem dX10_spare_27 : decode cX10_spare 27 = .ok (.iload_n 3, 1) := by decide +kernel
theorem dX10_spare_28 : decode cX10_spare 28 = .ok (.ifCond .eq 16, 3) := by decide +kernel
theorem dX10_spare_31 : decode cX10_spare 31 = .ok (.aload_n 0, 1) := by decide +kernel
theorem dX10_spare_32 : decode cX10_spare 32 = .ok (.getfield 59, 3) := by decide +kernel
theorem dX10_spare_35 : decode cX10_spare 35 = .ok (.iload_n 1, 1) := by decide +kernel
theorem dX10_spare_36 : decode cX10_spare 36 = .ok (.iaload, 1) := by decide +kernel
theorem dX10_spare_37 : decode cX10_spare 37 = .ok (.iconst 1, 1) := by decide +kernel
theorem dX10_spare_38 : decode cX10_spare 38 = .ok (.iload_n 2, 1) := by decide +kernel
theorem dX10_spare_39 : decode cX10_spare 39 = .ok (.ishl, 1) := by decide +kernel
theorem dX10_spare_40 : decode cX10_spare 40 = .ok (.ior, 1) := by decide +kernel
theorem dX10_spare_41 : decode cX10_spare 41 = .ok (.goto 15, 3) := by decide +kernel
theorem dX10_spare_44 : decode cX10_spare 44 = .ok (.aload_n 0, 1) := by decide +kernel
theorem dX10_spare_45 : decode cX10_spare 45 = .ok (.getfield 59, 3) := by decide +kernel
theorem dX10_spare_48 : decode cX10_spare 48 = .ok (.iload_n 1, 1) := by decide +kernel
theorem dX10_spare_49 : decode cX10_spare 49 = .ok (.iaload, 1) := by decide +kernel
theorem dX10_spare_50 : decode cX10_spare 50 = .ok (.iconst 1, 1) := by decide +kernel
theorem dX10_spare_51 : decode cX10_spare 51 = .ok (.iload_n 2, 1) := by decide +kernel
theorem dX10_spare_52 : decode cX10_spare 52 = .ok (.ishl, 1) := by decide +kernel
theorem dX10_spare_53 : decode cX10_spare 53 = .ok (.iconst (-1), 1) := by decide +kernel
theorem dX10_spare_54 : decode cX10_spare 54 = .ok (.ixor, 1) := by decide +kernel
theorem dX10_spare_55 : decode cX10_spare 55 = .ok (.iand, 1) := by decide +kernel
theorem dX10_spare_56 : decode cX10_spare 56 = .ok (.istore 4, 2) := by decide +kernel
theorem dX10_spare_58 : decode cX10_spare 58 = .ok (.iload 4, 2) := by decide +kernel
theorem dX10_spare_60 : decode cX10_spare 60 = .ok (.aload_n 0, 1) := by decide +kernel
theorem dX10_spare_61 : decode cX10_spare 61 = .ok (.getfield 59, 3) := by decide +kernel
theorem dX10_spare_64 : decode cX10_spare 64 = .ok (.iload_n 1, 1) := by decide +kernel
theorem dX10_spare_65 : decode cX10_spare 65 = .ok (.iaload, 1) := by decide +kernel
theorem dX10_spare_66 : decode cX10_spare 66 = .ok (.if_icmp .eq 7, 3) := by decide +kernel
theorem dX10_spare_69 : decode cX10_spare 69 = .ok (.iconst 1, 1) := by decide +kernel
theorem dX10_spare_70 : decode cX10_spare 70 = .ok (.goto 4, 3) := by decide +kernel
theorem dX10_spare_73 : decode cX10_spare 73 = .ok (.iconst 0, 1) := by decide +kernel
theorem dX10_spare_74 : decode cX10_spare 74 = .ok (.istore 5, 2) := by decide +kernel
theorem dX10_spare_76 : decode cX10_spare 76 = .ok (.aload_n 0, 1) := by decide +kernel
theorem dX10_spare_77 : decode cX10_spare 77 = .ok (.getfield 59, 3) := by decide +kernel
theorem dX10_spare_80 : decode cX10_spare 80 = .ok (.iload_n 1, 1) := by decide +kernel
theorem dX10_spare_81 : decode cX10_spare 81 = .ok (.iload 4, 2) := by decide +kernel
theorem dX10_spare_83 : decode cX10_spare 83 = .ok (.iastore, 1) := by decide +kernel
theorem dX10_spare_84 : decode cX10_spare 84 = .ok (.iload 5, 2) := by decide +kernel
theorem dX10_spare_86 : decode cX10_spare 86 = .ok (.ireturn, 1) := by decide +kernel
theorem dX10_least_0 : decode cX10_least 0 = .ok (.aload_n 0, 1) := by decide +kernel
theorem dX10_least_1 : decode cX10_least 1 = .ok (.iload_n 1, 1) := by decide +kernel
theorem dX10_least_2 : decode cX10_least 2 = .ok (.invokevirtual 149, 3) := by decide +kernel
theorem dX10_least_5 : decode cX10_least 5 = .ok (.ifCond .ne 10, 3) := by decide +kernel
theorem dX10_least_8 : decode cX10_least 8 = .ok (.aload_n 0, 1) := by decide +kernel
theorem dX10_least_9 : decode cX10_least 9 = .ok (.bipush (-2), 2) := by decide +kernel
theorem dX10_least_11 : decode cX10_least 11 = .ok (.invokevirtual 77, 3) := by decide +kernel
theorem dX10_least_14 : decode cX10_least 14 = .ok (.ireturn, 1) := by decide +kernel
theorem dX10_least_15 : decode cX10_least 15 = .ok (.aload_n 0, 1) := by decide +kernel
theorem dX10_least_16 : decode cX10_least 16 = .ok (.getfield 40, 3) := by decide +kernel
theorem dX10_least_19 : decode cX10_least 19 = .ok (.aload_n 0, 1) := by decide +kernel
theorem dX10_least_20 : decode cX10_least 20 = .ok (.getfield 55, 3) := by decide +kernel
theorem dX10_least_23 : decode cX10_least 23 = .ok (.iload_n 1, 1) := by decide +kernel
theorem dX10_least_24 : decode cX10_least 24 = .ok (.aaload, 1) := by decide +kernel
theorem dX10_least_25 : decode cX10_least 25 = .ok (.iconst 0, 1) := by decide +kernel
theorem dX10_least_26 : decode cX10_least 26 = .ok (.aload_n 0, 1) := by decide +kernel
theorem dX10_least_27 : decode cX10_least 27 = .ok (.getfield 33, 3) := by decide +kernel
theorem dX10_least_30 : decode cX10_least 30 = .ok (.iconst 0, 1) := by decide +kernel
theorem dX10_least_31 : decode cX10_least 31 = .ok (.invokevirtual 210, 3) := by decide +kernel
theorem dX10_least_34 : decode cX10_least 34 = .ok (.ifCond .ne 10, 3) := by decide +kernel
theorem dX10_least_37 : decode cX10_least 37 = .ok (.aload_n 0, 1) := by decide +kernel
theorem dX10_least_38 : decode cX10_least 38 = .ok (.bipush (-6), 2) := by decide +kernel
theorem dX10_least_40 : decode cX10_least 40 = .ok (.invokevirtual 77, 3) := by decide +kernel
theorem dX10_least_43 : decode cX10_least 43 = .ok (.ireturn, 1) := by decide +kernel
theorem dX10_least_44 : decode cX10_least 44 = .ok (.aload_n 0, 1) := by decide +kernel
theorem dX10_least_45 : decode cX10_least 45 = .ok (.getfield 40, 3) := by decide +kernel
theorem dX10_least_48 : decode cX10_least 48 = .ok (.getfield 232, 3) := by decide +kernel
theorem dX10_least_51 : decode cX10_least 51 = .ok (.getfield 221, 3) := by decide +kernel
theorem dX10_least_54 : decode cX10_least 54 = .ok (.iconst 2, 1) := by decide +kernel
theorem dX10_least_55 : decode cX10_least 55 = .ok (.iaload, 1) := by decide +kernel
theorem dX10_least_56 : decode cX10_least 56 = .ok (.ifCond .le 10, 3) := by decide +kernel
theorem dX10_least_59 : decode cX10_least 59 = .ok (.aload_n 0, 1) := by decide +kernel
theorem dX10_least_60 : decode cX10_least 60 = .ok (.bipush (-5), 2) := by decide +kernel
theorem dX10_least_62 : decode cX10_least 62 = .ok (.invokevirtual 77, 3) := by decide +kernel
theorem dX10_least_65 : decode cX10_least 65 = .ok (.ireturn, 1) := by decide +kernel
theorem dX10_least_66 : decode cX10_least 66 = .ok (.iconst 0, 1) := by decide +kernel
theorem dX10_least_67 : decode cX10_least 67 = .ok (.istore_n 2, 1) := by decide +kernel
theorem dX10_least_68 : decode cX10_least 68 = .ok (.iconst 0, 1) := by decide +kernel
theorem dX10_least_69 : decode cX10_least 69 = .ok (.istore_n 3, 1) := by decide +kernel
theorem dX10_least_70 : decode cX10_least 70 = .ok (.iconst 0, 1) := by decide +kernel
theorem dX10_least_71 : decode cX10_least 71 = .ok (.istore 4, 2) := by decide +kernel
theorem dX10_least_73 : decode cX10_least 73 = .ok (.iload 4, 2) := by decide +kernel
theorem dX10_least_75 : decode cX10_least 75 = .ok (.aload_n 0, 1) := by decide +kernel
theorem dX10_least_76 : decode cX10_least 76 = .ok (.getfield 55, 3) := by decide +kernel
theorem dX10_least_79 : decode cX10_least 79 = .ok (.iload_n 1, 1) := by decide +kernel
theorem dX10_least_80 : decode cX10_least 80 = .ok (.aaload, 1) := by decide +kernel
theorem dX10_least_81 : decode cX10_least 81 = .ok (.invokevirtual 156, 3) := by decide +kernel
theorem dX10_least_84 : decode cX10_least 84 = .ok (.if_icmp .ge 53, 3) := by decide +kernel
theorem dX10_least_87 : decode cX10_least 87 = .ok (.iconst 1, 1) := by decide +kernel
theorem dX10_least_88 : decode cX10_least 88 = .ok (.iload 4, 2) := by decide +kernel
theorem dX10_least_90 : decode cX10_least 90 = .ok (.ishl, 1) := by decide +kernel
theorem dX10_least_91 : decode cX10_least 91 = .ok (.istore 5, 2) := by decide +kernel
theorem dX10_least_93 : decode cX10_least 93 = .ok (.aload_n 0, 1) := by decide +kernel
theorem dX10_least_94 : decode cX10_least 94 = .ok (.getfield 40, 3) := by decide +kernel
theorem dX10_least_97 : decode cX10_least 97 = .ok (.aload_n 0, 1) := by decide +kernel
theorem dX10_least_98 : decode cX10_least 98 = .ok (.getfield 55, 3) := by decide +kernel
theorem dX10_least_101 : decode cX10_least 101 = .ok (.iload_n 1, 1) := by decide +kernel
theorem dX10_least_102 : decode cX10_least 102 = .ok (.aaload, 1) := by decide +kernel
theorem dX10_least_103 : decode cX10_least 103 = .ok (.iload_n 3, 1) := by decide +kernel
theorem dX10_least_104 : decode cX10_least 104 = .ok (.iload 5, 2) := by decide +kernel
theorem dX10_least_106 : decode cX10_least 106 = .ok (.ior, 1) := by decide +kernel
theorem dX10_least_107 : decode cX10_least 107 = .ok (.aload_n 0, 1) := by decide +kernel
theorem dX10_least_108 : decode cX10_least 108 = .ok (.getfield 33, 3) := by decide +kernel
theorem dX10_least_111 : decode cX10_least 111 = .ok (.iconst 1, 1) := by decide +kernel
theorem dX10_least_112 : decode cX10_least 112 = .ok (.invokevirtual 210, 3) := by decide +kernel
theorem dX10_least_115 : decode cX10_least 115 = .ok (.ifCond .eq 11, 3) := by decide +kernel
theorem dX10_least_118 : decode cX10_least 118 = .ok (.iload_n 3, 1) := by decide +kernel
theorem dX10_least_119 : decode cX10_least 119 = .ok (.iload 5, 2) := by decide +kernel
theorem dX10_least_121 : decode cX10_least 121 = .ok (.ior, 1) := by decide +kernel
theorem dX10_least_122 : decode cX10_least 122 = .ok (.istore_n 3, 1) := by decide +kernel
theorem dX10_least_123 : decode cX10_least 123 = .ok (.goto 8, 3) := by decide +kernel
theorem dX10_least_126 : decode cX10_least 126 = .ok (.iload_n 2, 1) := by decide +kernel
theorem dX10_least_127 : decode cX10_least 127 = .ok (.iload 5, 2) := by decide +kernel
theorem dX10_least_129 : decode cX10_least 129 = .ok (.ior, 1) := by decide +kernel
theorem dX10_least_130 : decode cX10_least 130 = .ok (.istore_n 2, 1) := by decide +kernel
theorem dX10_least_131 : decode cX10_least 131 = .ok (.iinc 4 1, 3) := by decide +kernel
theorem dX10_least_134 : decode cX10_least 134 = .ok (.goto (-61), 3) := by decide +kernel
theorem dX10_least_137 : decode cX10_least 137 = .ok (.iload_n 2, 1) := by decide +kernel
theorem dX10_least_138 : decode cX10_least 138 = .ok (.ireturn, 1) := by decide +kernel
theorem dX10_digest_0 : decode cX10_digest 0 = .ok (.iload_n 1, 1) := by decide +kernel
theorem dX10_digest_1 : decode cX10_digest 1 = .ok (.ifCond .eq 11, 3) := by decide +kernel
theorem dX10_digest_4 : decode cX10_digest 4 = .ok (.iload_n 1, 1) := by decide +kernel
theorem dX10_digest_5 : decode cX10_digest 5 = .ok (.iconst 1, 1) := by decide +kernel
theorem dX10_digest_6 : decode cX10_digest 6 = .ok (.if_icmp .eq 6, 3) := by decide +kernel
theorem dX10_digest_9 : decode cX10_digest 9 = .ok (.bipush (-9), 2) := by decide +kernel
theorem dX10_digest_11 : decode cX10_digest 11 = .ok (.ireturn, 1) := by decide +kernel
theorem dX10_digest_12 : decode cX10_digest 12 = .ok (.iload_n 1, 1) := by decide +kernel
theorem dX10_digest_13 : decode cX10_digest 13 = .ok (.ifCond .ne 13, 3) := by decide +kernel
theorem dX10_digest_16 : decode cX10_digest 16 = .ok (.aload_n 0, 1) := by decide +kernel
theorem dX10_digest_17 : decode cX10_digest 17 = .ok (.getfield 12, 3) := by decide +kernel
theorem dX10_digest_20 : decode cX10_digest 20 = .ok (.getfield 114, 3) := by decide +kernel
theorem dX10_digest_23 : decode cX10_digest 23 = .ok (.goto 10, 3) := by decide +kernel
theorem dX10_digest_26 : decode cX10_digest 26 = .ok (.aload_n 0, 1) := by decide +kernel
theorem dX10_digest_27 : decode cX10_digest 27 = .ok (.getfield 12, 3) := by decide +kernel
theorem dX10_digest_30 : decode cX10_digest 30 = .ok (.getfield 111, 3) := by decide +kernel
theorem dX10_digest_33 : decode cX10_digest 33 = .ok (.astore_n 2, 1) := by decide +kernel
theorem dX10_digest_34 : decode cX10_digest 34 = .ok (.iconst 0, 1) := by decide +kernel
theorem dX10_digest_35 : decode cX10_digest 35 = .ok (.istore_n 3, 1) := by decide +kernel
theorem dX10_digest_36 : decode cX10_digest 36 = .ok (.iconst 0, 1) := by decide +kernel
theorem dX10_digest_37 : decode cX10_digest 37 = .ok (.istore 4, 2) := by decide +kernel
theorem dX10_digest_39 : decode cX10_digest 39 = .ok (.iload 4, 2) := by decide +kernel
theorem dX10_digest_41 : decode cX10_digest 41 = .ok (.bipush 32, 2) := by decide +kernel
theorem dX10_digest_43 : decode cX10_digest 43 = .ok (.if_icmp .ge 19, 3) := by decide +kernel
theorem dX10_digest_46 : decode cX10_digest 46 = .ok (.bipush 31, 2) := by decide +kernel
theorem dX10_digest_48 : decode cX10_digest 48 = .ok (.iload_n 3, 1) := by decide +kernel
theorem dX10_digest_49 : decode cX10_digest 49 = .ok (.imul, 1) := by decide +kernel
theorem dX10_digest_50 : decode cX10_digest 50 = .ok (.aload_n 2, 1) := by decide +kernel
theorem dX10_digest_51 : decode cX10_digest 51 = .ok (.iload 4, 2) := by decide +kernel
theorem dX10_digest_53 : decode cX10_digest 53 = .ok (.iaload, 1) := by decide +kernel
theorem dX10_digest_54 : decode cX10_digest 54 = .ok (.iadd, 1) := by decide +kernel
theorem dX10_digest_55 : decode cX10_digest 55 = .ok (.istore_n 3, 1) := by decide +kernel
theorem dX10_digest_56 : decode cX10_digest 56 = .ok (.iinc 4 1, 3) := by decide +kernel
theorem dX10_digest_59 : decode cX10_digest 59 = .ok (.goto (-20), 3) := by decide +kernel
theorem dX10_digest_62 : decode cX10_digest 62 = .ok (.iload_n 3, 1) := by decide +kernel
theorem dX10_digest_63 : decode cX10_digest 63 = .ok (.ireturn, 1) := by decide +kernel
theorem dX10_status_0 : decode cX10_status 0 = .ok (.iload_n 1, 1) := by decide +kernel
theorem dX10_status_1 : decode cX10_status 1 = .ok (.bipush 11, 2) := by decide +kernel
theorem dX10_status_3 : decode cX10_status 3 = .ok (.if_icmp .lt 19, 3) := by decide +kernel
theorem dX10_status_6 : decode cX10_status 6 = .ok (.iload_n 1, 1) := by decide +kernel
theorem dX10_status_7 : decode cX10_status 7 = .ok (.bipush 16, 2) := by decide +kernel
theorem dX10_status_9 : decode cX10_status 9 = .ok (.if_icmp .gt 13, 3) := by decide +kernel
theorem dX10_status_12 : decode cX10_status 12 = .ok (.aload_n 0, 1) := by decide +kernel
theorem dX10_status_13 : decode cX10_status 13 = .ok (.getfield 63, 3) := by decide +kernel
theorem dX10_status_16 : decode cX10_status 16 = .ok (.iload_n 1, 1) := by decide +kernel
theorem dX10_status_17 : decode cX10_status 17 = .ok (.bipush 10, 2) := by decide +kernel
theorem dX10_status_19 : decode cX10_status 19 = .ok (.isub, 1) := by decide +kernel
theorem dX10_status_20 : decode cX10_status 20 = .ok (.iaload, 1) := by decide +kernel
theorem dX10_status_21 : decode cX10_status 21 = .ok (.ireturn, 1) := by decide +kernel
theorem dX10_status_22 : decode cX10_status 22 = .ok (.iload_n 1, 1) := by decide +kernel
theorem dX10_status_23 : decode cX10_status 23 = .ok (.tableswitch 126 0 7 #[45, 53, 61, 69, 74, 82, 113, 121], 45) := by decide +kernel
theorem dX10_status_68 : decode cX10_status 68 = .ok (.aload_n 0, 1) := by decide +kernel
theorem dX10_status_69 : decode cX10_status 69 = .ok (.getfield 12, 3) := by decide +kernel
theorem dX10_status_72 : decode cX10_status 72 = .ok (.getfield 88, 3) := by decide +kernel
theorem dX10_status_75 : decode cX10_status 75 = .ok (.ireturn, 1) := by decide +kernel
theorem dX10_status_76 : decode cX10_status 76 = .ok (.aload_n 0, 1) := by decide +kernel
theorem dX10_status_77 : decode cX10_status 77 = .ok (.getfield 12, 3) := by decide +kernel
theorem dX10_status_80 : decode cX10_status 80 = .ok (.getfield 94, 3) := by decide +kernel
theorem dX10_status_83 : decode cX10_status 83 = .ok (.ireturn, 1) := by decide +kernel
theorem dX10_status_84 : decode cX10_status 84 = .ok (.aload_n 0, 1) := by decide +kernel
theorem dX10_status_85 : decode cX10_status 85 = .ok (.getfield 12, 3) := by decide +kernel
theorem dX10_status_88 : decode cX10_status 88 = .ok (.getfield 235, 3) := by decide +kernel
theorem dX10_status_91 : decode cX10_status 91 = .ok (.ireturn, 1) := by decide +kernel
theorem dX10_status_92 : decode cX10_status 92 = .ok (.aload_n 0, 1) := by decide +kernel
theorem dX10_status_93 : decode cX10_status 93 = .ok (.getfield 66, 3) := by decide +kernel
theorem dX10_status_96 : decode cX10_status 96 = .ok (.ireturn, 1) := by decide +kernel
theorem dX10_status_97 : decode cX10_status 97 = .ok (.aload_n 0, 1) := by decide +kernel
theorem dX10_status_98 : decode cX10_status 98 = .ok (.getfield 33, 3) := by decide +kernel
theorem dX10_status_101 : decode cX10_status 101 = .ok (.getfield 207, 3) := by decide +kernel
theorem dX10_status_104 : decode cX10_status 104 = .ok (.ireturn, 1) := by decide +kernel
theorem dX10_status_105 : decode cX10_status 105 = .ok (.aload_n 0, 1) := by decide +kernel
theorem dX10_status_106 : decode cX10_status 106 = .ok (.invokevirtual 160, 3) := by decide +kernel
theorem dX10_status_109 : decode cX10_status 109 = .ok (.ifCond .eq 25, 3) := by decide +kernel
theorem dX10_status_112 : decode cX10_status 112 = .ok (.aload_n 0, 1) := by decide +kernel
theorem dX10_status_113 : decode cX10_status 113 = .ok (.getfield 55, 3) := by decide +kernel
theorem dX10_status_116 : decode cX10_status 116 = .ok (.aload_n 0, 1) := by decide +kernel
theorem dX10_status_117 : decode cX10_status 117 = .ok (.getfield 66, 3) := by decide +kernel
theorem dX10_status_120 : decode cX10_status 120 = .ok (.aaload, 1) := by decide +kernel
theorem dX10_status_121 : decode cX10_status 121 = .ok (.aload_n 0, 1) := by decide +kernel
theorem dX10_status_122 : decode cX10_status 122 = .ok (.getfield 12, 3) := by decide +kernel
theorem dX10_status_125 : decode cX10_status 125 = .ok (.getfield 111, 3) := by decide +kernel
theorem dX10_status_128 : decode cX10_status 128 = .ok (.invokevirtual 238, 3) := by decide +kernel
theorem dX10_status_131 : decode cX10_status 131 = .ok (.goto 4, 3) := by decide +kernel
theorem dX10_status_134 : decode cX10_status 134 = .ok (.iconst 0, 1) := by decide +kernel
theorem dX10_status_135 : decode cX10_status 135 = .ok (.ireturn, 1) := by decide +kernel
theorem dX10_status_136 : decode cX10_status 136 = .ok (.aload_n 0, 1) := by decide +kernel
theorem dX10_status_137 : decode cX10_status 137 = .ok (.getfield 12, 3) := by decide +kernel
theorem dX10_status_140 : decode cX10_status 140 = .ok (.getfield 242, 3) := by decide +kernel
theorem dX10_status_143 : decode cX10_status 143 = .ok (.ireturn, 1) := by decide +kernel
theorem dX10_status_144 : decode cX10_status 144 = .ok (.aload_n 0, 1) := by decide +kernel
theorem dX10_status_145 : decode cX10_status 145 = .ok (.getfield 70, 3) := by decide +kernel
theorem dX10_status_148 : decode cX10_status 148 = .ok (.ireturn, 1) := by decide +kernel
theorem dX10_status_149 : decode cX10_status 149 = .ok (.bipush (-9), 2) := by decide +kernel
theorem dX10_status_151 : decode cX10_status 151 = .ok (.ireturn, 1) := by decide +kernel
theorem dX10_refuse_0 : decode cX10_refuse 0 = .ok (.iload_n 1, 1) := by decide +kernel
theorem dX10_refuse_1 : decode cX10_refuse 1 = .ok (.iconst (-1), 1) := by decide +kernel
theorem dX10_refuse_2 : decode cX10_refuse 2 = .ok (.if_icmp .gt 20, 3) := by decide +kernel
theorem dX10_refuse_5 : decode cX10_refuse 5 = .ok (.iload_n 1, 1) := by decide +kernel
theorem dX10_refuse_6 : decode cX10_refuse 6 = .ok (.bipush (-6), 2) := by decide +kernel
theorem dX10_refuse_8 : decode cX10_refuse 8 = .ok (.if_icmp .lt 14, 3) := by decide +kernel
theorem dX10_refuse_11 : decode cX10_refuse 11 = .ok (.aload_n 0, 1) := by decide +kernel
theorem dX10_refuse_12 : decode cX10_refuse 12 = .ok (.getfield 63, 3) := by decide +kernel
theorem dX10_refuse_15 : decode cX10_refuse 15 = .ok (.iload_n 1, 1) := by decide +kernel
theorem dX10_refuse_16 : decode cX10_refuse 16 = .ok (.ineg, 1) := by decide +kernel
theorem dX10_refuse_17 : decode cX10_refuse 17 = .ok (.dup2, 1) := by decide +kernel
theorem dX10_refuse_18 : decode cX10_refuse 18 = .ok (.iaload, 1) := by decide +kernel
theorem dX10_refuse_19 : decode cX10_refuse 19 = .ok (.iconst 1, 1) := by decide +kernel
theorem dX10_refuse_20 : decode cX10_refuse 20 = .ok (.iadd, 1) := by decide +kernel
theorem dX10_refuse_21 : decode cX10_refuse 21 = .ok (.iastore, 1) := by decide +kernel
theorem dX10_refuse_22 : decode cX10_refuse 22 = .ok (.iload_n 1, 1) := by decide +kernel
theorem dX10_refuse_23 : decode cX10_refuse 23 = .ok (.ireturn, 1) := by decide +kernel
theorem dX10_carryOut_0 : decode cX10_carryOut 0 = .ok (.aload_n 0, 1) := by decide +kernel
theorem dX10_carryOut_1 : decode cX10_carryOut 1 = .ok (.getfield 12, 3) := by decide +kernel
theorem dX10_carryOut_4 : decode cX10_carryOut 4 = .ok (.aload_n 0, 1) := by decide +kernel
theorem dX10_carryOut_5 : decode cX10_carryOut 5 = .ok (.getfield 26, 3) := by decide +kernel
theorem dX10_carryOut_8 : decode cX10_carryOut 8 = .ok (.getfield 245, 3) := by decide +kernel
theorem dX10_carryOut_11 : decode cX10_carryOut 11 = .ok (.invokevirtual 81, 3) := by decide +kernel
theorem dX10_carryOut_14 : decode cX10_carryOut 14 = .ok (.ifCond .ne 10, 3) := by decide +kernel
theorem dX10_carryOut_17 : decode cX10_carryOut 17 = .ok (.aload_n 0, 1) := by decide +kernel
theorem dX10_carryOut_18 : decode cX10_carryOut 18 = .ok (.bipush (-6), 2) := by decide +kernel
theorem dX10_carryOut_20 : decode cX10_carryOut 20 = .ok (.invokevirtual 77, 3) := by decide +kernel
theorem dX10_carryOut_23 : decode cX10_carryOut 23 = .ok (.ireturn, 1) := by decide +kernel
theorem dX10_carryOut_24 : decode cX10_carryOut 24 = .ok (.iconst 0, 1) := by decide +kernel
theorem dX10_carryOut_25 : decode cX10_carryOut 25 = .ok (.istore_n 1, 1) := by decide +kernel
theorem dX10_carryOut_26 : decode cX10_carryOut 26 = .ok (.iload_n 1, 1) := by decide +kernel
theorem dX10_carryOut_27 : decode cX10_carryOut 27 = .ok (.aload_n 0, 1) := by decide +kernel
theorem dX10_carryOut_28 : decode cX10_carryOut 28 = .ok (.getfield 26, 3) := by decide +kernel
theorem dX10_carryOut_31 : decode cX10_carryOut 31 = .ok (.getfield 245, 3) := by decide +kernel
theorem dX10_carryOut_34 : decode cX10_carryOut 34 = .ok (.if_icmp .ge 21, 3) := by decide +kernel
theorem dX10_carryOut_37 : decode cX10_carryOut 37 = .ok (.aload_n 0, 1) := by decide +kernel
theorem dX10_carryOut_38 : decode cX10_carryOut 38 = .ok (.getfield 12, 3) := by decide +kernel
theorem dX10_carryOut_41 : decode cX10_carryOut 41 = .ok (.aload_n 0, 1) := by decide +kernel
theorem dX10_carryOut_42 : decode cX10_carryOut 42 = .ok (.getfield 26, 3) := by decide +kernel
theorem dX10_carryOut_45 : decode cX10_carryOut 45 = .ok (.iload_n 1, 1) := by decide +kernel
theorem dX10_carryOut_46 : decode cX10_carryOut 46 = .ok (.invokevirtual 248, 3) := by decide +kernel
theorem dX10_carryOut_49 : decode cX10_carryOut 49 = .ok (.iinc 1 1, 3) := by decide +kernel
theorem dX10_carryOut_52 : decode cX10_carryOut 52 = .ok (.goto (-26), 3) := by decide +kernel
theorem dX10_carryOut_55 : decode cX10_carryOut 55 = .ok (.aload_n 0, 1) := by decide +kernel
theorem dX10_carryOut_56 : decode cX10_carryOut 56 = .ok (.getfield 26, 3) := by decide +kernel
theorem dX10_carryOut_59 : decode cX10_carryOut 59 = .ok (.getfield 245, 3) := by decide +kernel
theorem dX10_carryOut_62 : decode cX10_carryOut 62 = .ok (.ireturn, 1) := by decide +kernel
theorem dX10_addAct_0 : decode cX10_addAct 0 = .ok (.aload_n 0, 1) := by decide +kernel
theorem dX10_addAct_1 : decode cX10_addAct 1 = .ok (.getfield 33, 3) := by decide +kernel
theorem dX10_addAct_4 : decode cX10_addAct 4 = .ok (.getfield 207, 3) := by decide +kernel
theorem dX10_addAct_7 : decode cX10_addAct 7 = .ok (.bipush 8, 2) := by decide +kernel
theorem dX10_addAct_9 : decode cX10_addAct 9 = .ok (.if_icmp .lt 10, 3) := by decide +kernel
theorem dX10_addAct_12 : decode cX10_addAct 12 = .ok (.aload_n 0, 1) := by decide +kernel
theorem dX10_addAct_13 : decode cX10_addAct 13 = .ok (.bipush (-6), 2) := by decide +kernel
theorem dX10_addAct_15 : decode cX10_addAct 15 = .ok (.invokevirtual 77, 3) := by decide +kernel
theorem dX10_addAct_18 : decode cX10_addAct 18 = .ok (.ireturn, 1) := by decide +kernel
theorem dX10_addAct_19 : decode cX10_addAct 19 = .ok (.aload_n 0, 1) := by decide +kernel
theorem dX10_addAct_20 : decode cX10_addAct 20 = .ok (.getfield 33, 3) := by decide +kernel
theorem dX10_addAct_23 : decode cX10_addAct 23 = .ok (.iload_n 1, 1) := by decide +kernel
theorem dX10_addAct_24 : decode cX10_addAct 24 = .ok (.iload_n 2, 1) := by decide +kernel
theorem dX10_addAct_25 : decode cX10_addAct 25 = .ok (.iload_n 3, 1) := by decide +kernel
theorem dX10_addAct_26 : decode cX10_addAct 26 = .ok (.lload 4, 2) := by decide +kernel
theorem dX10_addAct_28 : decode cX10_addAct 28 = .ok (.invokevirtual 252, 3) := by decide +kernel
theorem dX10_addAct_31 : decode cX10_addAct 31 = .ok (.aload_n 0, 1) := by decide +kernel
theorem dX10_addAct_32 : decode cX10_addAct 32 = .ok (.getfield 33, 3) := by decide +kernel
theorem dX10_addAct_35 : decode cX10_addAct 35 = .ok (.getfield 207, 3) := by decide +kernel
theorem dX10_addAct_38 : decode cX10_addAct 38 = .ok (.ireturn, 1) := by decide +kernel
theorem dX10_hasStore_0 : decode cX10_hasStore 0 = .ok (.aload_n 0, 1) := by decide +kernel
theorem dX10_hasStore_1 : decode cX10_hasStore 1 = .ok (.aload_n 0, 1) := by decide +kernel
theorem dX10_hasStore_2 : decode cX10_hasStore 2 = .ok (.getfield 66, 3) := by decide +kernel
theorem dX10_hasStore_5 : decode cX10_hasStore 5 = .ok (.invokevirtual 149, 3) := by decide +kernel
theorem dX10_hasStore_8 : decode cX10_hasStore 8 = .ok (.ireturn, 1) := by decide +kernel
theorem dX10_isKind_0 : decode cX10_isKind 0 = .ok (.iload_n 1, 1) := by decide +kernel
theorem dX10_isKind_1 : decode cX10_isKind 1 = .ok (.ifCond .lt 16, 3) := by decide +kernel
theorem dX10_isKind_4 : decode cX10_isKind 4 = .ok (.iload_n 1, 1) := by decide +kernel
theorem dX10_isKind_5 : decode cX10_isKind 5 = .ok (.aload_n 0, 1) := by decide +kernel
theorem dX10_isKind_6 : decode cX10_isKind 6 = .ok (.getfield 55, 3) := by decide +kernel
theorem dX10_isKind_9 : decode cX10_isKind 9 = .ok (.arraylength, 1) := by decide +kernel
theorem dX10_isKind_10 : decode cX10_isKind 10 = .ok (.if_icmp .ge 7, 3) := by decide +kernel
theorem dX10_isKind_13 : decode cX10_isKind 13 = .ok (.iconst 1, 1) := by decide +kernel
theorem dX10_isKind_14 : decode cX10_isKind 14 = .ok (.goto 4, 3) := by decide +kernel
theorem dX10_isKind_17 : decode cX10_isKind 17 = .ok (.iconst 0, 1) := by decide +kernel
theorem dX10_isKind_18 : decode cX10_isKind 18 = .ok (.ireturn, 1) := by decide +kernel
theorem dX10_isSector_0 : decode cX10_isSector 0 = .ok (.iload_n 0, 1) := by decide +kernel
theorem dX10_isSector_1 : decode cX10_isSector 1 = .ok (.ifCond .lt 13, 3) := by decide +kernel
theorem dX10_isSector_4 : decode cX10_isSector 4 = .ok (.iload_n 0, 1) := by decide +kernel
theorem dX10_isSector_5 : decode cX10_isSector 5 = .ok (.bipush 16, 2) := by decide +kernel
theorem dX10_isSector_7 : decode cX10_isSector 7 = .ok (.if_icmp .ge 7, 3) := by decide +kernel
theorem dX10_isSector_10 : decode cX10_isSector 10 = .ok (.iconst 1, 1) := by decide +kernel
theorem dX10_isSector_11 : decode cX10_isSector 11 = .ok (.goto 4, 3) := by decide +kernel
theorem dX10_isSector_14 : decode cX10_isSector 14 = .ok (.iconst 0, 1) := by decide +kernel
theorem dX10_isSector_15 : decode cX10_isSector 15 = .ok (.ireturn, 1) := by decide +kernel
theorem dX10_isPart_0 : decode cX10_isPart 0 = .ok (.iload_n 0, 1) := by decide +kernel
theorem dX10_isPart_1 : decode cX10_isPart 1 = .ok (.invokestatic 73, 3) := by decide +kernel
theorem dX10_isPart_4 : decode cX10_isPart 4 = .ok (.ifCond .eq 16, 3) := by decide +kernel
theorem dX10_isPart_7 : decode cX10_isPart 7 = .ok (.iload_n 1, 1) := by decide +kernel
theorem dX10_isPart_8 : decode cX10_isPart 8 = .ok (.ifCond .eq 8, 3) := by decide +kernel
theorem dX10_isPart_11 : decode cX10_isPart 11 = .ok (.iload_n 1, 1) := by decide +kernel
theorem dX10_isPart_12 : decode cX10_isPart 12 = .ok (.iconst 1, 1) := by decide +kernel
theorem dX10_isPart_13 : decode cX10_isPart 13 = .ok (.if_icmp .ne 7, 3) := by decide +kernel
theorem dX10_isPart_16 : decode cX10_isPart 16 = .ok (.iconst 1, 1) := by decide +kernel
theorem dX10_isPart_17 : decode cX10_isPart 17 = .ok (.goto 4, 3) := by decide +kernel
theorem dX10_isPart_20 : decode cX10_isPart 20 = .ok (.iconst 0, 1) := by decide +kernel
theorem dX10_isPart_21 : decode cX10_isPart 21 = .ok (.ireturn, 1) := by decide +kernel
theorem dX10_isKey_0 : decode cX10_isKey 0 = .ok (.iload_n 0, 1) := by decide +kernel
theorem dX10_isKey_1 : decode cX10_isKey 1 = .ok (.ifCond .lt 12, 3) := by decide +kernel
theorem dX10_isKey_4 : decode cX10_isKey 4 = .ok (.iload_n 0, 1) := by decide +kernel
theorem dX10_isKey_5 : decode cX10_isKey 5 = .ok (.iconst 3, 1) := by decide +kernel
theorem dX10_isKey_6 : decode cX10_isKey 6 = .ok (.if_icmp .ge 7, 3) := by decide +kernel
theorem dX10_isKey_9 : decode cX10_isKey 9 = .ok (.iconst 1, 1) := by decide +kernel
theorem dX10_isKey_10 : decode cX10_isKey 10 = .ok (.goto 4, 3) := by decide +kernel
theorem dX10_isKey_13 : decode cX10_isKey 13 = .ok (.iconst 0, 1) := by decide +kernel
theorem dX10_isKey_14 : decode cX10_isKey 14 = .ok (.ireturn, 1) := by decide +kernel
theorem dX10_areTwoKeys_0 : decode cX10_areTwoKeys 0 = .ok (.iload_n 0, 1) := by decide +kernel
theorem dX10_areTwoKeys_1 : decode cX10_areTwoKeys 1 = .ok (.invokestatic 164, 3) := by decide +kernel
theorem dX10_areTwoKeys_4 : decode cX10_areTwoKeys 4 = .ok (.ifCond .eq 19, 3) := by decide +kernel
theorem dX10_areTwoKeys_7 : decode cX10_areTwoKeys 7 = .ok (.iload_n 1, 1) := by decide +kernel
theorem dX10_areTwoKeys_8 : decode cX10_areTwoKeys 8 = .ok (.invokestatic 164, 3) := by decide +kernel
theorem dX10_areTwoKeys_11 : decode cX10_areTwoKeys 11 = .ok (.ifCond .eq 12, 3) := by decide +kernel
theorem dX10_areTwoKeys_14 : decode cX10_areTwoKeys 14 = .ok (.iload_n 0, 1) := by decide +kernel
theorem dX10_areTwoKeys_15 : decode cX10_areTwoKeys 15 = .ok (.iload_n 1, 1) := by decide +kernel
theorem dX10_areTwoKeys_16 : decode cX10_areTwoKeys 16 = .ok (.if_icmp .eq 7, 3) := by decide +kernel
theorem dX10_areTwoKeys_19 : decode cX10_areTwoKeys 19 = .ok (.iconst 1, 1) := by decide +kernel
theorem dX10_areTwoKeys_20 : decode cX10_areTwoKeys 20 = .ok (.goto 4, 3) := by decide +kernel
theorem dX10_areTwoKeys_23 : decode cX10_areTwoKeys 23 = .ok (.iconst 0, 1) := by decide +kernel
theorem dX10_areTwoKeys_24 : decode cX10_areTwoKeys 24 = .ok (.ireturn, 1) := by decide +kernel
theorem dX10_high_0 : decode cX10_high 0 = .ok (.lload_n 0, 1) := by decide +kernel
theorem dX10_high_1 : decode cX10_high 1 = .ok (.bipush 32, 2) := by decide +kernel
theorem dX10_high_3 : decode cX10_high 3 = .ok (.lshr, 1) := by decide +kernel
theorem dX10_high_4 : decode cX10_high 4 = .ok (.l2i, 1) := by decide +kernel
theorem dX10_high_5 : decode cX10_high 5 = .ok (.ireturn, 1) := by decide +kernel
theorem dX10_low_0 : decode cX10_low 0 = .ok (.lload_n 0, 1) := by decide +kernel
theorem dX10_low_1 : decode cX10_low 1 = .ok (.l2i, 1) := by decide +kernel
theorem dX10_low_2 : decode cX10_low 2 = .ok (.ireturn, 1) := by decide +kernel
theorem dX11_init_0 : decode cX11_init 0 = .ok (.aload_n 0, 1) := by decide +kernel
theorem dX11_init_1 : decode cX11_init 1 = .ok (.invokespecial 1, 3) := by decide +kernel
theorem dX11_init_4 : decode cX11_init 4 = .ok (.aload_n 0, 1) := by decide +kernel
theorem dX11_init_5 : decode cX11_init 5 = .ok (.bipush 96, 2) := by decide +kernel
theorem dX11_init_7 : decode cX11_init 7 = .ok (.newarray .int, 2) := by decide +kernel
theorem dX11_init_9 : decode cX11_init 9 = .ok (.putfield 7, 3) := by decide +kernel
theorem dX11_init_12 : decode cX11_init 12 = .ok (.aload_n 0, 1) := by decide +kernel
theorem dX11_init_13 : decode cX11_init 13 = .ok (.sipush 180, 3) := by decide +kernel
theorem dX11_init_16 : decode cX11_init 16 = .ok (.newarray .int, 2) := by decide +kernel
theorem dX11_init_18 : decode cX11_init 18 = .ok (.putfield 13, 3) := by decide +kernel
theorem dX11_init_21 : decode cX11_init 21 = .ok (.aload_n 0, 1) := by decide +kernel
theorem dX11_init_22 : decode cX11_init 22 = .ok (.sipush 180, 3) := by decide +kernel
theorem dX11_init_25 : decode cX11_init 25 = .ok (.newarray .int, 2) := by decide +kernel
theorem dX11_init_27 : decode cX11_init 27 = .ok (.putfield 16, 3) := by decide +kernel
theorem dX11_init_30 : decode cX11_init 30 = .ok (.aload_n 0, 1) := by decide +kernel
theorem dX11_init_31 : decode cX11_init 31 = .ok (.sipush 180, 3) := by decide +kernel
theorem dX11_init_34 : decode cX11_init 34 = .ok (.newarray .int, 2) := by decide +kernel
theorem dX11_init_36 : decode cX11_init 36 = .ok (.putfield 19, 3) := by decide +kernel
theorem dX11_init_39 : decode cX11_init 39 = .ok (.aload_n 0, 1) := by decide +kernel
theorem dX11_init_40 : decode cX11_init 40 = .ok (.iconst 3, 1) := by decide +kernel
theorem dX11_init_41 : decode cX11_init 41 = .ok (.newarray .int, 2) := by decide +kernel
theorem dX11_init_43 : decode cX11_init 43 = .ok (.putfield 22, 3) := by decide +kernel
theorem dX11_init_46 : decode cX11_init 46 = .ok (.aload_n 0, 1) := by decide +kernel
theorem dX11_init_47 : decode cX11_init 47 = .ok (.iconst (-1), 1) := by decide +kernel
theorem dX11_init_48 : decode cX11_init 48 = .ok (.putfield 25, 3) := by decide +kernel
theorem dX11_init_51 : decode cX11_init 51 = .ok (.aload_n 0, 1) := by decide +kernel
theorem dX11_init_52 : decode cX11_init 52 = .ok (.bipush 12, 2) := by decide +kernel
theorem dX11_init_54 : decode cX11_init 54 = .ok (.newarray .boolean, 2) := by decide +kernel
theorem dX11_init_56 : decode cX11_init 56 = .ok (.putfield 29, 3) := by decide +kernel
theorem dX11_init_59 : decode cX11_init 59 = .ok (.aload_n 0, 1) := by decide +kernel
theorem dX11_init_60 : decode cX11_init 60 = .ok (.bipush 7, 2) := by decide +kernel
theorem dX11_init_62 : decode cX11_init 62 = .ok (.newarray .int, 2) := by decide +kernel
theorem dX11_init_64 : decode cX11_init 64 = .ok (.putfield 33, 3) := by decide +kernel
theorem dX11_init_67 : decode cX11_init 67 = .ok (.aload_n 0, 1) := by decide +kernel
theorem dX11_init_68 : decode cX11_init 68 = .ok (.ldc 36, 2) := by decide +kernel
theorem dX11_init_70 : decode cX11_init 70 = .ok (.newarray .int, 2) := by decide +kernel
theorem dX11_init_72 : decode cX11_init 72 = .ok (.putfield 37, 3) := by decide +kernel
theorem dX11_init_75 : decode cX11_init 75 = .ok (.aload_n 0, 1) := by decide +kernel
theorem dX11_init_76 : decode cX11_init 76 = .ok (.sipush 4096, 3) := by decide +kernel
theorem dX11_init_79 : decode cX11_init 79 = .ok (.newarray .int, 2) := by decide +kernel
theorem dX11_init_81 : decode cX11_init 81 = .ok (.putfield 40, 3) := by decide +kernel
theorem dX11_init_84 : decode cX11_init 84 = .ok (.aload_n 0, 1) := by decide +kernel
theorem dX11_init_85 : decode cX11_init 85 = .ok (.bipush 32, 2) := by decide +kernel
theorem dX11_init_87 : decode cX11_init 87 = .ok (.newarray .int, 2) := by decide +kernel
theorem dX11_init_89 : decode cX11_init 89 = .ok (.putfield 43, 3) := by decide +kernel
theorem dX11_init_92 : decode cX11_init 92 = .ok (.aload_n 0, 1) := by decide +kernel
theorem dX11_init_93 : decode cX11_init 93 = .ok (.sipush 1952, 3) := by decide +kernel
theorem dX11_init_96 : decode cX11_init 96 = .ok (.newarray .int, 2) := by decide +kernel
theorem dX11_init_98 : decode cX11_init 98 = .ok (.putfield 46, 3) := by decide +kernel
theorem dX11_init_101 : decode cX11_init 101 = .ok (.aload_n 0, 1) := by decide +kernel
theorem dX11_init_102 : decode cX11_init 102 = .ok (.bipush 32, 2) := by decide +kernel
theorem dX11_init_104 : decode cX11_init 104 = .ok (.newarray .int, 2) := by decide +kernel
theorem dX11_init_106 : decode cX11_init 106 = .ok (.putfield 49, 3) := by decide +kernel
theorem dX11_init_109 : decode cX11_init 109 = .ok (.aload_n 0, 1) := by decide +kernel
theorem dX11_init_110 : decode cX11_init 110 = .ok (.bipush 32, 2) := by decide +kernel
theorem dX11_init_112 : decode cX11_init 112 = .ok (.newarray .int, 2) := by decide +kernel
theorem dX11_init_114 : decode cX11_init 114 = .ok (.putfield 52, 3) := by decide +kernel
theorem dX11_init_117 : decode cX11_init 117 = .ok (.aload_n 0, 1) := by decide +kernel
theorem dX11_init_118 : decode cX11_init 118 = .ok (.bipush 16, 2) := by decide +kernel
theorem dX11_init_120 : decode cX11_init 120 = .ok (.newarray .int, 2) := by decide +kernel
theorem dX11_init_122 : decode cX11_init 122 = .ok (.putfield 55, 3) := by decide +kernel
theorem dX11_init_125 : decode cX11_init 125 = .ok (.aload_n 0, 1) := by decide +kernel
theorem dX11_init_126 : decode cX11_init 126 = .ok (.bipush 16, 2) := by decide +kernel
theorem dX11_init_128 : decode cX11_init 128 = .ok (.newarray .int, 2) := by decide +kernel
theorem dX11_init_130 : decode cX11_init 130 = .ok (.putfield 58, 3) := by decide +kernel
theorem dX11_init_133 : decode cX11_init 133 = .ok (.aload_n 0, 1) := by decide +kernel
theorem dX11_init_134 : decode cX11_init 134 = .ok (.bipush 16, 2) := by decide +kernel
theorem dX11_init_136 : decode cX11_init 136 = .ok (.newarray .int, 2) := by decide +kernel
theorem dX11_init_138 : decode cX11_init 138 = .ok (.putfield 61, 3) := by decide +kernel
theorem dX11_init_141 : decode cX11_init 141 = .ok (.aload_n 0, 1) := by decide +kernel
theorem dX11_init_142 : decode cX11_init 142 = .ok (.bipush 8, 2) := by decide +kernel
theorem dX11_init_144 : decode cX11_init 144 = .ok (.newarray .int, 2) := by decide +kernel
theorem dX11_init_146 : decode cX11_init 146 = .ok (.putfield 64, 3) := by decide +kernel
theorem dX11_init_149 : decode cX11_init 149 = .ok (.aload_n 0, 1) := by decide +kernel
theorem dX11_init_150 : decode cX11_init 150 = .ok (.bipush 8, 2) := by decide +kernel
theorem dX11_init_152 : decode cX11_init 152 = .ok (.newarray .int, 2) := by decide +kernel
theorem dX11_init_154 : decode cX11_init 154 = .ok (.putfield 67, 3) := by decide +kernel
theorem dX11_init_157 : decode cX11_init 157 = .ok (.aload_n 0, 1) := by decide +kernel
theorem dX11_init_158 : decode cX11_init 158 = .ok (.bipush 8, 2) := by decide +kernel
theorem dX11_init_160 : decode cX11_init 160 = .ok (.newarray .int, 2) := by decide +kernel
theorem dX11_init_162 : decode cX11_init 162 = .ok (.putfield 70, 3) := by decide +kernel
theorem dX11_init_165 : decode cX11_init 165 = .ok (.aload_n 0, 1) := by decide +kernel
theorem dX11_init_166 : decode cX11_init 166 = .ok (.bipush 8, 2) := by decide +kernel
theorem dX11_init_168 : decode cX11_init 168 = .ok (.newarray .long, 2) := by decide +kernel
theorem dX11_init_170 : decode cX11_init 170 = .ok (.putfield 73, 3) := by decide +kernel
theorem dX11_init_173 : decode cX11_init 173 = .ok (.aload_n 0, 1) := by decide +kernel
theorem dX11_init_174 : decode cX11_init 174 = .ok (.bipush 27, 2) := by decide +kernel
theorem dX11_init_176 : decode cX11_init 176 = .ok (.newarray .long, 2) := by decide +kernel
theorem dX11_init_178 : decode cX11_init 178 = .ok (.putfield 77, 3) := by decide +kernel
theorem dX11_init_181 : decode cX11_init 181 = .ok (.aload_n 0, 1) := by decide +kernel
theorem dX11_init_182 : decode cX11_init 182 = .ok (.bipush 7, 2) := by decide +kernel
theorem dX11_init_184 : decode cX11_init 184 = .ok (.newarray .int, 2) := by decide +kernel
theorem dX11_init_186 : decode cX11_init 186 = .ok (.putfield 80, 3) := by decide +kernel
theorem dX11_init_189 : decode cX11_init 189 = .ok (.aload_n 0, 1) := by decide +kernel
theorem dX11_init_190 : decode cX11_init 190 = .ok (.bipush 7, 2) := by decide +kernel
theorem dX11_init_192 : decode cX11_init 192 = .ok (.newarray .int, 2) := by decide +kernel
theorem dX11_init_194 : decode cX11_init 194 = .ok (.putfield 83, 3) := by decide +kernel
theorem dX11_init_197 : decode cX11_init 197 = .ok (.aload_n 0, 1) := by decide +kernel
theorem dX11_init_198 : decode cX11_init 198 = .ok (.sipush 500, 3) := by decide +kernel
theorem dX11_init_201 : decode cX11_init 201 = .ok (.newarray .int, 2) := by decide +kernel
theorem dX11_init_203 : decode cX11_init 203 = .ok (.putfield 86, 3) := by decide +kernel
theorem dX11_init_206 : decode cX11_init 206 = .ok (.aload_n 0, 1) := by decide +kernel
theorem dX11_init_207 : decode cX11_init 207 = .ok (.sipush 500, 3) := by decide +kernel
theorem dX11_init_210 : decode cX11_init 210 = .ok (.newarray .int, 2) := by decide +kernel
theorem dX11_init_212 : decode cX11_init 212 = .ok (.putfield 89, 3) := by decide +kernel
theorem dX11_init_215 : decode cX11_init 215 = .ok (.aload_n 0, 1) := by decide +kernel
theorem dX11_init_216 : decode cX11_init 216 = .ok (.iconst 3, 1) := by decide +kernel
theorem dX11_init_217 : decode cX11_init 217 = .ok (.newarray .long, 2) := by decide +kernel
theorem dX11_init_219 : decode cX11_init 219 = .ok (.putfield 92, 3) := by decide +kernel
theorem dX11_init_222 : decode cX11_init 222 = .ok (.aload_n 0, 1) := by decide +kernel
theorem dX11_init_223 : decode cX11_init 223 = .ok (.bipush 16, 2) := by decide +kernel
theorem dX11_init_225 : decode cX11_init 225 = .ok (.newarray .int, 2) := by decide +kernel
theorem dX11_init_227 : decode cX11_init 227 = .ok (.putfield 95, 3) := by decide +kernel
theorem dX11_init_230 : decode cX11_init 230 = .ok (.aload_n 0, 1) := by decide +kernel
theorem dX11_init_231 : decode cX11_init 231 = .ok (.bipush 16, 2) := by decide +kernel
theorem dX11_init_233 : decode cX11_init 233 = .ok (.newarray .int, 2) := by decide +kernel
theorem dX11_init_235 : decode cX11_init 235 = .ok (.putfield 98, 3) := by decide +kernel
theorem dX11_init_238 : decode cX11_init 238 = .ok (.aload_n 0, 1) := by decide +kernel
theorem dX11_init_239 : decode cX11_init 239 = .ok (.bipush 16, 2) := by decide +kernel
theorem dX11_init_241 : decode cX11_init 241 = .ok (.newarray .int, 2) := by decide +kernel
theorem dX11_init_243 : decode cX11_init 243 = .ok (.putfield 101, 3) := by decide +kernel
theorem dX11_init_246 : decode cX11_init 246 = .ok (.return_, 1) := by decide +kernel
theorem dX11_thrown_0 : decode cX11_thrown 0 = .ok (.aload_n 0, 1) := by decide +kernel
theorem dX11_thrown_1 : decode cX11_thrown 1 = .ok (.getfield 104, 3) := by decide +kernel
theorem dX11_thrown_4 : decode cX11_thrown 4 = .ok (.ireturn, 1) := by decide +kernel
theorem dX11_in_0 : decode cX11_in 0 = .ok (.iload_n 0, 1) := by decide +kernel
theorem dX11_in_1 : decode cX11_in 1 = .ok (.iload_n 1, 1) := by decide +kernel
theorem dX11_in_2 : decode cX11_in 2 = .ok (.if_icmp .lt 12, 3) := by decide +kernel
theorem dX11_in_5 : decode cX11_in 5 = .ok (.iload_n 0, 1) := by decide +kernel
theorem dX11_in_6 : decode cX11_in 6 = .ok (.iload_n 2, 1) := by decide +kernel
theorem dX11_in_7 : decode cX11_in 7 = .ok (.if_icmp .gt 7, 3) := by decide +kernel
theorem dX11_in_10 : decode cX11_in 10 = .ok (.iconst 1, 1) := by decide +kernel
theorem dX11_in_11 : decode cX11_in 11 = .ok (.goto 4, 3) := by decide +kernel
theorem dX11_in_14 : decode cX11_in 14 = .ok (.iconst 0, 1) := by decide +kernel
theorem dX11_in_15 : decode cX11_in 15 = .ok (.ireturn, 1) := by decide +kernel
theorem dX11_refuse_0 : decode cX11_refuse 0 = .ok (.aload_n 0, 1) := by decide +kernel
theorem dX11_refuse_1 : decode cX11_refuse 1 = .ok (.getfield 33, 3) := by decide +kernel
theorem dX11_refuse_4 : decode cX11_refuse 4 = .ok (.iload_n 1, 1) := by decide +kernel
theorem dX11_refuse_5 : decode cX11_refuse 5 = .ok (.ineg, 1) := by decide +kernel
theorem dX11_refuse_6 : decode cX11_refuse 6 = .ok (.dup2, 1) := by decide +kernel
theorem dX11_refuse_7 : decode cX11_refuse 7 = .ok (.iaload, 1) := by decide +kernel
theorem dX11_refuse_8 : decode cX11_refuse 8 = .ok (.iconst 1, 1) := by decide +kernel
theorem dX11_refuse_9 : decode cX11_refuse 9 = .ok (.iadd, 1) := by decide +kernel
theorem dX11_refuse_10 : decode cX11_refuse 10 = .ok (.iastore, 1) := by decide +kernel
theorem dX11_refuse_11 : decode cX11_refuse 11 = .ok (.iload_n 1, 1) := by decide +kernel
theorem dX11_refuse_12 : decode cX11_refuse 12 = .ok (.ireturn, 1) := by decide +kernel
theorem dX11_readOf_0 : decode cX11_readOf 0 = .ok (.aload_n 0, 1) := by decide +kernel
theorem dX11_readOf_1 : decode cX11_readOf 1 = .ok (.getfield 22, 3) := by decide +kernel
theorem dX11_readOf_4 : decode cX11_readOf 4 = .ok (.iload_n 1, 1) := by decide +kernel
theorem dX11_readOf_5 : decode cX11_readOf 5 = .ok (.iaload, 1) := by decide +kernel
theorem dX11_readOf_6 : decode cX11_readOf 6 = .ok (.iconst 1, 1) := by decide +kernel
theorem dX11_readOf_7 : decode cX11_readOf 7 = .ok (.isub, 1) := by decide +kernel
theorem dX11_readOf_8 : decode cX11_readOf 8 = .ok (.istore 4, 2) := by decide +kernel
theorem dX11_readOf_10 : decode cX11_readOf 10 = .ok (.iload 4, 2) := by decide +kernel
theorem dX11_readOf_12 : decode cX11_readOf 12 = .ok (.ifCond .lt 57, 3) := by decide +kernel
theorem dX11_readOf_15 : decode cX11_readOf 15 = .ok (.aload_n 0, 1) := by decide +kernel
theorem dX11_readOf_16 : decode cX11_readOf 16 = .ok (.getfield 13, 3) := by decide +kernel
theorem dX11_readOf_19 : decode cX11_readOf 19 = .ok (.bipush 60, 2) := by decide +kernel
theorem dX11_readOf_21 : decode cX11_readOf 21 = .ok (.iload_n 1, 1) := by decide +kernel
theorem dX11_readOf_22 : decode cX11_readOf 22 = .ok (.imul, 1) := by decide +kernel
theorem dX11_readOf_23 : decode cX11_readOf 23 = .ok (.iload 4, 2) := by decide +kernel
theorem dX11_readOf_25 : decode cX11_readOf 25 = .ok (.iadd, 1) := by decide +kernel
theorem dX11_readOf_26 : decode cX11_readOf 26 = .ok (.iaload, 1) := by decide +kernel
theorem dX11_readOf_27 : decode cX11_readOf 27 = .ok (.iload_n 2, 1) := by decide +kernel
theorem dX11_readOf_28 : decode cX11_readOf 28 = .ok (.if_icmp .ne 35, 3) := by decide +kernel
theorem dX11_readOf_31 : decode cX11_readOf 31 = .ok (.iload_n 3, 1) := by decide +kernel
theorem dX11_readOf_32 : decode cX11_readOf 32 = .ok (.ifCond .ne 18, 3) := by decide +kernel
theorem dX11_readOf_35 : decode cX11_readOf 35 = .ok (.aload_n 0, 1) := by decide +kernel
theorem dX11_readOf_36 : decode cX11_readOf 36 = .ok (.getfield 16, 3) := by decide +kernel
theorem dX11_readOf_39 : decode cX11_readOf 39 = .ok (.bipush 60, 2) := by decide +kernel
theorem dX11_readOf_41 : decode cX11_readOf 41 = .ok (.iload_n 1, 1) := by decide +kernel
theorem dX11_readOf_42 : decode cX11_readOf 42 = .ok (.imul, 1) := by decide +kernel
theorem dX11_readOf_43 : decode cX11_readOf 43 = .ok (.iload 4, 2) := by decide +kernel
theorem dX11_readOf_45 : decode cX11_readOf 45 = .ok (.iadd, 1) := by decide +kernel
theorem dX11_readOf_46 : decode cX11_readOf 46 = .ok (.iaload, 1) := by decide +kernel
theorem dX11_readOf_47 : decode cX11_readOf 47 = .ok (.goto 15, 3) := by decide +kernel
theorem dX11_readOf_50 : decode cX11_readOf 50 = .ok (.aload_n 0, 1) := by decide +kernel
theorem dX11_readOf_51 : decode cX11_readOf 51 = .ok (.getfield 19, 3) := by decide +kernel
theorem dX11_readOf_54 : decode cX11_readOf 54 = .ok (.bipush 60, 2) := by decide +kernel
theorem dX11_readOf_56 : decode cX11_readOf 56 = .ok (.iload_n 1, 1) := by decide +kernel
theorem dX11_readOf_57 : decode cX11_readOf 57 = .ok (.imul, 1) := by decide +kernel
theorem dX11_readOf_58 : decode cX11_readOf 58 = .ok (.iload 4, 2) := by decide +kernel
theorem dX11_readOf_60 : decode cX11_readOf 60 = .ok (.iadd, 1) := by decide +kernel
theorem dX11_readOf_61 : decode cX11_readOf 61 = .ok (.iaload, 1) := by decide +kernel
theorem dX11_readOf_62 : decode cX11_readOf 62 = .ok (.ireturn, 1) := by decide +kernel
theorem dX11_readOf_63 : decode cX11_readOf 63 = .ok (.iinc 4 (-1), 3) := by decide +kernel
theorem dX11_readOf_66 : decode cX11_readOf 66 = .ok (.goto (-56), 3) := by decide +kernel
theorem dX11_readOf_69 : decode cX11_readOf 69 = .ok (.aload_n 0, 1) := by decide +kernel
theorem dX11_readOf_70 : decode cX11_readOf 70 = .ok (.getfield 7, 3) := by decide +kernel
theorem dX11_readOf_73 : decode cX11_readOf 73 = .ok (.bipush 32, 2) := by decide +kernel
theorem dX11_readOf_75 : decode cX11_readOf 75 = .ok (.iload_n 1, 1) := by decide +kernel
theorem dX11_readOf_76 : decode cX11_readOf 76 = .ok (.imul, 1) := by decide +kernel
theorem dX11_readOf_77 : decode cX11_readOf 77 = .ok (.iconst 2, 1) := by decide +kernel
theorem dX11_readOf_78 : decode cX11_readOf 78 = .ok (.iload_n 2, 1) := by decide +kernel
theorem dX11_readOf_79 : decode cX11_readOf 79 = .ok (.imul, 1) := by decide +kernel
theorem dX11_readOf_80 : decode cX11_readOf 80 = .ok (.iadd, 1) := by decide +kernel
theorem dX11_readOf_81 : decode cX11_readOf 81 = .ok (.iload_n 3, 1) := by decide +kernel
theorem dX11_readOf_82 : decode cX11_readOf 82 = .ok (.iadd, 1) := by decide +kernel
theorem dX11_readOf_83 : decode cX11_readOf 83 = .ok (.iaload, 1) := by decide +kernel
theorem dX11_readOf_84 : decode cX11_readOf 84 = .ok (.ireturn, 1) := by decide +kernel
theorem dX11_push_0 : decode cX11_push 0 = .ok (.aload_n 0, 1) := by decide +kernel
theorem dX11_push_1 : decode cX11_push 1 = .ok (.getfield 22, 3) := by decide +kernel
theorem dX11_push_4 : decode cX11_push 4 = .ok (.iload_n 1, 1) := by decide +kernel
theorem dX11_push_5 : decode cX11_push 5 = .ok (.iaload, 1) := by decide +kernel
theorem dX11_push_6 : decode cX11_push 6 = .ok (.bipush 60, 2) := by decide +kernel
theorem dX11_push_8 : decode cX11_push 8 = .ok (.if_icmp .ne 5, 3) := by decide +kernel
theorem dX11_push_11 : decode cX11_push 11 = .ok (.iconst 0, 1) := by decide +kernel
theorem dX11_push_12 : decode cX11_push 12 = .ok (.ireturn, 1) := by decide +kernel
theorem dX11_push_13 : decode cX11_push 13 = .ok (.bipush 60, 2) := by decide +kernel
theorem dX11_push_15 : decode cX11_push 15 = .ok (.iload_n 1, 1) := by decide +kernel
theorem dX11_push_16 : decode cX11_push 16 = .ok (.imul, 1) := by decide +kernel
theorem dX11_push_17 : decode cX11_push 17 = .ok (.aload_n 0, 1) := by decide +kernel
theorem dX11_push_18 : decode cX11_push 18 = .ok (.getfield 22, 3) := by decide +kernel
theorem dX11_push_21 : decode cX11_push 21 = .ok (.iload_n 1, 1) := by decide +kernel
theorem dX11_push_22 : decode cX11_push 22 = .ok (.iaload, 1) := by decide +kernel
theorem dX11_push_23 : decode cX11_push 23 = .ok (.iadd, 1) := by decide +kernel
theorem dX11_push_24 : decode cX11_push 24 = .ok (.istore 5, 2) := by decide +kernel
theorem dX11_push_26 : decode cX11_push 26 = .ok (.aload_n 0, 1) := by decide +kernel
theorem dX11_push_27 : decode cX11_push 27 = .ok (.getfield 13, 3) := by decide +kernel
theorem dX11_push_30 : decode cX11_push 30 = .ok (.iload 5, 2) := by decide +kernel
theorem dX11_push_32 : decode cX11_push 32 = .ok (.iload_n 2, 1) := by decide +kernel
theorem dX11_push_33 : decode cX11_push 33 = .ok (.iastore, 1) := by decide +kernel
theorem dX11_push_34 : decode cX11_push 34 = .ok (.aload_n 0, 1) := by decide +kernel
theorem dX11_push_35 : decode cX11_push 35 = .ok (.getfield 16, 3) := by decide +kernel
theorem dX11_push_38 : decode cX11_push 38 = .ok (.iload 5, 2) := by decide +kernel
theorem dX11_push_40 : decode cX11_push 40 = .ok (.iload_n 3, 1) := by decide +kernel
theorem dX11_push_41 : decode cX11_push 41 = .ok (.iastore, 1) := by decide +kernel
theorem dX11_push_42 : decode cX11_push 42 = .ok (.aload_n 0, 1) := by decide +kernel
theorem dX11_push_43 : decode cX11_push 43 = .ok (.getfield 19, 3) := by decide +kernel
theorem dX11_push_46 : decode cX11_push 46 = .ok (.iload 5, 2) := by decide +kernel
theorem dX11_push_48 : decode cX11_push 48 = .ok (.iload 4, 2) := by decide +kernel
theorem dX11_push_50 : decode cX11_push 50 = .ok (.iastore, 1) := by decide +kernel
theorem dX11_push_51 : decode cX11_push 51 = .ok (.aload_n 0, 1) := by decide +kernel
theorem dX11_push_52 : decode cX11_push 52 = .ok (.getfield 22, 3) := by decide +kernel
theorem dX11_push_55 : decode cX11_push 55 = .ok (.iload_n 1, 1) := by decide +kernel
theorem dX11_push_56 : decode cX11_push 56 = .ok (.dup2, 1) := by decide +kernel
theorem dX11_push_57 : decode cX11_push 57 = .ok (.iaload, 1) := by decide +kernel
theorem dX11_push_58 : decode cX11_push 58 = .ok (.iconst 1, 1) := by decide +kernel
theorem dX11_push_59 : decode cX11_push 59 = .ok (.iadd, 1) := by decide +kernel
theorem dX11_push_60 : decode cX11_push 60 = .ok (.iastore, 1) := by decide +kernel
theorem dX11_push_61 : decode cX11_push 61 = .ok (.aload_n 0, 1) := by decide +kernel
theorem dX11_push_62 : decode cX11_push 62 = .ok (.dup, 1) := by decide +kernel
theorem dX11_push_63 : decode cX11_push 63 = .ok (.getfield 107, 3) := by decide +kernel
theorem dX11_push_66 : decode cX11_push 66 = .ok (.iload_n 1, 1) := by decide +kernel
theorem dX11_push_67 : decode cX11_push 67 = .ok (.ifCond .ne 12, 3) := by decide +kernel
theorem dX11_push_70 : decode cX11_push 70 = .ok (.iload_n 2, 1) := by decide +kernel
theorem dX11_push_71 : decode cX11_push 71 = .ok (.iconst (-1), 1) := by decide +kernel
theorem dX11_push_72 : decode cX11_push 72 = .ok (.if_icmp .eq 7, 3) := by decide +kernel
theorem dX11_push_75 : decode cX11_push 75 = .ok (.iconst 1, 1) := by decide +kernel
theorem dX11_push_76 : decode cX11_push 76 = .ok (.goto 4, 3) := by decide +kernel
theorem dX11_push_79 : decode cX11_push 79 = .ok (.iconst 0, 1) := by decide +kernel
theorem dX11_push_80 : decode cX11_push 80 = .ok (.iadd, 1) := by decide +kernel
theorem dX11_push_81 : decode cX11_push 81 = .ok (.putfield 107, 3) := by decide +kernel
theorem dX11_push_84 : decode cX11_push 84 = .ok (.iconst 1, 1) := by decide +kernel
theorem dX11_push_85 : decode cX11_push 85 = .ok (.ireturn, 1) := by decide +kernel
theorem dX11_flushOf_0 : decode cX11_flushOf 0 = .ok (.iconst 0, 1) := by decide +kernel
theorem dX11_flushOf_1 : decode cX11_flushOf 1 = .ok (.istore_n 2, 1) := by decide +kernel
theorem dX11_flushOf_2 : decode cX11_flushOf 2 = .ok (.bipush 60, 2) := by decide +kernel
theorem dX11_flushOf_4 : decode cX11_flushOf 4 = .ok (.iload_n 1, 1) := by decide +kernel
theorem dX11_flushOf_5 : decode cX11_flushOf 5 = .ok (.imul, 1) := by decide +kernel
theorem dX11_flushOf_6 : decode cX11_flushOf 6 = .ok (.istore_n 3, 1) := by decide +kernel
theorem dX11_flushOf_7 : decode cX11_flushOf 7 = .ok (.iload_n 3, 1) := by decide +kernel
theorem dX11_flushOf_8 : decode cX11_flushOf 8 = .ok (.bipush 60, 2) := by decide +kernel
theorem dX11_flushOf_10 : decode cX11_flushOf 10 = .ok (.iload_n 1, 1) := by decide +kernel
theorem dX11_flushOf_11 : decode cX11_flushOf 11 = .ok (.imul, 1) := by decide +kernel
theorem dX11_flushOf_12 : decode cX11_flushOf 12 = .ok (.aload_n 0, 1) := by decide +kernel
theorem dX11_flushOf_13 : decode cX11_flushOf 13 = .ok (.getfield 22, 3) := by decide +kernel
theorem dX11_flushOf_16 : decode cX11_flushOf 16 = .ok (.iload_n 1, 1) := by decide +kernel
theorem dX11_flushOf_17 : decode cX11_flushOf 17 = .ok (.iaload, 1) := by decide +kernel
theorem dX11_flushOf_18 : decode cX11_flushOf 18 = .ok (.iadd, 1) := by decide +kernel
theorem dX11_flushOf_19 : decode cX11_flushOf 19 = .ok (.if_icmp .ge 72, 3) := by decide +kernel
theorem dX11_flushOf_22 : decode cX11_flushOf 22 = .ok (.aload_n 0, 1) := by decide +kernel
theorem dX11_flushOf_23 : decode cX11_flushOf 23 = .ok (.getfield 13, 3) := by decide +kernel
theorem dX11_flushOf_26 : decode cX11_flushOf 26 = .ok (.iload_n 3, 1) := by decide +kernel
theorem dX11_flushOf_27 : decode cX11_flushOf 27 = .ok (.iaload, 1) := by decide +kernel
theorem dX11_flushOf_28 : decode cX11_flushOf 28 = .ok (.iconst (-1), 1) := by decide +kernel
theorem dX11_flushOf_29 : decode cX11_flushOf 29 = .ok (.if_icmp .eq 56, 3) := by decide +kernel
theorem dX11_flushOf_32 : decode cX11_flushOf 32 = .ok (.aload_n 0, 1) := by decide +kernel
theorem dX11_flushOf_33 : decode cX11_flushOf 33 = .ok (.getfield 7, 3) := by decide +kernel
theorem dX11_flushOf_36 : decode cX11_flushOf 36 = .ok (.bipush 32, 2) := by decide +kernel
theorem dX11_flushOf_38 : decode cX11_flushOf 38 = .ok (.iload_n 1, 1) := by decide +kernel
theorem dX11_flushOf_39 : decode cX11_flushOf 39 = .ok (.imul, 1) := by decide +kernel
theorem dX11_flushOf_40 : decode cX11_flushOf 40 = .ok (.iconst 2, 1) := by decide +kernel
theorem dX11_flushOf_41 : decode cX11_flushOf 41 = .ok (.aload_n 0, 1) := by decide +kernel
theorem dX11_flushOf_42 : decode cX11_flushOf 42 = .ok (.getfield 13, 3) := by decide +kernel
theorem dX11_flushOf_45 : decode cX11_flushOf 45 = .ok (.iload_n 3, 1) := by decide +kernel
theorem dX11_flushOf_46 : decode cX11_flushOf 46 = .ok (.iaload, 1) := by decide +kernel
theorem dX11_flushOf_47 : decode cX11_flushOf 47 = .ok (.imul, 1) := by decide +kernel
theorem dX11_flushOf_48 : decode cX11_flushOf 48 = .ok (.iadd, 1) := by decide +kernel
theorem dX11_flushOf_49 : decode cX11_flushOf 49 = .ok (.aload_n 0, 1) := by decide +kernel
theorem dX11_flushOf_50 : decode cX11_flushOf 50 = .ok (.getfield 16, 3) := by decide +kernel
theorem dX11_flushOf_53 : decode cX11_flushOf 53 = .ok (.iload_n 3, 1) := by decide +kernel
theorem dX11_flushOf_54 : decode cX11_flushOf 54 = .ok (.iaload, 1) := by decide +kernel
theorem dX11_flushOf_55 : decode cX11_flushOf 55 = .ok (.iastore, 1) := by decide +kernel
theorem dX11_flushOf_56 : decode cX11_flushOf 56 = .ok (.aload_n 0, 1) := by decide +kernel
theorem dX11_flushOf_57 : decode cX11_flushOf 57 = .ok (.getfield 7, 3) := by decide +kernel
theorem dX11_flushOf_60 : decode cX11_flushOf 60 = .ok (.bipush 32, 2) := by decide +kernel
theorem dX11_flushOf_62 : decode cX11_flushOf 62 = .ok (.iload_n 1, 1) := by decide +kernel
theorem dX11_flushOf_63 : decode cX11_flushOf 63 = .ok (.imul, 1) := by decide +kernel
theorem dX11_flushOf_64 : decode cX11_flushOf 64 = .ok (.iconst 2, 1) := by decide +kernel
theorem dX11_flushOf_65 : decode cX11_flushOf 65 = .ok (.aload_n 0, 1) := by decide +kernel
theorem dX11_flushOf_66 : decode cX11_flushOf 66 = .ok (.getfield 13, 3) := by decide +kernel
theorem dX11_flushOf_69 : decode cX11_flushOf 69 = .ok (.iload_n 3, 1) := by decide +kernel
theorem dX11_flushOf_70 : decode cX11_flushOf 70 = .ok (.iaload, 1) := by decide +kernel
theorem dX11_flushOf_71 : decode cX11_flushOf 71 = .ok (.imul, 1) := by decide +kernel
theorem dX11_flushOf_72 : decode cX11_flushOf 72 = .ok (.iadd, 1) := by decide +kernel
theorem dX11_flushOf_73 : decode cX11_flushOf 73 = .ok (.iconst 1, 1) := by decide +kernel
theorem dX11_flushOf_74 : decode cX11_flushOf 74 = .ok (.iadd, 1) := by decide +kernel
theorem dX11_flushOf_75 : decode cX11_flushOf 75 = .ok (.aload_n 0, 1) := by decide +kernel
theorem dX11_flushOf_76 : decode cX11_flushOf 76 = .ok (.getfield 19, 3) := by decide +kernel
theorem dX11_flushOf_79 : decode cX11_flushOf 79 = .ok (.iload_n 3, 1) := by decide +kernel
theorem dX11_flushOf_80 : decode cX11_flushOf 80 = .ok (.iaload, 1) := by decide +kernel
theorem dX11_flushOf_81 : decode cX11_flushOf 81 = .ok (.iastore, 1) := by decide +kernel
theorem dX11_flushOf_82 : decode cX11_flushOf 82 = .ok (.iinc 2 1, 3) := by decide +kernel
theorem dX11_flushOf_85 : decode cX11_flushOf 85 = .ok (.iinc 3 1, 3) := by decide +kernel
theorem dX11_flushOf_88 : decode cX11_flushOf 88 = .ok (.goto (-81), 3) := by decide +kernel
theorem dX11_flushOf_91 : decode cX11_flushOf 91 = .ok (.aload_n 0, 1) := by decide +kernel
theorem dX11_flushOf_92 : decode cX11_flushOf 92 = .ok (.getfield 22, 3) := by decide +kernel
theorem dX11_flushOf_95 : decode cX11_flushOf 95 = .ok (.iload_n 1, 1) := by decide +kernel
theorem dX11_flushOf_96 : decode cX11_flushOf 96 = .ok (.iconst 0, 1) := by decide +kernel
theorem dX11_flushOf_97 : decode cX11_flushOf 97 = .ok (.iastore, 1) := by decide +kernel
theorem dX11_flushOf_98 : decode cX11_flushOf 98 = .ok (.iload_n 2, 1) := by decide +kernel
theorem dX11_flushOf_99 : decode cX11_flushOf 99 = .ok (.ireturn, 1) := by decide +kernel
theorem dX11_write_0 : decode cX11_write 0 = .ok (.aload_n 0, 1) := by decide +kernel
theorem dX11_write_1 : decode cX11_write 1 = .ok (.iconst 0, 1) := by decide +kernel
theorem dX11_write_2 : decode cX11_write 2 = .ok (.putfield 104, 3) := by decide +kernel
theorem dX11_write_5 : decode cX11_write 5 = .ok (.iload_n 1, 1) := by decide +kernel
theorem dX11_write_6 : decode cX11_write 6 = .ok (.iconst 0, 1) := by decide +kernel
theorem dX11_write_7 : decode cX11_write 7 = .ok (.bipush 15, 2) := by decide +kernel
theorem dX11_write_9 : decode cX11_write 9 = .ok (.invokestatic 110, 3) := by decide +kernel
theorem dX11_write_12 : decode cX11_write 12 = .ok (.ifCond .ne 9, 3) := by decide +kernel
theorem dX11_write_15 : decode cX11_write 15 = .ok (.aload_n 0, 1) := by decide +kernel
theorem dX11_write_16 : decode cX11_write 16 = .ok (.iconst (-1), 1) := by decide +kernel
theorem dX11_write_17 : decode cX11_write 17 = .ok (.invokevirtual 114, 3) := by decide +kernel
theorem dX11_write_20 : decode cX11_write 20 = .ok (.ireturn, 1) := by decide +kernel
theorem dX11_write_21 : decode cX11_write 21 = .ok (.aload_n 0, 1) := by decide +kernel
theorem dX11_write_22 : decode cX11_write 22 = .ok (.iconst 0, 1) := by decide +kernel
theorem dX11_write_23 : decode cX11_write 23 = .ok (.iload_n 1, 1) := by decide +kernel
theorem dX11_write_24 : decode cX11_write 24 = .ok (.iload_n 2, 1) := by decide +kernel
theorem dX11_write_25 : decode cX11_write 25 = .ok (.iload_n 3, 1) := by decide +kernel
theorem dX11_write_26 : decode cX11_write 26 = .ok (.invokevirtual 118, 3) := by decide +kernel
theorem dX11_write_29 : decode cX11_write 29 = .ok (.ifCond .eq 12, 3) := by decide +kernel
theorem dX11_write_32 : decode cX11_write 32 = .ok (.aload_n 0, 1) := by decide +kernel
theorem dX11_write_33 : decode cX11_write 33 = .ok (.getfield 22, 3) := by decide +kernel
theorem dX11_write_36 : decode cX11_write 36 = .ok (.iconst 0, 1) := by decide +kernel
theorem dX11_write_37 : decode cX11_write 37 = .ok (.iaload, 1) := by decide +kernel
theorem dX11_write_38 : decode cX11_write 38 = .ok (.goto 9, 3) := by decide +kernel
theorem dX11_write_41 : decode cX11_write 41 = .ok (.aload_n 0, 1) := by decide +kernel
theorem dX11_write_42 : decode cX11_write 42 = .ok (.bipush (-6), 2) := by decide +kernel
theorem dX11_write_44 : decode cX11_write 44 = .ok (.invokevirtual 114, 3) := by decide +kernel
theorem dX11_write_47 : decode cX11_write 47 = .ok (.ireturn, 1) := by decide +kernel
theorem dX11_fence_0 : decode cX11_fence 0 = .ok (.aload_n 0, 1) := by decide +kernel
theorem dX11_fence_1 : decode cX11_fence 1 = .ok (.iconst 0, 1) := by decide +kernel
theorem dX11_fence_2 : decode cX11_fence 2 = .ok (.putfield 104, 3) := by decide +kernel
theorem dX11_fence_5 : decode cX11_fence 5 = .ok (.aload_n 0, 1) := by decide +kernel
theorem dX11_fence_6 : decode cX11_fence 6 = .ok (.iconst 0, 1) := by decide +kernel
theorem dX11_fence_7 : decode cX11_fence 7 = .ok (.iconst (-1), 1) := by decide +kernel
theorem dX11_fence_8 : decode cX11_fence 8 = .ok (.iconst 0, 1) := by decide +kernel
theorem dX11_fence_9 : decode cX11_fence 9 = .ok (.iconst 0, 1) := by decide +kernel
theorem dX11_fence_10 : decode cX11_fence 10 = .ok (.invokevirtual 118, 3) := by decide +kernel
theorem dX11_fence_13 : decode cX11_fence 13 = .ok (.ifCond .eq 12, 3) := by decide +kernel
theorem dX11_fence_16 : decode cX11_fence 16 = .ok (.aload_n 0, 1) := by decide +kernel
theorem dX11_fence_17 : decode cX11_fence 17 = .ok (.getfield 22, 3) := by decide +kernel
theorem dX11_fence_20 : decode cX11_fence 20 = .ok (.iconst 0, 1) := by decide +kernel
theorem dX11_fence_21 : decode cX11_fence 21 = .ok (.iaload, 1) := by decide +kernel
theorem dX11_fence_22 : decode cX11_fence 22 = .ok (.goto 9, 3) := by decide +kernel
theorem dX11_fence_25 : decode cX11_fence 25 = .ok (.aload_n 0, 1) := by decide +kernel
theorem dX11_fence_26 : decode cX11_fence 26 = .ok (.bipush (-6), 2) := by decide +kernel
theorem dX11_fence_28 : decode cX11_fence 28 = .ok (.invokevirtual 114, 3) := by decide +kernel
theorem dX11_fence_31 : decode cX11_fence 31 = .ok (.ireturn, 1) := by decide +kernel
theorem dX11_flush_0 : decode cX11_flush 0 = .ok (.aload_n 0, 1) := by decide +kernel
theorem dX11_flush_1 : decode cX11_flush 1 = .ok (.iconst 0, 1) := by decide +kernel
theorem dX11_flush_2 : decode cX11_flush 2 = .ok (.putfield 104, 3) := by decide +kernel
theorem dX11_flush_5 : decode cX11_flush 5 = .ok (.aload_n 0, 1) := by decide +kernel
theorem dX11_flush_6 : decode cX11_flush 6 = .ok (.iconst 0, 1) := by decide +kernel
theorem dX11_flush_7 : decode cX11_flush 7 = .ok (.invokevirtual 122, 3) := by decide +kernel
theorem dX11_flush_10 : decode cX11_flush 10 = .ok (.ireturn, 1) := by decide +kernel
theorem dX11_isPart_0 : decode cX11_isPart 0 = .ok (.iload_n 0, 1) := by decide +kernel
theorem dX11_isPart_1 : decode cX11_isPart 1 = .ok (.iconst 0, 1) := by decide +kernel
theorem dX11_isPart_2 : decode cX11_isPart 2 = .ok (.bipush 15, 2) := by decide +kernel
theorem dX11_isPart_4 : decode cX11_isPart 4 = .ok (.invokestatic 110, 3) := by decide +kernel
theorem dX11_isPart_7 : decode cX11_isPart 7 = .ok (.ifCond .eq 16, 3) := by decide +kernel
theorem dX11_isPart_10 : decode cX11_isPart 10 = .ok (.iload_n 1, 1) := by decide +kernel
theorem dX11_isPart_11 : decode cX11_isPart 11 = .ok (.iconst 0, 1) := by decide +kernel
theorem dX11_isPart_12 : decode cX11_isPart 12 = .ok (.iconst 1, 1) := by decide +kernel
theorem dX11_isPart_13 : decode cX11_isPart 13 = .ok (.invokestatic 110, 3) := by decide +kernel
theorem dX11_isPart_16 : decode cX11_isPart 16 = .ok (.ifCond .eq 7, 3) := by decide +kernel
theorem dX11_isPart_19 : decode cX11_isPart 19 = .ok (.iconst 1, 1) := by decide +kernel
theorem dX11_isPart_20 : decode cX11_isPart 20 = .ok (.goto 4, 3) := by decide +kernel
theorem dX11_isPart_23 : decode cX11_isPart 23 = .ok (.iconst 0, 1) := by decide +kernel
theorem dX11_isPart_24 : decode cX11_isPart 24 = .ok (.ireturn, 1) := by decide +kernel
theorem dX11_read_0 : decode cX11_read 0 = .ok (.aload_n 0, 1) := by decide +kernel
theorem dX11_read_1 : decode cX11_read 1 = .ok (.iload_n 1, 1) := by decide +kernel
theorem dX11_read_2 : decode cX11_read 2 = .ok (.iload_n 2, 1) := by decide +kernel
theorem dX11_read_3 : decode cX11_read 3 = .ok (.invokestatic 125, 3) := by decide +kernel
theorem dX11_read_6 : decode cX11_read 6 = .ok (.ifCond .eq 7, 3) := by decide +kernel
theorem dX11_read_9 : decode cX11_read 9 = .ok (.iconst 0, 1) := by decide +kernel
theorem dX11_read_10 : decode cX11_read 10 = .ok (.goto 4, 3) := by decide +kernel
theorem dX11_read_13 : decode cX11_read 13 = .ok (.iconst 1, 1) := by decide +kernel
theorem dX11_read_14 : decode cX11_read 14 = .ok (.putfield 104, 3) := by decide +kernel
theorem dX11_read_17 : decode cX11_read 17 = .ok (.aload_n 0, 1) := by decide +kernel
theorem dX11_read_18 : decode cX11_read 18 = .ok (.getfield 104, 3) := by decide +kernel
theorem dX11_read_21 : decode cX11_read 21 = .ok (.ifCond .le 7, 3) := by decide +kernel
theorem dX11_read_24 : decode cX11_read 24 = .ok (.iconst 0, 1) := by decide +kernel
theorem dX11_read_25 : decode cX11_read 25 = .ok (.goto 10, 3) := by decide +kernel
theorem dX11_read_28 : decode cX11_read 28 = .ok (.aload_n 0, 1) := by decide +kernel
theorem dX11_read_29 : decode cX11_read 29 = .ok (.iconst 0, 1) := by decide +kernel
theorem dX11_read_30 : decode cX11_read 30 = .ok (.iload_n 1, 1) := by decide +kernel
theorem dX11_read_31 : decode cX11_read 31 = .ok (.iload_n 2, 1) := by decide +kernel
theorem dX11_read_32 : decode cX11_read 32 = .ok (.invokevirtual 129, 3) := by decide +kernel
theorem dX11_read_35 : decode cX11_read 35 = .ok (.ireturn, 1) := by decide +kernel
theorem dX11_plate_0 : decode cX11_plate 0 = .ok (.aload_n 0, 1) := by decide +kernel
theorem dX11_plate_1 : decode cX11_plate 1 = .ok (.iload_n 1, 1) := by decide +kernel
theorem dX11_plate_2 : decode cX11_plate 2 = .ok (.iload_n 2, 1) := by decide +kernel
theorem dX11_plate_3 : decode cX11_plate 3 = .ok (.invokestatic 125, 3) := by decide +kernel
theorem dX11_plate_6 : decode cX11_plate 6 = .ok (.ifCond .eq 7, 3) := by decide +kernel
theorem dX11_plate_9 : decode cX11_plate 9 = .ok (.iconst 0, 1) := by decide +kernel
theorem dX11_plate_10 : decode cX11_plate 10 = .ok (.goto 4, 3) := by decide +kernel
theorem dX11_plate_13 : decode cX11_plate 13 = .ok (.iconst 1, 1) := by decide +kernel
theorem dX11_plate_14 : decode cX11_plate 14 = .ok (.putfield 104, 3) := by decide +kernel
theorem dX11_plate_17 : decode cX11_plate 17 = .ok (.aload_n 0, 1) := by decide +kernel
theorem dX11_plate_18 : decode cX11_plate 18 = .ok (.getfield 104, 3) := by decide +kernel
theorem dX11_plate_21 : decode cX11_plate 21 = .ok (.ifCond .le 7, 3) := by decide +kernel
theorem dX11_plate_24 : decode cX11_plate 24 = .ok (.iconst 0, 1) := by decide +kernel
theorem dX11_plate_25 : decode cX11_plate 25 = .ok (.goto 13, 3) := by decide +kernel
theorem dX11_plate_28 : decode cX11_plate 28 = .ok (.aload_n 0, 1) := by decide +kernel
theorem dX11_plate_29 : decode cX11_plate 29 = .ok (.getfield 7, 3) := by decide +kernel
theorem dX11_plate_32 : decode cX11_plate 32 = .ok (.iconst 2, 1) := by decide +kernel
theorem dX11_plate_33 : decode cX11_plate 33 = .ok (.iload_n 1, 1) := by decide +kernel
theorem dX11_plate_34 : decode cX11_plate 34 = .ok (.imul, 1) := by decide +kernel
theorem dX11_plate_35 : decode cX11_plate 35 = .ok (.iload_n 2, 1) := by decide +kernel
theorem dX11_plate_36 : decode cX11_plate 36 = .ok (.iadd, 1) := by decide +kernel
theorem dX11_plate_37 : decode cX11_plate 37 = .ok (.iaload, 1) := by decide +kernel
theorem dX11_plate_38 : decode cX11_plate 38 = .ok (.ireturn, 1) := by decide +kernel
theorem dX11_epochOf_0 : decode cX11_epochOf 0 = .ok (.iconst 0, 1) := by decide +kernel
theorem dX11_epochOf_1 : decode cX11_epochOf 1 = .ok (.istore_n 3, 1) := by decide +kernel
theorem dX11_epochOf_2 : decode cX11_epochOf 2 = .ok (.iconst 0, 1) := by decide +kernel
theorem dX11_epochOf_3 : decode cX11_epochOf 3 = .ok (.istore 4, 2) := by decide +kernel
theorem dX11_epochOf_5 : decode cX11_epochOf 5 = .ok (.iconst 0, 1) := by decide +kernel
theorem dX11_epochOf_6 : decode cX11_epochOf 6 = .ok (.istore 5, 2) := by decide +kernel
theorem dX11_epochOf_8 : decode cX11_epochOf 8 = .ok (.iload 5, 2) := by decide +kernel
theorem dX11_epochOf_10 : decode cX11_epochOf 10 = .ok (.iload_n 2, 1) := by decide +kernel
theorem dX11_epochOf_11 : decode cX11_epochOf 11 = .ok (.if_icmp .ge 62, 3) := by decide +kernel
theorem dX11_epochOf_14 : decode cX11_epochOf 14 = .ok (.aload_n 0, 1) := by decide +kernel
theorem dX11_epochOf_15 : decode cX11_epochOf 15 = .ok (.getfield 13, 3) := by decide +kernel
theorem dX11_epochOf_18 : decode cX11_epochOf 18 = .ok (.bipush 60, 2) := by decide +kernel
theorem dX11_epochOf_20 : decode cX11_epochOf 20 = .ok (.iload_n 1, 1) := by decide +kernel
theorem dX11_epochOf_21 : decode cX11_epochOf 21 = .ok (.imul, 1) := by decide +kernel
theorem dX11_epochOf_22 : decode cX11_epochOf 22 = .ok (.iload 5, 2) := by decide +kernel
theorem dX11_epochOf_24 : decode cX11_epochOf 24 = .ok (.iadd, 1) := by decide +kernel
theorem dX11_epochOf_25 : decode cX11_epochOf 25 = .ok (.iaload, 1) := by decide +kernel
theorem dX11_epochOf_26 : decode cX11_epochOf 26 = .ok (.iconst (-1), 1) := by decide +kernel
theorem dX11_epochOf_27 : decode cX11_epochOf 27 = .ok (.if_icmp .ne 7, 3) := by decide +kernel
theorem dX11_epochOf_30 : decode cX11_epochOf 30 = .ok (.iconst 1, 1) := by decide +kernel
theorem dX11_epochOf_31 : decode cX11_epochOf 31 = .ok (.goto 4, 3) := by decide +kernel
theorem dX11_epochOf_34 : decode cX11_epochOf 34 = .ok (.iconst 0, 1) := by decide +kernel
theorem dX11_epochOf_35 : decode cX11_epochOf 35 = .ok (.istore 6, 2) := by decide +kernel
theorem dX11_epochOf_37 : decode cX11_epochOf 37 = .ok (.iload_n 3, 1) := by decide +kernel
theorem dX11_epochOf_38 : decode cX11_epochOf 38 = .ok (.iload 6, 2) := by decide +kernel
theorem dX11_epochOf_40 : decode cX11_epochOf 40 = .ok (.ifCond .eq 12, 3) := by decide +kernel
theorem dX11_epochOf_43 : decode cX11_epochOf 43 = .ok (.iload 4, 2) := by decide +kernel
theorem dX11_epochOf_45 : decode cX11_epochOf 45 = .ok (.ifCond .eq 7, 3) := by decide +kernel
theorem dX11_epochOf_48 : decode cX11_epochOf 48 = .ok (.iconst 1, 1) := by decide +kernel
theorem dX11_epochOf_49 : decode cX11_epochOf 49 = .ok (.goto 4, 3) := by decide +kernel
theorem dX11_epochOf_52 : decode cX11_epochOf 52 = .ok (.iconst 0, 1) := by decide +kernel
theorem dX11_epochOf_53 : decode cX11_epochOf 53 = .ok (.iadd, 1) := by decide +kernel
theorem dX11_epochOf_54 : decode cX11_epochOf 54 = .ok (.istore_n 3, 1) := by decide +kernel
theorem dX11_epochOf_55 : decode cX11_epochOf 55 = .ok (.iload 6, 2) := by decide +kernel
theorem dX11_epochOf_57 : decode cX11_epochOf 57 = .ok (.ifCond .ne 7, 3) := by decide +kernel
theorem dX11_epochOf_60 : decode cX11_epochOf 60 = .ok (.iconst 1, 1) := by decide +kernel
theorem dX11_epochOf_61 : decode cX11_epochOf 61 = .ok (.goto 4, 3) := by decide +kernel
theorem dX11_epochOf_64 : decode cX11_epochOf 64 = .ok (.iconst 0, 1) := by decide +kernel
theorem dX11_epochOf_65 : decode cX11_epochOf 65 = .ok (.istore 4, 2) := by decide +kernel
theorem dX11_epochOf_67 : decode cX11_epochOf 67 = .ok (.iinc 5 1, 3) := by decide +kernel
theorem dX11_epochOf_70 : decode cX11_epochOf 70 = .ok (.goto (-62), 3) := by decide +kernel
theorem dX11_epochOf_73 : decode cX11_epochOf 73 = .ok (.iload_n 2, 1) := by decide +kernel
theorem dX11_epochOf_74 : decode cX11_epochOf 74 = .ok (.aload_n 0, 1) := by decide +kernel
theorem dX11_epochOf_75 : decode cX11_epochOf 75 = .ok (.getfield 22, 3) := by decide +kernel
theorem dX11_epochOf_78 : decode cX11_epochOf 78 = .ok (.iload_n 1, 1) := by decide +kernel
theorem dX11_epochOf_79 : decode cX11_epochOf 79 = .ok (.iaload, 1) := by decide +kernel
theorem dX11_epochOf_80 : decode cX11_epochOf 80 = .ok (.if_icmp .ne 14, 3) := by decide +kernel
theorem dX11_epochOf_83 : decode cX11_epochOf 83 = .ok (.iload 4, 2) := by decide +kernel
theorem dX11_epochOf_85 : decode cX11_epochOf 85 = .ok (.ifCond .eq 9, 3) := by decide +kernel
theorem dX11_epochOf_88 : decode cX11_epochOf 88 = .ok (.iload_n 3, 1) := by decide +kernel
theorem dX11_epochOf_89 : decode cX11_epochOf 89 = .ok (.iconst 1, 1) := by decide +kernel
theorem dX11_epochOf_90 : decode cX11_epochOf 90 = .ok (.iadd, 1) := by decide +kernel
theorem dX11_epochOf_91 : decode cX11_epochOf 91 = .ok (.goto 4, 3) := by decide +kernel
theorem dX11_epochOf_94 : decode cX11_epochOf 94 = .ok (.iload_n 3, 1) := by decide +kernel
theorem dX11_epochOf_95 : decode cX11_epochOf 95 = .ok (.ireturn, 1) := by decide +kernel
theorem dX11_entry_0 : decode cX11_entry 0 = .ok (.aload_n 0, 1) := by decide +kernel
theorem dX11_entry_1 : decode cX11_entry 1 = .ok (.iconst 0, 1) := by decide +kernel
theorem dX11_entry_2 : decode cX11_entry 2 = .ok (.putfield 104, 3) := by decide +kernel
theorem dX11_entry_5 : decode cX11_entry 5 = .ok (.iload_n 1, 1) := by decide +kernel
theorem dX11_entry_6 : decode cX11_entry 6 = .ok (.iconst 0, 1) := by decide +kernel
theorem dX11_entry_7 : decode cX11_entry 7 = .ok (.aload_n 0, 1) := by decide +kernel
theorem dX11_entry_8 : decode cX11_entry 8 = .ok (.getfield 22, 3) := by decide +kernel
theorem dX11_entry_11 : decode cX11_entry 11 = .ok (.iconst 0, 1) := by decide +kernel
theorem dX11_entry_12 : decode cX11_entry 12 = .ok (.iaload, 1) := by decide +kernel
theorem dX11_entry_13 : decode cX11_entry 13 = .ok (.iconst 1, 1) := by decide +kernel
theorem dX11_entry_14 : decode cX11_entry 14 = .ok (.isub, 1) := by decide +kernel
theorem dX11_entry_15 : decode cX11_entry 15 = .ok (.invokestatic 110, 3) := by decide +kernel
theorem dX11_entry_18 : decode cX11_entry 18 = .ok (.ifCond .ne 9, 3) := by decide +kernel
theorem dX11_entry_21 : decode cX11_entry 21 = .ok (.aload_n 0, 1) := by decide +kernel
theorem dX11_entry_22 : decode cX11_entry 22 = .ok (.iconst (-1), 1) := by decide +kernel
theorem dX11_entry_23 : decode cX11_entry 23 = .ok (.invokevirtual 114, 3) := by decide +kernel
theorem dX11_entry_26 : decode cX11_entry 26 = .ok (.ireturn, 1) := by decide +kernel
theorem dX11_entry_27 : decode cX11_entry 27 = .ok (.aload_n 0, 1) := by decide +kernel
theorem dX11_entry_28 : decode cX11_entry 28 = .ok (.getfield 13, 3) := by decide +kernel
theorem dX11_entry_31 : decode cX11_entry 31 = .ok (.iload_n 1, 1) := by decide +kernel
theorem dX11_entry_32 : decode cX11_entry 32 = .ok (.iaload, 1) := by decide +kernel
theorem dX11_entry_33 : decode cX11_entry 33 = .ok (.iconst (-1), 1) := by decide +kernel
theorem dX11_entry_34 : decode cX11_entry 34 = .ok (.if_icmp .ne 7, 3) := by decide +kernel
theorem dX11_entry_37 : decode cX11_entry 37 = .ok (.iconst 1, 1) := by decide +kernel
theorem dX11_entry_38 : decode cX11_entry 38 = .ok (.goto 4, 3) := by decide +kernel
theorem dX11_entry_41 : decode cX11_entry 41 = .ok (.iconst 0, 1) := by decide +kernel
theorem dX11_entry_42 : decode cX11_entry 42 = .ok (.istore_n 3, 1) := by decide +kernel
theorem dX11_entry_43 : decode cX11_entry 43 = .ok (.iload_n 2, 1) := by decide +kernel
theorem dX11_entry_44 : decode cX11_entry 44 = .ok (.ifCond .ne 12, 3) := by decide +kernel
theorem dX11_entry_47 : decode cX11_entry 47 = .ok (.aload_n 0, 1) := by decide +kernel
theorem dX11_entry_48 : decode cX11_entry 48 = .ok (.getfield 13, 3) := by decide +kernel
theorem dX11_entry_51 : decode cX11_entry 51 = .ok (.iload_n 1, 1) := by decide +kernel
theorem dX11_entry_52 : decode cX11_entry 52 = .ok (.iaload, 1) := by decide +kernel
theorem dX11_entry_53 : decode cX11_entry 53 = .ok (.goto 55, 3) := by decide +kernel
theorem dX11_entry_56 : decode cX11_entry 56 = .ok (.iload_n 2, 1) := by decide +kernel
theorem dX11_entry_57 : decode cX11_entry 57 = .ok (.iconst 1, 1) := by decide +kernel
theorem dX11_entry_58 : decode cX11_entry 58 = .ok (.if_icmp .ne 12, 3) := by decide +kernel
theorem dX11_entry_61 : decode cX11_entry 61 = .ok (.aload_n 0, 1) := by decide +kernel
theorem dX11_entry_62 : decode cX11_entry 62 = .ok (.getfield 16, 3) := by decide +kernel
theorem dX11_entry_65 : decode cX11_entry 65 = .ok (.iload_n 1, 1) := by decide +kernel
theorem dX11_entry_66 : decode cX11_entry 66 = .ok (.iaload, 1) := by decide +kernel
theorem dX11_entry_67 : decode cX11_entry 67 = .ok (.goto 41, 3) := by decide +kernel
theorem dX11_entry_70 : decode cX11_entry 70 = .ok (.iload_n 2, 1) := by decide +kernel
theorem dX11_entry_71 : decode cX11_entry 71 = .ok (.iconst 2, 1) := by decide +kernel
theorem dX11_entry_72 : decode cX11_entry 72 = .ok (.if_icmp .ne 12, 3) := by decide +kernel
theorem dX11_entry_75 : decode cX11_entry 75 = .ok (.aload_n 0, 1) := by decide +kernel
theorem dX11_entry_76 : decode cX11_entry 76 = .ok (.getfield 19, 3) := by decide +kernel
theorem dX11_entry_79 : decode cX11_entry 79 = .ok (.iload_n 1, 1) := by decide +kernel
theorem dX11_entry_80 : decode cX11_entry 80 = .ok (.iaload, 1) := by decide +kernel
theorem dX11_entry_81 : decode cX11_entry 81 = .ok (.goto 27, 3) := by decide +kernel
theorem dX11_entry_84 : decode cX11_entry 84 = .ok (.iload_n 2, 1) := by decide +kernel
theorem dX11_entry_85 : decode cX11_entry 85 = .ok (.iconst 3, 1) := by decide +kernel
theorem dX11_entry_86 : decode cX11_entry 86 = .ok (.if_icmp .ne 20, 3) := by decide +kernel
theorem dX11_entry_89 : decode cX11_entry 89 = .ok (.iload_n 3, 1) := by decide +kernel
theorem dX11_entry_90 : decode cX11_entry 90 = .ok (.ifCond .eq 7, 3) := by decide +kernel
theorem dX11_entry_93 : decode cX11_entry 93 = .ok (.iconst (-1), 1) := by decide +kernel
theorem dX11_entry_94 : decode cX11_entry 94 = .ok (.goto 14, 3) := by decide +kernel
theorem dX11_entry_97 : decode cX11_entry 97 = .ok (.aload_n 0, 1) := by decide +kernel
theorem dX11_entry_98 : decode cX11_entry 98 = .ok (.iconst 0, 1) := by decide +kernel
theorem dX11_entry_99 : decode cX11_entry 99 = .ok (.iload_n 1, 1) := by decide +kernel
theorem dX11_entry_100 : decode cX11_entry 100 = .ok (.invokevirtual 133, 3) := by decide +kernel
theorem dX11_entry_103 : decode cX11_entry 103 = .ok (.goto 5, 3) := by decide +kernel
theorem dX11_entry_106 : decode cX11_entry 106 = .ok (.bipush (-9), 2) := by decide +kernel
theorem dX11_entry_108 : decode cX11_entry 108 = .ok (.ireturn, 1) := by decide +kernel
theorem dX11_writeEpoch_0 : decode cX11_writeEpoch 0 = .ok (.iconst 0, 1) := by decide +kernel
theorem dX11_writeEpoch_1 : decode cX11_writeEpoch 1 = .ok (.istore_n 3, 1) := by decide +kernel
theorem dX11_writeEpoch_2 : decode cX11_writeEpoch 2 = .ok (.iconst 0, 1) := by decide +kernel
theorem dX11_writeEpoch_3 : decode cX11_writeEpoch 3 = .ok (.istore 4, 2) := by decide +kernel
theorem dX11_writeEpoch_5 : decode cX11_writeEpoch 5 = .ok (.iconst 0, 1) := by decide +kernel
theorem dX11_writeEpoch_6 : decode cX11_writeEpoch 6 = .ok (.istore 5, 2) := by decide +kernel
theorem dX11_writeEpoch_8 : decode cX11_writeEpoch 8 = .ok (.iload 5, 2) := by decide +kernel
theorem dX11_writeEpoch_10 : decode cX11_writeEpoch 10 = .ok (.iload_n 2, 1) := by decide +kernel
theorem dX11_writeEpoch_11 : decode cX11_writeEpoch 11 = .ok (.if_icmp .ge 62, 3) := by decide +kernel
theorem dX11_writeEpoch_14 : decode cX11_writeEpoch 14 = .ok (.aload_n 0, 1) := by decide +kernel
theorem dX11_writeEpoch_15 : decode cX11_writeEpoch 15 = .ok (.getfield 13, 3) := by decide +kernel
theorem dX11_writeEpoch_18 : decode cX11_writeEpoch 18 = .ok (.bipush 60, 2) := by decide +kernel
theorem dX11_writeEpoch_20 : decode cX11_writeEpoch 20 = .ok (.iload_n 1, 1) := by decide +kernel
theorem dX11_writeEpoch_21 : decode cX11_writeEpoch 21 = .ok (.imul, 1) := by decide +kernel
theorem dX11_writeEpoch_22 : decode cX11_writeEpoch 22 = .ok (.iload 5, 2) := by decide +kernel
theorem dX11_writeEpoch_24 : decode cX11_writeEpoch 24 = .ok (.iadd, 1) := by decide +kernel
theorem dX11_writeEpoch_25 : decode cX11_writeEpoch 25 = .ok (.iaload, 1) := by decide +kernel
theorem dX11_writeEpoch_26 : decode cX11_writeEpoch 26 = .ok (.iconst (-1), 1) := by decide +kernel
theorem dX11_writeEpoch_27 : decode cX11_writeEpoch 27 = .ok (.if_icmp .ne 7, 3) := by decide +kernel
theorem dX11_writeEpoch_30 : decode cX11_writeEpoch 30 = .ok (.iconst 1, 1) := by decide +kernel
theorem dX11_writeEpoch_31 : decode cX11_writeEpoch 31 = .ok (.goto 4, 3) := by decide +kernel
theorem dX11_writeEpoch_34 : decode cX11_writeEpoch 34 = .ok (.iconst 0, 1) := by decide +kernel
theorem dX11_writeEpoch_35 : decode cX11_writeEpoch 35 = .ok (.istore 6, 2) := by decide +kernel
theorem dX11_writeEpoch_37 : decode cX11_writeEpoch 37 = .ok (.iload_n 3, 1) := by decide +kernel
theorem dX11_writeEpoch_38 : decode cX11_writeEpoch 38 = .ok (.iload 6, 2) := by decide +kernel
theorem dX11_writeEpoch_40 : decode cX11_writeEpoch 40 = .ok (.ifCond .eq 12, 3) := by decide +kernel
theorem dX11_writeEpoch_43 : decode cX11_writeEpoch 43 = .ok (.iload 4, 2) := by decide +kernel
theorem dX11_writeEpoch_45 : decode cX11_writeEpoch 45 = .ok (.ifCond .eq 7, 3) := by decide +kernel
theorem dX11_writeEpoch_48 : decode cX11_writeEpoch 48 = .ok (.iconst 1, 1) := by decide +kernel
theorem dX11_writeEpoch_49 : decode cX11_writeEpoch 49 = .ok (.goto 4, 3) := by decide +kernel
theorem dX11_writeEpoch_52 : decode cX11_writeEpoch 52 = .ok (.iconst 0, 1) := by decide +kernel
theorem dX11_writeEpoch_53 : decode cX11_writeEpoch 53 = .ok (.iadd, 1) := by decide +kernel
theorem dX11_writeEpoch_54 : decode cX11_writeEpoch 54 = .ok (.istore_n 3, 1) := by decide +kernel
theorem dX11_writeEpoch_55 : decode cX11_writeEpoch 55 = .ok (.iload 6, 2) := by decide +kernel
theorem dX11_writeEpoch_57 : decode cX11_writeEpoch 57 = .ok (.ifCond .eq 7, 3) := by decide +kernel
theorem dX11_writeEpoch_60 : decode cX11_writeEpoch 60 = .ok (.iconst 0, 1) := by decide +kernel
theorem dX11_writeEpoch_61 : decode cX11_writeEpoch 61 = .ok (.goto 4, 3) := by decide +kernel
theorem dX11_writeEpoch_64 : decode cX11_writeEpoch 64 = .ok (.iconst 1, 1) := by decide +kernel
theorem dX11_writeEpoch_65 : decode cX11_writeEpoch 65 = .ok (.istore 4, 2) := by decide +kernel
theorem dX11_writeEpoch_67 : decode cX11_writeEpoch 67 = .ok (.iinc 5 1, 3) := by decide +kernel
theorem dX11_writeEpoch_70 : decode cX11_writeEpoch 70 = .ok (.goto (-62), 3) := by decide +kernel
theorem dX11_writeEpoch_73 : decode cX11_writeEpoch 73 = .ok (.iload_n 3, 1) := by decide +kernel
theorem dX11_writeEpoch_74 : decode cX11_writeEpoch 74 = .ok (.ireturn, 1) := by decide +kernel
theorem dX11_mayBe_0 : decode cX11_mayBe 0 = .ok (.bipush 61, 2) := by decide +kernel
theorem dX11_mayBe_2 : decode cX11_mayBe 2 = .ok (.iload_n 1, 1) := by decide +kernel
theorem dX11_mayBe_3 : decode cX11_mayBe 3 = .ok (.imul, 1) := by decide +kernel
theorem dX11_mayBe_4 : decode cX11_mayBe 4 = .ok (.istore_n 3, 1) := by decide +kernel
theorem dX11_mayBe_5 : decode cX11_mayBe 5 = .ok (.aload_n 0, 1) := by decide +kernel
theorem dX11_mayBe_6 : decode cX11_mayBe 6 = .ok (.getfield 49, 3) := by decide +kernel
theorem dX11_mayBe_9 : decode cX11_mayBe 9 = .ok (.iload_n 1, 1) := by decide +kernel
theorem dX11_mayBe_10 : decode cX11_mayBe 10 = .ok (.iaload, 1) := by decide +kernel
theorem dX11_mayBe_11 : decode cX11_mayBe 11 = .ok (.istore 4, 2) := by decide +kernel
theorem dX11_mayBe_13 : decode cX11_mayBe 13 = .ok (.iconst 0, 1) := by decide +kernel
theorem dX11_mayBe_14 : decode cX11_mayBe 14 = .ok (.istore 5, 2) := by decide +kernel
theorem dX11_mayBe_16 : decode cX11_mayBe 16 = .ok (.iload 5, 2) := by decide +kernel
theorem dX11_mayBe_18 : decode cX11_mayBe 18 = .ok (.iload 4, 2) := by decide +kernel
theorem dX11_mayBe_20 : decode cX11_mayBe 20 = .ok (.if_icmp .ge 22, 3) := by decide +kernel
theorem dX11_mayBe_23 : decode cX11_mayBe 23 = .ok (.aload_n 0, 1) := by decide +kernel
theorem dX11_mayBe_24 : decode cX11_mayBe 24 = .ok (.getfield 46, 3) := by decide +kernel
theorem dX11_mayBe_27 : decode cX11_mayBe 27 = .ok (.iload_n 3, 1) := by decide +kernel
theorem dX11_mayBe_28 : decode cX11_mayBe 28 = .ok (.iload 5, 2) := by decide +kernel
theorem dX11_mayBe_30 : decode cX11_mayBe 30 = .ok (.iadd, 1) := by decide +kernel
theorem dX11_mayBe_31 : decode cX11_mayBe 31 = .ok (.iaload, 1) := by decide +kernel
theorem dX11_mayBe_32 : decode cX11_mayBe 32 = .ok (.iload_n 2, 1) := by decide +kernel
theorem dX11_mayBe_33 : decode cX11_mayBe 33 = .ok (.if_icmp .ge 9, 3) := by decide +kernel
theorem dX11_mayBe_36 : decode cX11_mayBe 36 = .ok (.iinc 5 1, 3) := by decide +kernel
theorem dX11_mayBe_39 : decode cX11_mayBe 39 = .ok (.goto (-23), 3) := by decide +kernel
theorem dX11_mayBe_42 : decode cX11_mayBe 42 = .ok (.iload 5, 2) := by decide +kernel
theorem dX11_mayBe_44 : decode cX11_mayBe 44 = .ok (.iload 4, 2) := by decide +kernel
theorem dX11_mayBe_46 : decode cX11_mayBe 46 = .ok (.if_icmp .ge 17, 3) := by decide +kernel
theorem dX11_mayBe_49 : decode cX11_mayBe 49 = .ok (.aload_n 0, 1) := by decide +kernel
theorem dX11_mayBe_50 : decode cX11_mayBe 50 = .ok (.getfield 46, 3) := by decide +kernel
theorem dX11_mayBe_53 : decode cX11_mayBe 53 = .ok (.iload_n 3, 1) := by decide +kernel
theorem dX11_mayBe_54 : decode cX11_mayBe 54 = .ok (.iload 5, 2) := by decide +kernel
theorem dX11_mayBe_56 : decode cX11_mayBe 56 = .ok (.iadd, 1) := by decide +kernel
theorem dX11_mayBe_57 : decode cX11_mayBe 57 = .ok (.iaload, 1) := by decide +kernel
theorem dX11_mayBe_58 : decode cX11_mayBe 58 = .ok (.iload_n 2, 1) := by decide +kernel
theorem dX11_mayBe_59 : decode cX11_mayBe 59 = .ok (.if_icmp .ne 4, 3) := by decide +kernel
theorem dX11_mayBe_62 : decode cX11_mayBe 62 = .ok (.return_, 1) := by decide +kernel
theorem dX11_mayBe_63 : decode cX11_mayBe 63 = .ok (.iload 4, 2) := by decide +kernel
theorem dX11_mayBe_65 : decode cX11_mayBe 65 = .ok (.istore 6, 2) := by decide +kernel
theorem dX11_mayBe_67 : decode cX11_mayBe 67 = .ok (.iload 6, 2) := by decide +kernel
theorem dX11_mayBe_69 : decode cX11_mayBe 69 = .ok (.iload 5, 2) := by decide +kernel
theorem dX11_mayBe_71 : decode cX11_mayBe 71 = .ok (.if_icmp .le 29, 3) := by decide +kernel
theorem dX11_mayBe_74 : decode cX11_mayBe 74 = .ok (.aload_n 0, 1) := by decide +kernel
theorem dX11_mayBe_75 : decode cX11_mayBe 75 = .ok (.getfield 46, 3) := by decide +kernel
theorem dX11_mayBe_78 : decode cX11_mayBe 78 = .ok (.iload_n 3, 1) := by decide +kernel
theorem dX11_mayBe_79 : decode cX11_mayBe 79 = .ok (.iload 6, 2) := by decide +kernel
theorem dX11_mayBe_81 : decode cX11_mayBe 81 = .ok (.iadd, 1) := by decide +kernel
theorem dX11_mayBe_82 : decode cX11_mayBe 82 = .ok (.aload_n 0, 1) := by decide +kernel
theorem dX11_mayBe_83 : decode cX11_mayBe 83 = .ok (.getfield 46, 3) := by decide +kernel
theorem dX11_mayBe_86 : decode cX11_mayBe 86 = .ok (.iload_n 3, 1) := by decide +kernel
theorem dX11_mayBe_87 : decode cX11_mayBe 87 = .ok (.iload 6, 2) := by decide +kernel
theorem dX11_mayBe_89 : decode cX11_mayBe 89 = .ok (.iadd, 1) := by decide +kernel
theorem dX11_mayBe_90 : decode cX11_mayBe 90 = .ok (.iconst 1, 1) := by decide +kernel
theorem dX11_mayBe_91 : decode cX11_mayBe 91 = .ok (.isub, 1) := by decide +kernel
theorem dX11_mayBe_92 : decode cX11_mayBe 92 = .ok (.iaload, 1) := by decide +kernel
theorem dX11_mayBe_93 : decode cX11_mayBe 93 = .ok (.iastore, 1) := by decide +kernel
theorem dX11_mayBe_94 : decode cX11_mayBe 94 = .ok (.iinc 6 (-1), 3) := by decide +kernel
theorem dX11_mayBe_97 : decode cX11_mayBe 97 = .ok (.goto (-30), 3) := by decide +kernel
theorem dX11_mayBe_100 : decode cX11_mayBe 100 = .ok (.aload_n 0, 1) := by decide +kernel
theorem dX11_mayBe_101 : decode cX11_mayBe 101 = .ok (.getfield 46, 3) := by decide +kernel
theorem dX11_mayBe_104 : decode cX11_mayBe 104 = .ok (.iload_n 3, 1) := by decide +kernel
theorem dX11_mayBe_105 : decode cX11_mayBe 105 = .ok (.iload 5, 2) := by decide +kernel
theorem dX11_mayBe_107 : decode cX11_mayBe 107 = .ok (.iadd, 1) := by decide +kernel
theorem dX11_mayBe_108 : decode cX11_mayBe 108 = .ok (.iload_n 2, 1) := by decide +kernel
theorem dX11_mayBe_109 : decode cX11_mayBe 109 = .ok (.iastore, 1) := by decide +kernel
theorem dX11_mayBe_110 : decode cX11_mayBe 110 = .ok (.aload_n 0, 1) := by decide +kernel
theorem dX11_mayBe_111 : decode cX11_mayBe 111 = .ok (.getfield 49, 3) := by decide +kernel
theorem dX11_mayBe_114 : decode cX11_mayBe 114 = .ok (.iload_n 1, 1) := by decide +kernel
theorem dX11_mayBe_115 : decode cX11_mayBe 115 = .ok (.dup2, 1) := by decide +kernel
theorem dX11_mayBe_116 : decode cX11_mayBe 116 = .ok (.iaload, 1) := by decide +kernel
theorem dX11_mayBe_117 : decode cX11_mayBe 117 = .ok (.iconst 1, 1) := by decide +kernel
theorem dX11_mayBe_118 : decode cX11_mayBe 118 = .ok (.iadd, 1) := by decide +kernel
theorem dX11_mayBe_119 : decode cX11_mayBe 119 = .ok (.iastore, 1) := by decide +kernel
theorem dX11_mayBe_120 : decode cX11_mayBe 120 = .ok (.return_, 1) := by decide +kernel
theorem dX11_compare_0 : decode cX11_compare 0 = .ok (.iconst 0, 1) := by decide +kernel
theorem dX11_compare_1 : decode cX11_compare 1 = .ok (.istore_n 2, 1) := by decide +kernel
theorem dX11_compare_2 : decode cX11_compare 2 = .ok (.iload_n 2, 1) := by decide +kernel
theorem dX11_compare_3 : decode cX11_compare 3 = .ok (.bipush 32, 2) := by decide +kernel
theorem dX11_compare_5 : decode cX11_compare 5 = .ok (.if_icmp .ge 57, 3) := by decide +kernel
theorem dX11_compare_8 : decode cX11_compare 8 = .ok (.aload_n 0, 1) := by decide +kernel
theorem dX11_compare_9 : decode cX11_compare 9 = .ok (.getfield 46, 3) := by decide +kernel
theorem dX11_compare_12 : decode cX11_compare 12 = .ok (.bipush 61, 2) := by decide +kernel
theorem dX11_compare_14 : decode cX11_compare 14 = .ok (.iload_n 2, 1) := by decide +kernel
theorem dX11_compare_15 : decode cX11_compare 15 = .ok (.imul, 1) := by decide +kernel
theorem dX11_compare_16 : decode cX11_compare 16 = .ok (.aload_n 0, 1) := by decide +kernel
theorem dX11_compare_17 : decode cX11_compare 17 = .ok (.getfield 52, 3) := by decide +kernel
theorem dX11_compare_20 : decode cX11_compare 20 = .ok (.iload_n 2, 1) := by decide +kernel
theorem dX11_compare_21 : decode cX11_compare 21 = .ok (.iaload, 1) := by decide +kernel
theorem dX11_compare_22 : decode cX11_compare 22 = .ok (.iadd, 1) := by decide +kernel
theorem dX11_compare_23 : decode cX11_compare 23 = .ok (.iaload, 1) := by decide +kernel
theorem dX11_compare_24 : decode cX11_compare 24 = .ok (.istore_n 3, 1) := by decide +kernel
theorem dX11_compare_25 : decode cX11_compare 25 = .ok (.aload_n 0, 1) := by decide +kernel
theorem dX11_compare_26 : decode cX11_compare 26 = .ok (.getfield 37, 3) := by decide +kernel
theorem dX11_compare_29 : decode cX11_compare 29 = .ok (.bipush 32, 2) := by decide +kernel
theorem dX11_compare_31 : decode cX11_compare 31 = .ok (.iload_n 1, 1) := by decide +kernel
theorem dX11_compare_32 : decode cX11_compare 32 = .ok (.imul, 1) := by decide +kernel
theorem dX11_compare_33 : decode cX11_compare 33 = .ok (.iload_n 2, 1) := by decide +kernel
theorem dX11_compare_34 : decode cX11_compare 34 = .ok (.iadd, 1) := by decide +kernel
theorem dX11_compare_35 : decode cX11_compare 35 = .ok (.iaload, 1) := by decide +kernel
theorem dX11_compare_36 : decode cX11_compare 36 = .ok (.istore 4, 2) := by decide +kernel
theorem dX11_compare_38 : decode cX11_compare 38 = .ok (.iload_n 3, 1) := by decide +kernel
theorem dX11_compare_39 : decode cX11_compare 39 = .ok (.iload 4, 2) := by decide +kernel
theorem dX11_compare_41 : decode cX11_compare 41 = .ok (.if_icmp .eq 15, 3) := by decide +kernel
theorem dX11_compare_44 : decode cX11_compare 44 = .ok (.iload_n 3, 1) := by decide +kernel
theorem dX11_compare_45 : decode cX11_compare 45 = .ok (.iload 4, 2) := by decide +kernel
theorem dX11_compare_47 : decode cX11_compare 47 = .ok (.if_icmp .ge 7, 3) := by decide +kernel
theorem dX11_compare_50 : decode cX11_compare 50 = .ok (.iconst (-1), 1) := by decide +kernel
theorem dX11_compare_51 : decode cX11_compare 51 = .ok (.goto 4, 3) := by decide +kernel
theorem dX11_compare_54 : decode cX11_compare 54 = .ok (.iconst 1, 1) := by decide +kernel
theorem dX11_compare_55 : decode cX11_compare 55 = .ok (.ireturn, 1) := by decide +kernel
theorem dX11_compare_56 : decode cX11_compare 56 = .ok (.iinc 2 1, 3) := by decide +kernel
theorem dX11_compare_59 : decode cX11_compare 59 = .ok (.goto (-57), 3) := by decide +kernel
theorem dX11_compare_62 : decode cX11_compare 62 = .ok (.iconst 0, 1) := by decide +kernel
theorem dX11_compare_63 : decode cX11_compare 63 = .ok (.ireturn, 1) := by decide +kernel
theorem dX11_keepState_0 : decode cX11_keepState 0 = .ok (.iconst 0, 1) := by decide +kernel
theorem dX11_keepState_1 : decode cX11_keepState 1 = .ok (.istore_n 1, 1) := by decide +kernel
theorem dX11_keepState_2 : decode cX11_keepState 2 = .ok (.aload_n 0, 1) := by decide +kernel
theorem dX11_keepState_3 : decode cX11_keepState 3 = .ok (.getfield 137, 3) := by decide +kernel
theorem dX11_keepState_6 : decode cX11_keepState 6 = .ok (.istore_n 2, 1) := by decide +kernel
theorem dX11_keepState_7 : decode cX11_keepState 7 = .ok (.iload_n 1, 1) := by decide +kernel
theorem dX11_keepState_8 : decode cX11_keepState 8 = .ok (.iload_n 2, 1) := by decide +kernel
theorem dX11_keepState_9 : decode cX11_keepState 9 = .ok (.if_icmp .ge 55, 3) := by decide +kernel
theorem dX11_keepState_12 : decode cX11_keepState 12 = .ok (.iload_n 1, 1) := by decide +kernel
theorem dX11_keepState_13 : decode cX11_keepState 13 = .ok (.iload_n 2, 1) := by decide +kernel
theorem dX11_keepState_14 : decode cX11_keepState 14 = .ok (.iadd, 1) := by decide +kernel
theorem dX11_keepState_15 : decode cX11_keepState 15 = .ok (.iconst 2, 1) := by decide +kernel
theorem dX11_keepState_16 : decode cX11_keepState 16 = .ok (.idiv, 1) := by decide +kernel
theorem dX11_keepState_17 : decode cX11_keepState 17 = .ok (.istore_n 3, 1) := by decide +kernel
theorem dX11_keepState_18 : decode cX11_keepState 18 = .ok (.aload_n 0, 1) := by decide +kernel
theorem dX11_keepState_19 : decode cX11_keepState 19 = .ok (.aload_n 0, 1) := by decide +kernel
theorem dX11_keepState_20 : decode cX11_keepState 20 = .ok (.getfield 40, 3) := by decide +kernel
theorem dX11_keepState_23 : decode cX11_keepState 23 = .ok (.iload_n 3, 1) := by decide +kernel
theorem dX11_keepState_24 : decode cX11_keepState 24 = .ok (.iaload, 1) := by decide +kernel
theorem dX11_keepState_25 : decode cX11_keepState 25 = .ok (.invokevirtual 140, 3) := by decide +kernel
theorem dX11_keepState_28 : decode cX11_keepState 28 = .ok (.istore 4, 2) := by decide +kernel
theorem dX11_keepState_30 : decode cX11_keepState 30 = .ok (.iload 4, 2) := by decide +kernel
theorem dX11_keepState_32 : decode cX11_keepState 32 = .ok (.ifCond .ne 5, 3) := by decide +kernel
theorem dX11_keepState_35 : decode cX11_keepState 35 = .ok (.iconst 1, 1) := by decide +kernel
theorem dX11_keepState_36 : decode cX11_keepState 36 = .ok (.ireturn, 1) := by decide +kernel
theorem dX11_keepState_37 : decode cX11_keepState 37 = .ok (.iload 4, 2) := by decide +kernel
theorem dX11_keepState_39 : decode cX11_keepState 39 = .ok (.ifCond .le 9, 3) := by decide +kernel
theorem dX11_keepState_42 : decode cX11_keepState 42 = .ok (.iload_n 3, 1) := by decide +kernel
theorem dX11_keepState_43 : decode cX11_keepState 43 = .ok (.iconst 1, 1) := by decide +kernel
theorem dX11_keepState_44 : decode cX11_keepState 44 = .ok (.iadd, 1) := by decide +kernel
theorem dX11_keepState_45 : decode cX11_keepState 45 = .ok (.goto 4, 3) := by decide +kernel
theorem dX11_keepState_48 : decode cX11_keepState 48 = .ok (.iload_n 1, 1) := by decide +kernel
theorem dX11_keepState_49 : decode cX11_keepState 49 = .ok (.istore_n 1, 1) := by decide +kernel
theorem dX11_keepState_50 : decode cX11_keepState 50 = .ok (.iload 4, 2) := by decide +kernel
theorem dX11_keepState_52 : decode cX11_keepState 52 = .ok (.ifCond .ge 7, 3) := by decide +kernel
theorem dX11_keepState_55 : decode cX11_keepState 55 = .ok (.iload_n 3, 1) := by decide +kernel
theorem dX11_keepState_56 : decode cX11_keepState 56 = .ok (.goto 4, 3) := by decide +kernel
theorem dX11_keepState_59 : decode cX11_keepState 59 = .ok (.iload_n 2, 1) := by decide +kernel
theorem dX11_keepState_60 : decode cX11_keepState 60 = .ok (.istore_n 2, 1) := by decide +kernel
theorem dX11_keepState_61 : decode cX11_keepState 61 = .ok (.goto (-54), 3) := by decide +kernel
theorem dX11_keepState_64 : decode cX11_keepState 64 = .ok (.aload_n 0, 1) := by decide +kernel
theorem dX11_keepState_65 : decode cX11_keepState 65 = .ok (.getfield 137, 3) := by decide +kernel
theorem dX11_keepState_68 : decode cX11_keepState 68 = .ok (.sipush 4096, 3) := by decide +kernel
theorem dX11_keepState_71 : decode cX11_keepState 71 = .ok (.if_icmp .ne 5, 3) := by decide +kernel
theorem dX11_keepState_74 : decode cX11_keepState 74 = .ok (.iconst 0, 1) := by decide +kernel
theorem dX11_keepState_75 : decode cX11_keepState 75 = .ok (.ireturn, 1) := by decide +kernel
theorem dX11_keepState_76 : decode cX11_keepState 76 = .ok (.aload_n 0, 1) := by decide +kernel
theorem dX11_keepState_77 : decode cX11_keepState 77 = .ok (.getfield 137, 3) := by decide +kernel
theorem dX11_keepState_80 : decode cX11_keepState 80 = .ok (.istore_n 3, 1) := by decide +kernel
theorem dX11_keepState_81 : decode cX11_keepState 81 = .ok (.iload_n 3, 1) := by decide +kernel
theorem dX11_keepState_82 : decode cX11_keepState 82 = .ok (.iload_n 1, 1) := by decide +kernel
theorem dX11_keepState_83 : decode cX11_keepState 83 = .ok (.if_icmp .le 23, 3) := by decide +kernel
theorem dX11_keepState_86 : decode cX11_keepState 86 = .ok (.aload_n 0, 1) := by decide +kernel
theorem dX11_keepState_87 : decode cX11_keepState 87 = .ok (.getfield 40, 3) := by decide +kernel
theorem dX11_keepState_90 : decode cX11_keepState 90 = .ok (.iload_n 3, 1) := by decide +kernel
theorem dX11_keepState_91 : decode cX11_keepState 91 = .ok (.aload_n 0, 1) := by decide +kernel
theorem dX11_keepState_92 : decode cX11_keepState 92 = .ok (.getfield 40, 3) := by decide +kernel
theorem dX11_keepState_95 : decode cX11_keepState 95 = .ok (.iload_n 3, 1) := by decide +kernel
theorem dX11_keepState_96 : decode cX11_keepState 96 = .ok (.iconst 1, 1) := by decide +kernel
theorem dX11_keepState_97 : decode cX11_keepState 97 = .ok (.isub, 1) := by decide +kernel
theorem dX11_keepState_98 : decode cX11_keepState 98 = .ok (.iaload, 1) := by decide +kernel
theorem dX11_keepState_99 : decode cX11_keepState 99 = .ok (.iastore, 1) := by decide +kernel
theorem dX11_keepState_100 : decode cX11_keepState 100 = .ok (.iinc 3 (-1), 3) := by decide +kernel
theorem dX11_keepState_103 : decode cX11_keepState 103 = .ok (.goto (-22), 3) := by decide +kernel
theorem dX11_keepState_106 : decode cX11_keepState 106 = .ok (.aload_n 0, 1) := by decide +kernel
theorem dX11_keepState_107 : decode cX11_keepState 107 = .ok (.getfield 40, 3) := by decide +kernel
theorem dX11_keepState_110 : decode cX11_keepState 110 = .ok (.iload_n 1, 1) := by decide +kernel
theorem dX11_keepState_111 : decode cX11_keepState 111 = .ok (.aload_n 0, 1) := by decide +kernel
theorem dX11_keepState_112 : decode cX11_keepState 112 = .ok (.getfield 137, 3) := by decide +kernel
theorem dX11_keepState_115 : decode cX11_keepState 115 = .ok (.iastore, 1) := by decide +kernel
theorem dX11_keepState_116 : decode cX11_keepState 116 = .ok (.iconst 0, 1) := by decide +kernel
theorem dX11_keepState_117 : decode cX11_keepState 117 = .ok (.istore_n 3, 1) := by decide +kernel
theorem dX11_keepState_118 : decode cX11_keepState 118 = .ok (.iload_n 3, 1) := by decide +kernel
theorem dX11_keepState_119 : decode cX11_keepState 119 = .ok (.bipush 32, 2) := by decide +kernel
theorem dX11_keepState_121 : decode cX11_keepState 121 = .ok (.if_icmp .ge 39, 3) := by decide +kernel
theorem dX11_keepState_124 : decode cX11_keepState 124 = .ok (.aload_n 0, 1) := by decide +kernel
theorem dX11_keepState_125 : decode cX11_keepState 125 = .ok (.getfield 37, 3) := by decide +kernel
theorem dX11_keepState_128 : decode cX11_keepState 128 = .ok (.bipush 32, 2) := by decide +kernel
theorem dX11_keepState_130 : decode cX11_keepState 130 = .ok (.aload_n 0, 1) := by decide +kernel
theorem dX11_keepState_131 : decode cX11_keepState 131 = .ok (.getfield 137, 3) := by decide +kernel
theorem dX11_keepState_134 : decode cX11_keepState 134 = .ok (.imul, 1) := by decide +kernel
theorem dX11_keepState_135 : decode cX11_keepState 135 = .ok (.iload_n 3, 1) := by decide +kernel
theorem dX11_keepState_136 : decode cX11_keepState 136 = .ok (.iadd, 1) := by decide +kernel
theorem dX11_keepState_137 : decode cX11_keepState 137 = .ok (.aload_n 0, 1) := by decide +kernel
theorem dX11_keepState_138 : decode cX11_keepState 138 = .ok (.getfield 46, 3) := by decide +kernel
theorem dX11_keepState_141 : decode cX11_keepState 141 = .ok (.bipush 61, 2) := by decide +kernel
theorem dX11_keepState_143 : decode cX11_keepState 143 = .ok (.iload_n 3, 1) := by decide +kernel
theorem dX11_keepState_144 : decode cX11_keepState 144 = .ok (.imul, 1) := by decide +kernel
theorem dX11_keepState_145 : decode cX11_keepState 145 = .ok (.aload_n 0, 1) := by decide +kernel
theorem dX11_keepState_146 : decode cX11_keepState 146 = .ok (.getfield 52, 3) := by decide +kernel
theorem dX11_keepState_149 : decode cX11_keepState 149 = .ok (.iload_n 3, 1) := by decide +kernel
theorem dX11_keepState_150 : decode cX11_keepState 150 = .ok (.iaload, 1) := by decide +kernel
theorem dX11_keepState_151 : decode cX11_keepState 151 = .ok (.iadd, 1) := by decide +kernel
theorem dX11_keepState_152 : decode cX11_keepState 152 = .ok (.iaload, 1) := by decide +kernel
theorem dX11_keepState_153 : decode cX11_keepState 153 = .ok (.iastore, 1) := by decide +kernel
theorem dX11_keepState_154 : decode cX11_keepState 154 = .ok (.iinc 3 1, 3) := by decide +kernel
theorem dX11_keepState_157 : decode cX11_keepState 157 = .ok (.goto (-39), 3) := by decide +kernel
theorem dX11_keepState_160 : decode cX11_keepState 160 = .ok (.aload_n 0, 1) := by decide +kernel
theorem dX11_keepState_161 : decode cX11_keepState 161 = .ok (.dup, 1) := by decide +kernel
theorem dX11_keepState_162 : decode cX11_keepState 162 = .ok (.getfield 137, 3) := by decide +kernel
theorem dX11_keepState_165 : decode cX11_keepState 165 = .ok (.iconst 1, 1) := by decide +kernel
theorem dX11_keepState_166 : decode cX11_keepState 166 = .ok (.iadd, 1) := by decide +kernel
theorem dX11_keepState_167 : decode cX11_keepState 167 = .ok (.putfield 137, 3) := by decide +kernel
theorem dX11_keepState_170 : decode cX11_keepState 170 = .ok (.iconst 1, 1) := by decide +kernel
theorem dX11_keepState_171 : decode cX11_keepState 171 = .ok (.ireturn, 1) := by decide +kernel
theorem dX11_keepAll_0 : decode cX11_keepAll 0 = .ok (.iconst 1, 1) := by decide +kernel
theorem dX11_keepAll_1 : decode cX11_keepAll 1 = .ok (.istore_n 1, 1) := by decide +kernel
theorem dX11_keepAll_2 : decode cX11_keepAll 2 = .ok (.iconst 0, 1) := by decide +kernel
theorem dX11_keepAll_3 : decode cX11_keepAll 3 = .ok (.istore_n 2, 1) := by decide +kernel
theorem dX11_keepAll_4 : decode cX11_keepAll 4 = .ok (.iload_n 2, 1) := by decide +kernel
theorem dX11_keepAll_5 : decode cX11_keepAll 5 = .ok (.bipush 32, 2) := by decide +kernel
theorem dX11_keepAll_7 : decode cX11_keepAll 7 = .ok (.if_icmp .ge 36, 3) := by decide +kernel
theorem dX11_keepAll_10 : decode cX11_keepAll 10 = .ok (.aload_n 0, 1) := by decide +kernel
theorem dX11_keepAll_11 : decode cX11_keepAll 11 = .ok (.getfield 52, 3) := by decide +kernel
theorem dX11_keepAll_14 : decode cX11_keepAll 14 = .ok (.iload_n 2, 1) := by decide +kernel
theorem dX11_keepAll_15 : decode cX11_keepAll 15 = .ok (.iconst 0, 1) := by decide +kernel
theorem dX11_keepAll_16 : decode cX11_keepAll 16 = .ok (.iastore, 1) := by decide +kernel
theorem dX11_keepAll_17 : decode cX11_keepAll 17 = .ok (.iload_n 1, 1) := by decide +kernel
theorem dX11_keepAll_18 : decode cX11_keepAll 18 = .ok (.sipush 4096, 3) := by decide +kernel
theorem dX11_keepAll_21 : decode cX11_keepAll 21 = .ok (.if_icmp .le 7, 3) := by decide +kernel
theorem dX11_keepAll_24 : decode cX11_keepAll 24 = .ok (.iload_n 1, 1) := by decide +kernel
theorem dX11_keepAll_25 : decode cX11_keepAll 25 = .ok (.goto 11, 3) := by decide +kernel
theorem dX11_keepAll_28 : decode cX11_keepAll 28 = .ok (.iload_n 1, 1) := by decide +kernel
theorem dX11_keepAll_29 : decode cX11_keepAll 29 = .ok (.aload_n 0, 1) := by decide +kernel
theorem dX11_keepAll_30 : decode cX11_keepAll 30 = .ok (.getfield 49, 3) := by decide +kernel
theorem dX11_keepAll_33 : decode cX11_keepAll 33 = .ok (.iload_n 2, 1) := by decide +kernel
theorem dX11_keepAll_34 : decode cX11_keepAll 34 = .ok (.iaload, 1) := by decide +kernel
theorem dX11_keepAll_35 : decode cX11_keepAll 35 = .ok (.imul, 1) := by decide +kernel
theorem dX11_keepAll_36 : decode cX11_keepAll 36 = .ok (.istore_n 1, 1) := by decide +kernel
theorem dX11_keepAll_37 : decode cX11_keepAll 37 = .ok (.iinc 2 1, 3) := by decide +kernel
theorem dX11_keepAll_40 : decode cX11_keepAll 40 = .ok (.goto (-36), 3) := by decide +kernel
theorem dX11_keepAll_43 : decode cX11_keepAll 43 = .ok (.iload_n 1, 1) := by decide +kernel
theorem dX11_keepAll_44 : decode cX11_keepAll 44 = .ok (.sipush 4096, 3) := by decide +kernel
theorem dX11_keepAll_47 : decode cX11_keepAll 47 = .ok (.if_icmp .le 5, 3) := by decide +kernel
theorem dX11_keepAll_50 : decode cX11_keepAll 50 = .ok (.iconst 0, 1) := by decide +kernel
theorem dX11_keepAll_51 : decode cX11_keepAll 51 = .ok (.ireturn, 1) := by decide +kernel
theorem dX11_keepAll_52 : decode cX11_keepAll 52 = .ok (.iconst 0, 1) := by decide +kernel
theorem dX11_keepAll_53 : decode cX11_keepAll 53 = .ok (.istore_n 2, 1) := by decide +kernel
theorem dX11_keepAll_54 : decode cX11_keepAll 54 = .ok (.iload_n 2, 1) := by decide +kernel
theorem dX11_keepAll_55 : decode cX11_keepAll 55 = .ok (.iload_n 1, 1) := by decide +kernel
theorem dX11_keepAll_56 : decode cX11_keepAll 56 = .ok (.if_icmp .ge 69, 3) := by decide +kernel
theorem dX11_keepAll_59 : decode cX11_keepAll 59 = .ok (.aload_n 0, 1) := by decide +kernel
theorem dX11_keepAll_60 : decode cX11_keepAll 60 = .ok (.invokevirtual 143, 3) := by decide +kernel
theorem dX11_keepAll_63 : decode cX11_keepAll 63 = .ok (.ifCond .ne 5, 3) := by decide +kernel
theorem dX11_keepAll_66 : decode cX11_keepAll 66 = .ok (.iconst 0, 1) := by decide +kernel
theorem dX11_keepAll_67 : decode cX11_keepAll 67 = .ok (.ireturn, 1) := by decide +kernel
theorem dX11_keepAll_68 : decode cX11_keepAll 68 = .ok (.bipush 31, 2) := by decide +kernel
theorem dX11_keepAll_70 : decode cX11_keepAll 70 = .ok (.istore_n 3, 1) := by decide +kernel
theorem dX11_keepAll_71 : decode cX11_keepAll 71 = .ok (.iload_n 3, 1) := by decide +kernel
theorem dX11_keepAll_72 : decode cX11_keepAll 72 = .ok (.ifCond .lt 33, 3) := by decide +kernel
theorem dX11_keepAll_75 : decode cX11_keepAll 75 = .ok (.aload_n 0, 1) := by decide +kernel
theorem dX11_keepAll_76 : decode cX11_keepAll 76 = .ok (.getfield 52, 3) := by decide +kernel
theorem dX11_keepAll_79 : decode cX11_keepAll 79 = .ok (.iload_n 3, 1) := by decide +kernel
theorem dX11_keepAll_80 : decode cX11_keepAll 80 = .ok (.iaload, 1) := by decide +kernel
theorem dX11_keepAll_81 : decode cX11_keepAll 81 = .ok (.aload_n 0, 1) := by decide +kernel
theorem dX11_keepAll_82 : decode cX11_keepAll 82 = .ok (.getfield 49, 3) := by decide +kernel
theorem dX11_keepAll_85 : decode cX11_keepAll 85 = .ok (.iload_n 3, 1) := by decide +kernel
theorem dX11_keepAll_86 : decode cX11_keepAll 86 = .ok (.iaload, 1) := by decide +kernel
theorem dX11_keepAll_87 : decode cX11_keepAll 87 = .ok (.iconst 1, 1) := by decide +kernel
theorem dX11_keepAll_88 : decode cX11_keepAll 88 = .ok (.isub, 1) := by decide +kernel
theorem dX11_keepAll_89 : decode cX11_keepAll 89 = .ok (.if_icmp .ne 16, 3) := by decide +kernel
theorem dX11_keepAll_92 : decode cX11_keepAll 92 = .ok (.aload_n 0, 1) := by decide +kernel
theorem dX11_keepAll_93 : decode cX11_keepAll 93 = .ok (.getfield 52, 3) := by decide +kernel
theorem dX11_keepAll_96 : decode cX11_keepAll 96 = .ok (.iload_n 3, 1) := by decide +kernel
theorem dX11_keepAll_97 : decode cX11_keepAll 97 = .ok (.iconst 0, 1) := by decide +kernel
theorem dX11_keepAll_98 : decode cX11_keepAll 98 = .ok (.iastore, 1) := by decide +kernel
theorem dX11_keepAll_99 : decode cX11_keepAll 99 = .ok (.iinc 3 (-1), 3) := by decide +kernel
theorem dX11_keepAll_102 : decode cX11_keepAll 102 = .ok (.goto (-31), 3) := by decide +kernel
theorem dX11_keepAll_105 : decode cX11_keepAll 105 = .ok (.iload_n 3, 1) := by decide +kernel
theorem dX11_keepAll_106 : decode cX11_keepAll 106 = .ok (.ifCond .lt 13, 3) := by decide +kernel
theorem dX11_keepAll_109 : decode cX11_keepAll 109 = .ok (.aload_n 0, 1) := by decide +kernel
theorem dX11_keepAll_110 : decode cX11_keepAll 110 = .ok (.getfield 52, 3) := by decide +kernel
theorem dX11_keepAll_113 : decode cX11_keepAll 113 = .ok (.iload_n 3, 1) := by decide +kernel
theorem dX11_keepAll_114 : decode cX11_keepAll 114 = .ok (.dup2, 1) := by decide +kernel
theorem dX11_keepAll_115 : decode cX11_keepAll 115 = .ok (.iaload, 1) := by decide +kernel
theorem dX11_keepAll_116 : decode cX11_keepAll 116 = .ok (.iconst 1, 1) := by decide +kernel
theorem dX11_keepAll_117 : decode cX11_keepAll 117 = .ok (.iadd, 1) := by decide +kernel
theorem dX11_keepAll_118 : decode cX11_keepAll 118 = .ok (.iastore, 1) := by decide +kernel
theorem dX11_keepAll_119 : decode cX11_keepAll 119 = .ok (.iinc 2 1, 3) := by decide +kernel
theorem dX11_keepAll_122 : decode cX11_keepAll 122 = .ok (.goto (-68), 3) := by decide +kernel
theorem dX11_keepAll_125 : decode cX11_keepAll 125 = .ok (.iconst 1, 1) := by decide +kernel
theorem dX11_keepAll_126 : decode cX11_keepAll 126 = .ok (.ireturn, 1) := by decide +kernel
theorem dX11_onlyBase_0 : decode cX11_onlyBase 0 = .ok (.iconst 0, 1) := by decide +kernel
theorem dX11_onlyBase_1 : decode cX11_onlyBase 1 = .ok (.istore_n 1, 1) := by decide +kernel
theorem dX11_onlyBase_2 : decode cX11_onlyBase 2 = .ok (.iload_n 1, 1) := by decide +kernel
theorem dX11_onlyBase_3 : decode cX11_onlyBase 3 = .ok (.bipush 32, 2) := by decide +kernel
theorem dX11_onlyBase_5 : decode cX11_onlyBase 5 = .ok (.if_icmp .ge 27, 3) := by decide +kernel
theorem dX11_onlyBase_8 : decode cX11_onlyBase 8 = .ok (.aload_n 0, 1) := by decide +kernel
theorem dX11_onlyBase_9 : decode cX11_onlyBase 9 = .ok (.getfield 49, 3) := by decide +kernel
theorem dX11_onlyBase_12 : decode cX11_onlyBase 12 = .ok (.iload_n 1, 1) := by decide +kernel
theorem dX11_onlyBase_13 : decode cX11_onlyBase 13 = .ok (.iconst 0, 1) := by decide +kernel
theorem dX11_onlyBase_14 : decode cX11_onlyBase 14 = .ok (.iastore, 1) := by decide +kernel
theorem dX11_onlyBase_15 : decode cX11_onlyBase 15 = .ok (.aload_n 0, 1) := by decide +kernel
theorem dX11_onlyBase_16 : decode cX11_onlyBase 16 = .ok (.iload_n 1, 1) := by decide +kernel
theorem dX11_onlyBase_17 : decode cX11_onlyBase 17 = .ok (.aload_n 0, 1) := by decide +kernel
theorem dX11_onlyBase_18 : decode cX11_onlyBase 18 = .ok (.getfield 43, 3) := by decide +kernel
theorem dX11_onlyBase_21 : decode cX11_onlyBase 21 = .ok (.iload_n 1, 1) := by decide +kernel
theorem dX11_onlyBase_22 : decode cX11_onlyBase 22 = .ok (.iaload, 1) := by decide +kernel
theorem dX11_onlyBase_23 : decode cX11_onlyBase 23 = .ok (.invokevirtual 147, 3) := by decide +kernel
theorem dX11_onlyBase_26 : decode cX11_onlyBase 26 = .ok (.iinc 1 1, 3) := by decide +kernel
theorem dX11_onlyBase_29 : decode cX11_onlyBase 29 = .ok (.goto (-27), 3) := by decide +kernel
theorem dX11_onlyBase_32 : decode cX11_onlyBase 32 = .ok (.return_, 1) := by decide +kernel
theorem dX11_findStates_0 : decode cX11_findStates 0 = .ok (.aload_n 0, 1) := by decide +kernel
theorem dX11_findStates_1 : decode cX11_findStates 1 = .ok (.iconst 0, 1) := by decide +kernel
theorem dX11_findStates_2 : decode cX11_findStates 2 = .ok (.putfield 137, 3) := by decide +kernel
theorem dX11_findStates_5 : decode cX11_findStates 5 = .ok (.iconst 0, 1) := by decide +kernel
theorem dX11_findStates_6 : decode cX11_findStates 6 = .ok (.istore_n 2, 1) := by decide +kernel
theorem dX11_findStates_7 : decode cX11_findStates 7 = .ok (.iload_n 2, 1) := by decide +kernel
theorem dX11_findStates_8 : decode cX11_findStates 8 = .ok (.bipush 32, 2) := by decide +kernel
theorem dX11_findStates_10 : decode cX11_findStates 10 = .ok (.if_icmp .ge 26, 3) := by decide +kernel
theorem dX11_findStates_13 : decode cX11_findStates 13 = .ok (.aload_n 0, 1) := by decide +kernel
theorem dX11_findStates_14 : decode cX11_findStates 14 = .ok (.getfield 43, 3) := by decide +kernel
theorem dX11_findStates_17 : decode cX11_findStates 17 = .ok (.iload_n 2, 1) := by decide +kernel
theorem dX11_findStates_18 : decode cX11_findStates 18 = .ok (.aload_n 0, 1) := by decide +kernel
theorem dX11_findStates_19 : decode cX11_findStates 19 = .ok (.getfield 7, 3) := by decide +kernel
theorem dX11_findStates_22 : decode cX11_findStates 22 = .ok (.bipush 32, 2) := by decide +kernel
theorem dX11_findStates_24 : decode cX11_findStates 24 = .ok (.iload_n 1, 1) := by decide +kernel
theorem dX11_findStates_25 : decode cX11_findStates 25 = .ok (.imul, 1) := by decide +kernel
theorem dX11_findStates_26 : decode cX11_findStates 26 = .ok (.iload_n 2, 1) := by decide +kernel
theorem dX11_findStates_27 : decode cX11_findStates 27 = .ok (.iadd, 1) := by decide +kernel
theorem dX11_findStates_28 : decode cX11_findStates 28 = .ok (.iaload, 1) := by decide +kernel
theorem dX11_findStates_29 : decode cX11_findStates 29 = .ok (.iastore, 1) := by decide +kernel
theorem dX11_findStates_30 : decode cX11_findStates 30 = .ok (.iinc 2 1, 3) := by decide +kernel
theorem dX11_findStates_33 : decode cX11_findStates 33 = .ok (.goto (-26), 3) := by decide +kernel
theorem dX11_findStates_36 : decode cX11_findStates 36 = .ok (.aload_n 0, 1) := by decide +kernel
theorem dX11_findStates_37 : decode cX11_findStates 37 = .ok (.iload_n 1, 1) := by decide +kernel
theorem dX11_findStates_38 : decode cX11_findStates 38 = .ok (.aload_n 0, 1) := by decide +kernel
theorem dX11_findStates_39 : decode cX11_findStates 39 = .ok (.getfield 22, 3) := by decide +kernel
theorem dX11_findStates_42 : decode cX11_findStates 42 = .ok (.iload_n 1, 1) := by decide +kernel
theorem dX11_findStates_43 : decode cX11_findStates 43 = .ok (.iaload, 1) := by decide +kernel
theorem dX11_findStates_44 : decode cX11_findStates 44 = .ok (.invokevirtual 151, 3) := by decide +kernel
theorem dX11_findStates_47 : decode cX11_findStates 47 = .ok (.istore_n 2, 1) := by decide +kernel
theorem dX11_findStates_48 : decode cX11_findStates 48 = .ok (.iload_n 2, 1) := by decide +kernel
theorem dX11_findStates_49 : decode cX11_findStates 49 = .ok (.ifCond .ne 12, 3) := by decide +kernel
theorem dX11_findStates_52 : decode cX11_findStates 52 = .ok (.aload_n 0, 1) := by decide +kernel
theorem dX11_findStates_53 : decode cX11_findStates 53 = .ok (.invokevirtual 154, 3) := by decide +kernel
theorem dX11_findStates_56 : decode cX11_findStates 56 = .ok (.aload_n 0, 1) := by decide +kernel
theorem dX11_findStates_57 : decode cX11_findStates 57 = .ok (.invokevirtual 157, 3) := by decide +kernel
theorem dX11_findStates_60 : decode cX11_findStates 60 = .ok (.ireturn, 1) := by decide +kernel
theorem dX11_findStates_61 : decode cX11_findStates 61 = .ok (.iconst 0, 1) := by decide +kernel
theorem dX11_findStates_62 : decode cX11_findStates 62 = .ok (.istore_n 3, 1) := by decide +kernel
theorem dX11_findStates_63 : decode cX11_findStates 63 = .ok (.iload_n 3, 1) := by decide +kernel
theorem dX11_findStates_64 : decode cX11_findStates 64 = .ok (.iload_n 2, 1) := by decide +kernel
theorem dX11_findStates_65 : decode cX11_findStates 65 = .ok (.if_icmp .ge 210, 3) := by decide +kernel
theorem dX11_findStates_68 : decode cX11_findStates 68 = .ok (.aload_n 0, 1) := by decide +kernel
theorem dX11_findStates_69 : decode cX11_findStates 69 = .ok (.invokevirtual 154, 3) := by decide +kernel
theorem dX11_findStates_72 : decode cX11_findStates 72 = .ok (.iconst 0, 1) := by decide +kernel
theorem dX11_findStates_73 : decode cX11_findStates 73 = .ok (.istore 4, 2) := by decide +kernel
theorem dX11_findStates_75 : decode cX11_findStates 75 = .ok (.iload 4, 2) := by decide +kernel
theorem dX11_findStates_77 : decode cX11_findStates 77 = .ok (.aload_n 0, 1) := by decide +kernel
theorem dX11_findStates_78 : decode cX11_findStates 78 = .ok (.getfield 22, 3) := by decide +kernel
theorem dX11_findStates_81 : decode cX11_findStates 81 = .ok (.iload_n 1, 1) := by decide +kernel
theorem dX11_findStates_82 : decode cX11_findStates 82 = .ok (.iaload, 1) := by decide +kernel
theorem dX11_findStates_83 : decode cX11_findStates 83 = .ok (.if_icmp .ge 82, 3) := by decide +kernel
theorem dX11_findStates_86 : decode cX11_findStates 86 = .ok (.aload_n 0, 1) := by decide +kernel
theorem dX11_findStates_87 : decode cX11_findStates 87 = .ok (.getfield 13, 3) := by decide +kernel
theorem dX11_findStates_90 : decode cX11_findStates 90 = .ok (.bipush 60, 2) := by decide +kernel
theorem dX11_findStates_92 : decode cX11_findStates 92 = .ok (.iload_n 1, 1) := by decide +kernel
theorem dX11_findStates_93 : decode cX11_findStates 93 = .ok (.imul, 1) := by decide +kernel
theorem dX11_findStates_94 : decode cX11_findStates 94 = .ok (.iload 4, 2) := by decide +kernel
theorem dX11_findStates_96 : decode cX11_findStates 96 = .ok (.iadd, 1) := by decide +kernel
theorem dX11_findStates_97 : decode cX11_findStates 97 = .ok (.iaload, 1) := by decide +kernel
theorem dX11_findStates_98 : decode cX11_findStates 98 = .ok (.istore 5, 2) := by decide +kernel
theorem dX11_findStates_100 : decode cX11_findStates 100 = .ok (.iload 5, 2) := by decide +kernel
theorem dX11_findStates_102 : decode cX11_findStates 102 = .ok (.iconst (-1), 1) := by decide +kernel
theorem dX11_findStates_103 : decode cX11_findStates 103 = .ok (.if_icmp .eq 56, 3) := by decide +kernel
theorem dX11_findStates_106 : decode cX11_findStates 106 = .ok (.aload_n 0, 1) := by decide +kernel
theorem dX11_findStates_107 : decode cX11_findStates 107 = .ok (.iload_n 1, 1) := by decide +kernel
theorem dX11_findStates_108 : decode cX11_findStates 108 = .ok (.iload 4, 2) := by decide +kernel
theorem dX11_findStates_110 : decode cX11_findStates 110 = .ok (.invokevirtual 133, 3) := by decide +kernel
theorem dX11_findStates_113 : decode cX11_findStates 113 = .ok (.iload_n 3, 1) := by decide +kernel
theorem dX11_findStates_114 : decode cX11_findStates 114 = .ok (.if_icmp .ne 45, 3) := by decide +kernel
theorem dX11_findStates_117 : decode cX11_findStates 117 = .ok (.aload_n 0, 1) := by decide +kernel
theorem dX11_findStates_118 : decode cX11_findStates 118 = .ok (.iconst 2, 1) := by decide +kernel
theorem dX11_findStates_119 : decode cX11_findStates 119 = .ok (.iload 5, 2) := by decide +kernel
theorem dX11_findStates_121 : decode cX11_findStates 121 = .ok (.imul, 1) := by decide +kernel
theorem dX11_findStates_122 : decode cX11_findStates 122 = .ok (.aload_n 0, 1) := by decide +kernel
theorem dX11_findStates_123 : decode cX11_findStates 123 = .ok (.getfield 16, 3) := by decide +kernel
theorem dX11_findStates_126 : decode cX11_findStates 126 = .ok (.bipush 60, 2) := by decide +kernel
theorem dX11_findStates_128 : decode cX11_findStates 128 = .ok (.iload_n 1, 1) := by decide +kernel
theorem dX11_findStates_129 : decode cX11_findStates 129 = .ok (.imul, 1) := by decide +kernel
theorem dX11_findStates_130 : decode cX11_findStates 130 = .ok (.iload 4, 2) := by decide +kernel
theorem dX11_findStates_132 : decode cX11_findStates 132 = .ok (.iadd, 1) := by decide +kernel
theorem dX11_findStates_133 : decode cX11_findStates 133 = .ok (.iaload, 1) := by decide +kernel
theorem dX11_findStates_134 : decode cX11_findStates 134 = .ok (.invokevirtual 147, 3) := by decide +kernel
theorem dX11_findStates_137 : decode cX11_findStates 137 = .ok (.aload_n 0, 1) := by decide +kernel
theorem dX11_findStates_138 : decode cX11_findStates 138 = .ok (.iconst 2, 1) := by decide +kernel
theorem dX11_findStates_139 : decode cX11_findStates 139 = .ok (.iload 5, 2) := by decide +kernel
theorem dX11_findStates_141 : decode cX11_findStates 141 = .ok (.imul, 1) := by decide +kernel
theorem dX11_findStates_142 : decode cX11_findStates 142 = .ok (.iconst 1, 1) := by decide +kernel
theorem dX11_findStates_143 : decode cX11_findStates 143 = .ok (.iadd, 1) := by decide +kernel
theorem dX11_findStates_144 : decode cX11_findStates 144 = .ok (.aload_n 0, 1) := by decide +kernel
theorem dX11_findStates_145 : decode cX11_findStates 145 = .ok (.getfield 19, 3) := by decide +kernel
theorem dX11_findStates_148 : decode cX11_findStates 148 = .ok (.bipush 60, 2) := by decide +kernel
theorem dX11_findStates_150 : decode cX11_findStates 150 = .ok (.iload_n 1, 1) := by decide +kernel
theorem dX11_findStates_151 : decode cX11_findStates 151 = .ok (.imul, 1) := by decide +kernel
theorem dX11_findStates_152 : decode cX11_findStates 152 = .ok (.iload 4, 2) := by decide +kernel
theorem dX11_findStates_154 : decode cX11_findStates 154 = .ok (.iadd, 1) := by decide +kernel
theorem dX11_findStates_155 : decode cX11_findStates 155 = .ok (.iaload, 1) := by decide +kernel
theorem dX11_findStates_156 : decode cX11_findStates 156 = .ok (.invokevirtual 147, 3) := by decide +kernel
theorem dX11_findStates_159 : decode cX11_findStates 159 = .ok (.iinc 4 1, 3) := by decide +kernel
theorem dX11_findStates_162 : decode cX11_findStates 162 = .ok (.goto (-87), 3) := by decide +kernel
theorem dX11_findStates_165 : decode cX11_findStates 165 = .ok (.aload_n 0, 1) := by decide +kernel
theorem dX11_findStates_166 : decode cX11_findStates 166 = .ok (.invokevirtual 157, 3) := by decide +kernel
theorem dX11_findStates_169 : decode cX11_findStates 169 = .ok (.ifCond .ne 5, 3) := by decide +kernel
theorem dX11_findStates_172 : decode cX11_findStates 172 = .ok (.iconst 0, 1) := by decide +kernel
theorem dX11_findStates_173 : decode cX11_findStates 173 = .ok (.ireturn, 1) := by decide +kernel
theorem dX11_findStates_174 : decode cX11_findStates 174 = .ok (.iconst 0, 1) := by decide +kernel
theorem dX11_findStates_175 : decode cX11_findStates 175 = .ok (.istore 4, 2) := by decide +kernel
theorem dX11_findStates_177 : decode cX11_findStates 177 = .ok (.iload 4, 2) := by decide +kernel
theorem dX11_findStates_179 : decode cX11_findStates 179 = .ok (.aload_n 0, 1) := by decide +kernel
theorem dX11_findStates_180 : decode cX11_findStates 180 = .ok (.getfield 22, 3) := by decide +kernel
theorem dX11_findStates_183 : decode cX11_findStates 183 = .ok (.iload_n 1, 1) := by decide +kernel
theorem dX11_findStates_184 : decode cX11_findStates 184 = .ok (.iaload, 1) := by decide +kernel
theorem dX11_findStates_185 : decode cX11_findStates 185 = .ok (.if_icmp .ge 84, 3) := by decide +kernel
theorem dX11_findStates_188 : decode cX11_findStates 188 = .ok (.aload_n 0, 1) := by decide +kernel
theorem dX11_findStates_189 : decode cX11_findStates 189 = .ok (.getfield 13, 3) := by decide +kernel
theorem dX11_findStates_192 : decode cX11_findStates 192 = .ok (.bipush 60, 2) := by decide +kernel
theorem dX11_findStates_194 : decode cX11_findStates 194 = .ok (.iload_n 1, 1) := by decide +kernel
theorem dX11_findStates_195 : decode cX11_findStates 195 = .ok (.imul, 1) := by decide +kernel
theorem dX11_findStates_196 : decode cX11_findStates 196 = .ok (.iload 4, 2) := by decide +kernel
theorem dX11_findStates_198 : decode cX11_findStates 198 = .ok (.iadd, 1) := by decide +kernel
theorem dX11_findStates_199 : decode cX11_findStates 199 = .ok (.iaload, 1) := by decide +kernel
theorem dX11_findStates_200 : decode cX11_findStates 200 = .ok (.istore 5, 2) := by decide +kernel
theorem dX11_findStates_202 : decode cX11_findStates 202 = .ok (.iload 5, 2) := by decide +kernel
theorem dX11_findStates_204 : decode cX11_findStates 204 = .ok (.iconst (-1), 1) := by decide +kernel
theorem dX11_findStates_205 : decode cX11_findStates 205 = .ok (.if_icmp .eq 58, 3) := by decide +kernel
theorem dX11_findStates_208 : decode cX11_findStates 208 = .ok (.aload_n 0, 1) := by decide +kernel
theorem dX11_findStates_209 : decode cX11_findStates 209 = .ok (.iload_n 1, 1) := by decide +kernel
theorem dX11_findStates_210 : decode cX11_findStates 210 = .ok (.iload 4, 2) := by decide +kernel
theorem dX11_findStates_212 : decode cX11_findStates 212 = .ok (.invokevirtual 133, 3) := by decide +kernel
theorem dX11_findStates_215 : decode cX11_findStates 215 = .ok (.iload_n 3, 1) := by decide +kernel
theorem dX11_findStates_216 : decode cX11_findStates 216 = .ok (.if_icmp .ne 47, 3) := by decide +kernel
theorem dX11_findStates_219 : decode cX11_findStates 219 = .ok (.aload_n 0, 1) := by decide +kernel
theorem dX11_findStates_220 : decode cX11_findStates 220 = .ok (.getfield 43, 3) := by decide +kernel
theorem dX11_findStates_223 : decode cX11_findStates 223 = .ok (.iconst 2, 1) := by decide +kernel
theorem dX11_findStates_224 : decode cX11_findStates 224 = .ok (.iload 5, 2) := by decide +kernel
theorem dX11_findStates_226 : decode cX11_findStates 226 = .ok (.imul, 1) := by decide +kernel
theorem dX11_findStates_227 : decode cX11_findStates 227 = .ok (.aload_n 0, 1) := by decide +kernel
theorem dX11_findStates_228 : decode cX11_findStates 228 = .ok (.getfield 16, 3) := by decide +kernel
theorem dX11_findStates_231 : decode cX11_findStates 231 = .ok (.bipush 60, 2) := by decide +kernel
theorem dX11_findStates_233 : decode cX11_findStates 233 = .ok (.iload_n 1, 1) := by decide +kernel
theorem dX11_findStates_234 : decode cX11_findStates 234 = .ok (.imul, 1) := by decide +kernel
theorem dX11_findStates_235 : decode cX11_findStates 235 = .ok (.iload 4, 2) := by decide +kernel
theorem dX11_findStates_237 : decode cX11_findStates 237 = .ok (.iadd, 1) := by decide +kernel
theorem dX11_findStates_238 : decode cX11_findStates 238 = .ok (.iaload, 1) := by decide +kernel
theorem dX11_findStates_239 : decode cX11_findStates 239 = .ok (.iastore, 1) := by decide +kernel
theorem dX11_findStates_240 : decode cX11_findStates 240 = .ok (.aload_n 0, 1) := by decide +kernel
theorem dX11_findStates_241 : decode cX11_findStates 241 = .ok (.getfield 43, 3) := by decide +kernel
theorem dX11_findStates_244 : decode cX11_findStates 244 = .ok (.iconst 2, 1) := by decide +kernel
theorem dX11_findStates_245 : decode cX11_findStates 245 = .ok (.iload 5, 2) := by decide +kernel
theorem dX11_findStates_247 : decode cX11_findStates 247 = .ok (.imul, 1) := by decide +kernel
theorem dX11_findStates_248 : decode cX11_findStates 248 = .ok (.iconst 1, 1) := by decide +kernel
theorem dX11_findStates_249 : decode cX11_findStates 249 = .ok (.iadd, 1) := by decide +kernel
theorem dX11_findStates_250 : decode cX11_findStates 250 = .ok (.aload_n 0, 1) := by decide +kernel
theorem dX11_findStates_251 : decode cX11_findStates 251 = .ok (.getfield 19, 3) := by decide +kernel
theorem dX11_findStates_254 : decode cX11_findStates 254 = .ok (.bipush 60, 2) := by decide +kernel
theorem dX11_findStates_256 : decode cX11_findStates 256 = .ok (.iload_n 1, 1) := by decide +kernel
theorem dX11_findStates_257 : decode cX11_findStates 257 = .ok (.imul, 1) := by decide +kernel
theorem dX11_findStates_258 : decode cX11_findStates 258 = .ok (.iload 4, 2) := by decide +kernel
theorem dX11_findStates_260 : decode cX11_findStates 260 = .ok (.iadd, 1) := by decide +kernel
theorem dX11_findStates_261 : decode cX11_findStates 261 = .ok (.iaload, 1) := by decide +kernel
theorem dX11_findStates_262 : decode cX11_findStates 262 = .ok (.iastore, 1) := by decide +kernel
theorem dX11_findStates_263 : decode cX11_findStates 263 = .ok (.iinc 4 1, 3) := by decide +kernel
theorem dX11_findStates_266 : decode cX11_findStates 266 = .ok (.goto (-89), 3) := by decide +kernel
theorem dX11_findStates_269 : decode cX11_findStates 269 = .ok (.iinc 3 1, 3) := by decide +kernel
theorem dX11_findStates_272 : decode cX11_findStates 272 = .ok (.goto (-209), 3) := by decide +kernel
theorem dX11_findStates_275 : decode cX11_findStates 275 = .ok (.iconst 1, 1) := by decide +kernel
theorem dX11_findStates_276 : decode cX11_findStates 276 = .ok (.ireturn, 1) := by decide +kernel
theorem dX11_states_0 : decode cX11_states 0 = .ok (.aload_n 0, 1) := by decide +kernel
theorem dX11_states_1 : decode cX11_states 1 = .ok (.iconst 0, 1) := by decide +kernel
theorem dX11_states_2 : decode cX11_states 2 = .ok (.putfield 104, 3) := by decide +kernel
theorem dX11_states_5 : decode cX11_states 5 = .ok (.aload_n 0, 1) := by decide +kernel
theorem dX11_states_6 : decode cX11_states 6 = .ok (.iconst 0, 1) := by decide +kernel
theorem dX11_states_7 : decode cX11_states 7 = .ok (.invokevirtual 160, 3) := by decide +kernel
theorem dX11_states_10 : decode cX11_states 10 = .ok (.ifCond .eq 10, 3) := by decide +kernel
theorem dX11_states_13 : decode cX11_states 13 = .ok (.aload_n 0, 1) := by decide +kernel
theorem dX11_states_14 : decode cX11_states 14 = .ok (.getfield 137, 3) := by decide +kernel
theorem dX11_states_17 : decode cX11_states 17 = .ok (.goto 9, 3) := by decide +kernel
theorem dX11_states_20 : decode cX11_states 20 = .ok (.aload_n 0, 1) := by decide +kernel
theorem dX11_states_21 : decode cX11_states 21 = .ok (.bipush (-6), 2) := by decide +kernel
theorem dX11_states_23 : decode cX11_states 23 = .ok (.invokevirtual 114, 3) := by decide +kernel
theorem dX11_states_26 : decode cX11_states 26 = .ok (.ireturn, 1) := by decide +kernel
theorem dX11_state_0 : decode cX11_state 0 = .ok (.aload_n 0, 1) := by decide +kernel
theorem dX11_state_1 : decode cX11_state 1 = .ok (.iload_n 2, 1) := by decide +kernel
theorem dX11_state_2 : decode cX11_state 2 = .ok (.iload_n 3, 1) := by decide +kernel
theorem dX11_state_3 : decode cX11_state 3 = .ok (.invokestatic 125, 3) := by decide +kernel
theorem dX11_state_6 : decode cX11_state 6 = .ok (.ifCond .eq 29, 3) := by decide +kernel
theorem dX11_state_9 : decode cX11_state 9 = .ok (.aload_n 0, 1) := by decide +kernel
theorem dX11_state_10 : decode cX11_state 10 = .ok (.iconst 0, 1) := by decide +kernel
theorem dX11_state_11 : decode cX11_state 11 = .ok (.invokevirtual 160, 3) := by decide +kernel
theorem dX11_state_14 : decode cX11_state 14 = .ok (.ifCond .eq 21, 3) := by decide +kernel
theorem dX11_state_17 : decode cX11_state 17 = .ok (.iload_n 1, 1) := by decide +kernel
theorem dX11_state_18 : decode cX11_state 18 = .ok (.iconst 0, 1) := by decide +kernel
theorem dX11_state_19 : decode cX11_state 19 = .ok (.aload_n 0, 1) := by decide +kernel
theorem dX11_state_20 : decode cX11_state 20 = .ok (.getfield 137, 3) := by decide +kernel
theorem dX11_state_23 : decode cX11_state 23 = .ok (.iconst 1, 1) := by decide +kernel
theorem dX11_state_24 : decode cX11_state 24 = .ok (.isub, 1) := by decide +kernel
theorem dX11_state_25 : decode cX11_state 25 = .ok (.invokestatic 110, 3) := by decide +kernel
theorem dX11_state_28 : decode cX11_state 28 = .ok (.ifCond .eq 7, 3) := by decide +kernel
theorem dX11_state_31 : decode cX11_state 31 = .ok (.iconst 0, 1) := by decide +kernel
theorem dX11_state_32 : decode cX11_state 32 = .ok (.goto 4, 3) := by decide +kernel
theorem dX11_state_35 : decode cX11_state 35 = .ok (.iconst 1, 1) := by decide +kernel
theorem dX11_state_36 : decode cX11_state 36 = .ok (.putfield 104, 3) := by decide +kernel
theorem dX11_state_39 : decode cX11_state 39 = .ok (.aload_n 0, 1) := by decide +kernel
theorem dX11_state_40 : decode cX11_state 40 = .ok (.getfield 104, 3) := by decide +kernel
theorem dX11_state_43 : decode cX11_state 43 = .ok (.ifCond .le 7, 3) := by decide +kernel
theorem dX11_state_46 : decode cX11_state 46 = .ok (.iconst 0, 1) := by decide +kernel
theorem dX11_state_47 : decode cX11_state 47 = .ok (.goto 23, 3) := by decide +kernel
theorem dX11_state_50 : decode cX11_state 50 = .ok (.aload_n 0, 1) := by decide +kernel
theorem dX11_state_51 : decode cX11_state 51 = .ok (.getfield 37, 3) := by decide +kernel
theorem dX11_state_54 : decode cX11_state 54 = .ok (.bipush 32, 2) := by decide +kernel
theorem dX11_state_56 : decode cX11_state 56 = .ok (.aload_n 0, 1) := by decide +kernel
theorem dX11_state_57 : decode cX11_state 57 = .ok (.getfield 40, 3) := by decide +kernel
theorem dX11_state_60 : decode cX11_state 60 = .ok (.iload_n 1, 1) := by decide +kernel
theorem dX11_state_61 : decode cX11_state 61 = .ok (.iaload, 1) := by decide +kernel
theorem dX11_state_62 : decode cX11_state 62 = .ok (.imul, 1) := by decide +kernel
theorem dX11_state_63 : decode cX11_state 63 = .ok (.iconst 2, 1) := by decide +kernel
theorem dX11_state_64 : decode cX11_state 64 = .ok (.iload_n 2, 1) := by decide +kernel
theorem dX11_state_65 : decode cX11_state 65 = .ok (.imul, 1) := by decide +kernel
theorem dX11_state_66 : decode cX11_state 66 = .ok (.iadd, 1) := by decide +kernel
theorem dX11_state_67 : decode cX11_state 67 = .ok (.iload_n 3, 1) := by decide +kernel
theorem dX11_state_68 : decode cX11_state 68 = .ok (.iadd, 1) := by decide +kernel
theorem dX11_state_69 : decode cX11_state 69 = .ok (.iaload, 1) := by decide +kernel
theorem dX11_state_70 : decode cX11_state 70 = .ok (.ireturn, 1) := by decide +kernel
theorem dX11_fall_0 : decode cX11_fall 0 = .ok (.aload_n 0, 1) := by decide +kernel
theorem dX11_fall_1 : decode cX11_fall 1 = .ok (.iconst 0, 1) := by decide +kernel
theorem dX11_fall_2 : decode cX11_fall 2 = .ok (.putfield 104, 3) := by decide +kernel
theorem dX11_fall_5 : decode cX11_fall 5 = .ok (.aload_n 0, 1) := by decide +kernel
theorem dX11_fall_6 : decode cX11_fall 6 = .ok (.iconst 0, 1) := by decide +kernel
theorem dX11_fall_7 : decode cX11_fall 7 = .ok (.invokevirtual 160, 3) := by decide +kernel
theorem dX11_fall_10 : decode cX11_fall 10 = .ok (.ifCond .ne 10, 3) := by decide +kernel
theorem dX11_fall_13 : decode cX11_fall 13 = .ok (.aload_n 0, 1) := by decide +kernel
theorem dX11_fall_14 : decode cX11_fall 14 = .ok (.bipush (-6), 2) := by decide +kernel
theorem dX11_fall_16 : decode cX11_fall 16 = .ok (.invokevirtual 114, 3) := by decide +kernel
theorem dX11_fall_19 : decode cX11_fall 19 = .ok (.ireturn, 1) := by decide +kernel
theorem dX11_fall_20 : decode cX11_fall 20 = .ok (.iload_n 1, 1) := by decide +kernel
theorem dX11_fall_21 : decode cX11_fall 21 = .ok (.iconst 0, 1) := by decide +kernel
theorem dX11_fall_22 : decode cX11_fall 22 = .ok (.aload_n 0, 1) := by decide +kernel
theorem dX11_fall_23 : decode cX11_fall 23 = .ok (.getfield 137, 3) := by decide +kernel
theorem dX11_fall_26 : decode cX11_fall 26 = .ok (.iconst 1, 1) := by decide +kernel
theorem dX11_fall_27 : decode cX11_fall 27 = .ok (.isub, 1) := by decide +kernel
theorem dX11_fall_28 : decode cX11_fall 28 = .ok (.invokestatic 110, 3) := by decide +kernel
theorem dX11_fall_31 : decode cX11_fall 31 = .ok (.ifCond .ne 9, 3) := by decide +kernel
theorem dX11_fall_34 : decode cX11_fall 34 = .ok (.aload_n 0, 1) := by decide +kernel
theorem dX11_fall_35 : decode cX11_fall 35 = .ok (.iconst (-1), 1) := by decide +kernel
theorem dX11_fall_36 : decode cX11_fall 36 = .ok (.invokevirtual 114, 3) := by decide +kernel
theorem dX11_fall_39 : decode cX11_fall 39 = .ok (.ireturn, 1) := by decide +kernel
theorem dX11_fall_40 : decode cX11_fall 40 = .ok (.iconst 0, 1) := by decide +kernel
theorem dX11_fall_41 : decode cX11_fall 41 = .ok (.istore_n 2, 1) := by decide +kernel
theorem dX11_fall_42 : decode cX11_fall 42 = .ok (.iload_n 2, 1) := by decide +kernel
theorem dX11_fall_43 : decode cX11_fall 43 = .ok (.bipush 32, 2) := by decide +kernel
theorem dX11_fall_45 : decode cX11_fall 45 = .ok (.if_icmp .ge 31, 3) := by decide +kernel
theorem dX11_fall_48 : decode cX11_fall 48 = .ok (.aload_n 0, 1) := by decide +kernel
theorem dX11_fall_49 : decode cX11_fall 49 = .ok (.getfield 7, 3) := by decide +kernel
theorem dX11_fall_52 : decode cX11_fall 52 = .ok (.iload_n 2, 1) := by decide +kernel
theorem dX11_fall_53 : decode cX11_fall 53 = .ok (.aload_n 0, 1) := by decide +kernel
theorem dX11_fall_54 : decode cX11_fall 54 = .ok (.getfield 37, 3) := by decide +kernel
theorem dX11_fall_57 : decode cX11_fall 57 = .ok (.bipush 32, 2) := by decide +kernel
theorem dX11_fall_59 : decode cX11_fall 59 = .ok (.aload_n 0, 1) := by decide +kernel
theorem dX11_fall_60 : decode cX11_fall 60 = .ok (.getfield 40, 3) := by decide +kernel
theorem dX11_fall_63 : decode cX11_fall 63 = .ok (.iload_n 1, 1) := by decide +kernel
theorem dX11_fall_64 : decode cX11_fall 64 = .ok (.iaload, 1) := by decide +kernel
theorem dX11_fall_65 : decode cX11_fall 65 = .ok (.imul, 1) := by decide +kernel
theorem dX11_fall_66 : decode cX11_fall 66 = .ok (.iload_n 2, 1) := by decide +kernel
theorem dX11_fall_67 : decode cX11_fall 67 = .ok (.iadd, 1) := by decide +kernel
theorem dX11_fall_68 : decode cX11_fall 68 = .ok (.iaload, 1) := by decide +kernel
theorem dX11_fall_69 : decode cX11_fall 69 = .ok (.iastore, 1) := by decide +kernel
theorem dX11_fall_70 : decode cX11_fall 70 = .ok (.iinc 2 1, 3) := by decide +kernel
theorem dX11_fall_73 : decode cX11_fall 73 = .ok (.goto (-31), 3) := by decide +kernel
theorem dX11_fall_76 : decode cX11_fall 76 = .ok (.aload_n 0, 1) := by decide +kernel
theorem dX11_fall_77 : decode cX11_fall 77 = .ok (.getfield 22, 3) := by decide +kernel
theorem dX11_fall_80 : decode cX11_fall 80 = .ok (.iconst 0, 1) := by decide +kernel
theorem dX11_fall_81 : decode cX11_fall 81 = .ok (.iconst 0, 1) := by decide +kernel
theorem dX11_fall_82 : decode cX11_fall 82 = .ok (.iastore, 1) := by decide +kernel
theorem dX11_fall_83 : decode cX11_fall 83 = .ok (.aload_n 0, 1) := by decide +kernel
theorem dX11_fall_84 : decode cX11_fall 84 = .ok (.dup, 1) := by decide +kernel
theorem dX11_fall_85 : decode cX11_fall 85 = .ok (.getfield 164, 3) := by decide +kernel
theorem dX11_fall_88 : decode cX11_fall 88 = .ok (.iconst 1, 1) := by decide +kernel
theorem dX11_fall_89 : decode cX11_fall 89 = .ok (.iadd, 1) := by decide +kernel
theorem dX11_fall_90 : decode cX11_fall 90 = .ok (.putfield 164, 3) := by decide +kernel
theorem dX11_fall_93 : decode cX11_fall 93 = .ok (.iconst 1, 1) := by decide +kernel
theorem dX11_fall_94 : decode cX11_fall 94 = .ok (.ireturn, 1) := by decide +kernel
theorem dX11_fencesOf_0 : decode cX11_fencesOf 0 = .ok (.iload_n 0, 1) := by decide +kernel
theorem dX11_fencesOf_1 : decode cX11_fencesOf 1 = .ok (.iconst 1, 1) := by decide +kernel
theorem dX11_fencesOf_2 : decode cX11_fencesOf 2 = .ok (.if_icmp .ne 7, 3) := by decide +kernel
theorem dX11_fencesOf_5 : decode cX11_fencesOf 5 = .ok (.iconst 4, 1) := by decide +kernel
theorem dX11_fencesOf_6 : decode cX11_fencesOf 6 = .ok (.goto 13, 3) := by decide +kernel
theorem dX11_fencesOf_9 : decode cX11_fencesOf 9 = .ok (.iload_n 0, 1) := by decide +kernel
theorem dX11_fencesOf_10 : decode cX11_fencesOf 10 = .ok (.iconst 2, 1) := by decide +kernel
theorem dX11_fencesOf_11 : decode cX11_fencesOf 11 = .ok (.if_icmp .ne 7, 3) := by decide +kernel
theorem dX11_fencesOf_14 : decode cX11_fencesOf 14 = .ok (.iconst 2, 1) := by decide +kernel
theorem dX11_fencesOf_15 : decode cX11_fencesOf 15 = .ok (.goto 4, 3) := by decide +kernel
theorem dX11_fencesOf_18 : decode cX11_fencesOf 18 = .ok (.iconst 0, 1) := by decide +kernel
theorem dX11_fencesOf_19 : decode cX11_fencesOf 19 = .ok (.ireturn, 1) := by decide +kernel
theorem dX11_format_0 : decode cX11_format 0 = .ok (.iconst 0, 1) := by decide +kernel
theorem dX11_format_1 : decode cX11_format 1 = .ok (.istore_n 3, 1) := by decide +kernel
theorem dX11_format_2 : decode cX11_format 2 = .ok (.iload_n 3, 1) := by decide +kernel
theorem dX11_format_3 : decode cX11_format 3 = .ok (.bipush 32, 2) := by decide +kernel
theorem dX11_format_5 : decode cX11_format 5 = .ok (.if_icmp .ge 21, 3) := by decide +kernel
theorem dX11_format_8 : decode cX11_format 8 = .ok (.aload_n 0, 1) := by decide +kernel
theorem dX11_format_9 : decode cX11_format 9 = .ok (.getfield 7, 3) := by decide +kernel
theorem dX11_format_12 : decode cX11_format 12 = .ok (.bipush 32, 2) := by decide +kernel
theorem dX11_format_14 : decode cX11_format 14 = .ok (.iload_n 1, 1) := by decide +kernel
theorem dX11_format_15 : decode cX11_format 15 = .ok (.imul, 1) := by decide +kernel
theorem dX11_format_16 : decode cX11_format 16 = .ok (.iload_n 3, 1) := by decide +kernel
theorem dX11_format_17 : decode cX11_format 17 = .ok (.iadd, 1) := by decide +kernel
theorem dX11_format_18 : decode cX11_format 18 = .ok (.iconst 0, 1) := by decide +kernel
theorem dX11_format_19 : decode cX11_format 19 = .ok (.iastore, 1) := by decide +kernel
theorem dX11_format_20 : decode cX11_format 20 = .ok (.iinc 3 1, 3) := by decide +kernel
theorem dX11_format_23 : decode cX11_format 23 = .ok (.goto (-21), 3) := by decide +kernel
theorem dX11_format_26 : decode cX11_format 26 = .ok (.iload_n 2, 1) := by decide +kernel
theorem dX11_format_27 : decode cX11_format 27 = .ok (.iconst 2, 1) := by decide +kernel
theorem dX11_format_28 : decode cX11_format 28 = .ok (.if_icmp .ne 30, 3) := by decide +kernel
theorem dX11_format_31 : decode cX11_format 31 = .ok (.aload_n 0, 1) := by decide +kernel
theorem dX11_format_32 : decode cX11_format 32 = .ok (.getfield 7, 3) := by decide +kernel
theorem dX11_format_35 : decode cX11_format 35 = .ok (.bipush 32, 2) := by decide +kernel
theorem dX11_format_37 : decode cX11_format 37 = .ok (.iload_n 1, 1) := by decide +kernel
theorem dX11_format_38 : decode cX11_format 38 = .ok (.imul, 1) := by decide +kernel
theorem dX11_format_39 : decode cX11_format 39 = .ok (.bipush 6, 2) := by decide +kernel
theorem dX11_format_41 : decode cX11_format 41 = .ok (.iadd, 1) := by decide +kernel
theorem dX11_format_42 : decode cX11_format 42 = .ok (.iconst 1, 1) := by decide +kernel
theorem dX11_format_43 : decode cX11_format 43 = .ok (.iastore, 1) := by decide +kernel
theorem dX11_format_44 : decode cX11_format 44 = .ok (.aload_n 0, 1) := by decide +kernel
theorem dX11_format_45 : decode cX11_format 45 = .ok (.getfield 7, 3) := by decide +kernel
theorem dX11_format_48 : decode cX11_format 48 = .ok (.bipush 32, 2) := by decide +kernel
theorem dX11_format_50 : decode cX11_format 50 = .ok (.iload_n 1, 1) := by decide +kernel
theorem dX11_format_51 : decode cX11_format 51 = .ok (.imul, 1) := by decide +kernel
theorem dX11_format_52 : decode cX11_format 52 = .ok (.bipush 7, 2) := by decide +kernel
theorem dX11_format_54 : decode cX11_format 54 = .ok (.iadd, 1) := by decide +kernel
theorem dX11_format_55 : decode cX11_format 55 = .ok (.bipush 38, 2) := by decide +kernel
theorem dX11_format_57 : decode cX11_format 57 = .ok (.iastore, 1) := by decide +kernel
theorem dX11_format_58 : decode cX11_format 58 = .ok (.aload_n 0, 1) := by decide +kernel
theorem dX11_format_59 : decode cX11_format 59 = .ok (.getfield 22, 3) := by decide +kernel
theorem dX11_format_62 : decode cX11_format 62 = .ok (.iload_n 1, 1) := by decide +kernel
theorem dX11_format_63 : decode cX11_format 63 = .ok (.iconst 0, 1) := by decide +kernel
theorem dX11_format_64 : decode cX11_format 64 = .ok (.iastore, 1) := by decide +kernel
theorem dX11_format_65 : decode cX11_format 65 = .ok (.return_, 1) := by decide +kernel
theorem dX11_store_0 : decode cX11_store 0 = .ok (.aload_n 0, 1) := by decide +kernel
theorem dX11_store_1 : decode cX11_store 1 = .ok (.iconst 0, 1) := by decide +kernel
theorem dX11_store_2 : decode cX11_store 2 = .ok (.putfield 104, 3) := by decide +kernel
theorem dX11_store_5 : decode cX11_store 5 = .ok (.iload_n 1, 1) := by decide +kernel
theorem dX11_store_6 : decode cX11_store 6 = .ok (.iconst 0, 1) := by decide +kernel
theorem dX11_store_7 : decode cX11_store 7 = .ok (.iconst 2, 1) := by decide +kernel
theorem dX11_store_8 : decode cX11_store 8 = .ok (.invokestatic 110, 3) := by decide +kernel
theorem dX11_store_11 : decode cX11_store 11 = .ok (.ifCond .ne 10, 3) := by decide +kernel
theorem dX11_store_14 : decode cX11_store 14 = .ok (.aload_n 0, 1) := by decide +kernel
theorem dX11_store_15 : decode cX11_store 15 = .ok (.bipush (-2), 2) := by decide +kernel
theorem dX11_store_17 : decode cX11_store 17 = .ok (.invokevirtual 114, 3) := by decide +kernel
theorem dX11_store_20 : decode cX11_store 20 = .ok (.ireturn, 1) := by decide +kernel
theorem dX11_store_21 : decode cX11_store 21 = .ok (.aload_n 0, 1) := by decide +kernel
theorem dX11_store_22 : decode cX11_store 22 = .ok (.iconst 0, 1) := by decide +kernel
theorem dX11_store_23 : decode cX11_store 23 = .ok (.iload_n 1, 1) := by decide +kernel
theorem dX11_store_24 : decode cX11_store 24 = .ok (.invokevirtual 167, 3) := by decide +kernel
theorem dX11_store_27 : decode cX11_store 27 = .ok (.aload_n 0, 1) := by decide +kernel
theorem dX11_store_28 : decode cX11_store 28 = .ok (.iload_n 1, 1) := by decide +kernel
theorem dX11_store_29 : decode cX11_store 29 = .ok (.putfield 25, 3) := by decide +kernel
theorem dX11_store_32 : decode cX11_store 32 = .ok (.iload_n 1, 1) := by decide +kernel
theorem dX11_store_33 : decode cX11_store 33 = .ok (.invokestatic 170, 3) := by decide +kernel
theorem dX11_store_36 : decode cX11_store 36 = .ok (.ireturn, 1) := by decide +kernel
theorem dX11_high_0 : decode cX11_high 0 = .ok (.lload_n 0, 1) := by decide +kernel
theorem dX11_high_1 : decode cX11_high 1 = .ok (.bipush 32, 2) := by decide +kernel
theorem dX11_high_3 : decode cX11_high 3 = .ok (.lshr, 1) := by decide +kernel
theorem dX11_high_4 : decode cX11_high 4 = .ok (.l2i, 1) := by decide +kernel
theorem dX11_high_5 : decode cX11_high 5 = .ok (.ireturn, 1) := by decide +kernel
theorem dX11_joined_0 : decode cX11_joined 0 = .ok (.iload_n 0, 1) := by decide +kernel
theorem dX11_joined_1 : decode cX11_joined 1 = .ok (.i2l, 1) := by decide +kernel
theorem dX11_joined_2 : decode cX11_joined 2 = .ok (.bipush 32, 2) := by decide +kernel
theorem dX11_joined_4 : decode cX11_joined 4 = .ok (.lshl, 1) := by decide +kernel
theorem dX11_joined_5 : decode cX11_joined 5 = .ok (.iload_n 1, 1) := by decide +kernel
theorem dX11_joined_6 : decode cX11_joined 6 = .ok (.i2l, 1) := by decide +kernel
theorem dX11_joined_7 : decode cX11_joined 7 = .ok (.ldc2_w 173, 3) := by decide +kernel
theorem dX11_joined_10 : decode cX11_joined 10 = .ok (.land, 1) := by decide +kernel
theorem dX11_joined_11 : decode cX11_joined 11 = .ok (.lor, 1) := by decide +kernel
theorem dX11_joined_12 : decode cX11_joined 12 = .ok (.lreturn, 1) := by decide +kernel
theorem dX11_root_0 : decode cX11_root 0 = .ok (.aload_n 0, 1) := by decide +kernel
theorem dX11_root_1 : decode cX11_root 1 = .ok (.iload_n 1, 1) := by decide +kernel
theorem dX11_root_2 : decode cX11_root 2 = .ok (.iload_n 2, 1) := by decide +kernel
theorem dX11_root_3 : decode cX11_root 3 = .ok (.iconst 0, 1) := by decide +kernel
theorem dX11_root_4 : decode cX11_root 4 = .ok (.invokevirtual 129, 3) := by decide +kernel
theorem dX11_root_7 : decode cX11_root 7 = .ok (.istore_n 3, 1) := by decide +kernel
theorem dX11_root_8 : decode cX11_root 8 = .ok (.iload_n 3, 1) := by decide +kernel
theorem dX11_root_9 : decode cX11_root 9 = .ok (.iconst 1, 1) := by decide +kernel
theorem dX11_root_10 : decode cX11_root 10 = .ok (.iand, 1) := by decide +kernel
theorem dX11_root_11 : decode cX11_root 11 = .ok (.iconst 1, 1) := by decide +kernel
theorem dX11_root_12 : decode cX11_root 12 = .ok (.if_icmp .ne 7, 3) := by decide +kernel
theorem dX11_root_15 : decode cX11_root 15 = .ok (.iconst 1, 1) := by decide +kernel
theorem dX11_root_16 : decode cX11_root 16 = .ok (.goto 4, 3) := by decide +kernel
theorem dX11_root_19 : decode cX11_root 19 = .ok (.iconst 0, 1) := by decide +kernel
theorem dX11_root_20 : decode cX11_root 20 = .ok (.istore 4, 2) := by decide +kernel
theorem dX11_root_22 : decode cX11_root 22 = .ok (.iload_n 3, 1) := by decide +kernel
theorem dX11_root_23 : decode cX11_root 23 = .ok (.ifCond .le 39, 3) := by decide +kernel
theorem dX11_root_26 : decode cX11_root 26 = .ok (.iload 4, 2) := by decide +kernel
theorem dX11_root_28 : decode cX11_root 28 = .ok (.iload_n 2, 1) := by decide +kernel
theorem dX11_root_29 : decode cX11_root 29 = .ok (.iconst 3, 1) := by decide +kernel
theorem dX11_root_30 : decode cX11_root 30 = .ok (.if_icmp .ne 7, 3) := by decide +kernel
theorem dX11_root_33 : decode cX11_root 33 = .ok (.iconst 1, 1) := by decide +kernel
theorem dX11_root_34 : decode cX11_root 34 = .ok (.goto 4, 3) := by decide +kernel
theorem dX11_root_37 : decode cX11_root 37 = .ok (.iconst 0, 1) := by decide +kernel
theorem dX11_root_38 : decode cX11_root 38 = .ok (.if_icmp .ne 24, 3) := by decide +kernel
theorem dX11_root_41 : decode cX11_root 41 = .ok (.aload_n 0, 1) := by decide +kernel
theorem dX11_root_42 : decode cX11_root 42 = .ok (.iload_n 1, 1) := by decide +kernel
theorem dX11_root_43 : decode cX11_root 43 = .ok (.iload_n 2, 1) := by decide +kernel
theorem dX11_root_44 : decode cX11_root 44 = .ok (.iconst 1, 1) := by decide +kernel
theorem dX11_root_45 : decode cX11_root 45 = .ok (.invokevirtual 129, 3) := by decide +kernel
theorem dX11_root_48 : decode cX11_root 48 = .ok (.bipush 31, 2) := by decide +kernel
theorem dX11_root_50 : decode cX11_root 50 = .ok (.iload_n 3, 1) := by decide +kernel
theorem dX11_root_51 : decode cX11_root 51 = .ok (.imul, 1) := by decide +kernel
theorem dX11_root_52 : decode cX11_root 52 = .ok (.bipush 7, 2) := by decide +kernel
theorem dX11_root_54 : decode cX11_root 54 = .ok (.iadd, 1) := by decide +kernel
theorem dX11_root_55 : decode cX11_root 55 = .ok (.if_icmp .ne 7, 3) := by decide +kernel
theorem dX11_root_58 : decode cX11_root 58 = .ok (.iload_n 3, 1) := by decide +kernel
theorem dX11_root_59 : decode cX11_root 59 = .ok (.goto 4, 3) := by decide +kernel
theorem dX11_root_62 : decode cX11_root 62 = .ok (.iconst 0, 1) := by decide +kernel
theorem dX11_root_63 : decode cX11_root 63 = .ok (.ireturn, 1) := by decide +kernel
theorem dX11_version_0 : decode cX11_version 0 = .ok (.aload_n 0, 1) := by decide +kernel
theorem dX11_version_1 : decode cX11_version 1 = .ok (.iload_n 1, 1) := by decide +kernel
theorem dX11_version_2 : decode cX11_version 2 = .ok (.iconst 3, 1) := by decide +kernel
theorem dX11_version_3 : decode cX11_version 3 = .ok (.invokevirtual 175, 3) := by decide +kernel
theorem dX11_version_6 : decode cX11_version 6 = .ok (.istore_n 2, 1) := by decide +kernel
theorem dX11_version_7 : decode cX11_version 7 = .ok (.aload_n 0, 1) := by decide +kernel
theorem dX11_version_8 : decode cX11_version 8 = .ok (.iload_n 1, 1) := by decide +kernel
theorem dX11_version_9 : decode cX11_version 9 = .ok (.bipush 7, 2) := by decide +kernel
theorem dX11_version_11 : decode cX11_version 11 = .ok (.invokevirtual 175, 3) := by decide +kernel
theorem dX11_version_14 : decode cX11_version 14 = .ok (.istore_n 3, 1) := by decide +kernel
theorem dX11_version_15 : decode cX11_version 15 = .ok (.iload_n 2, 1) := by decide +kernel
theorem dX11_version_16 : decode cX11_version 16 = .ok (.iload_n 3, 1) := by decide +kernel
theorem dX11_version_17 : decode cX11_version 17 = .ok (.if_icmp .le 7, 3) := by decide +kernel
theorem dX11_version_20 : decode cX11_version 20 = .ok (.iload_n 2, 1) := by decide +kernel
theorem dX11_version_21 : decode cX11_version 21 = .ok (.goto 4, 3) := by decide +kernel
theorem dX11_version_24 : decode cX11_version 24 = .ok (.iload_n 3, 1) := by decide +kernel
theorem dX11_version_25 : decode cX11_version 25 = .ok (.ireturn, 1) := by decide +kernel
theorem dX11_placeOf_0 : decode cX11_placeOf 0 = .ok (.iload_n 1, 1) := by decide +kernel
theorem dX11_placeOf_1 : decode cX11_placeOf 1 = .ok (.iconst 1, 1) := by decide +kernel
theorem dX11_placeOf_2 : decode cX11_placeOf 2 = .ok (.iand, 1) := by decide +kernel
theorem dX11_placeOf_3 : decode cX11_placeOf 3 = .ok (.iconst 1, 1) := by decide +kernel
theorem dX11_placeOf_4 : decode cX11_placeOf 4 = .ok (.if_icmp .ne 7, 3) := by decide +kernel
theorem dX11_placeOf_7 : decode cX11_placeOf 7 = .ok (.iload_n 0, 1) := by decide +kernel
theorem dX11_placeOf_8 : decode cX11_placeOf 8 = .ok (.goto 6, 3) := by decide +kernel
theorem dX11_placeOf_11 : decode cX11_placeOf 11 = .ok (.iconst 4, 1) := by decide +kernel
theorem dX11_placeOf_12 : decode cX11_placeOf 12 = .ok (.iload_n 0, 1) := by decide +kernel
theorem dX11_placeOf_13 : decode cX11_placeOf 13 = .ok (.iadd, 1) := by decide +kernel
theorem dX11_placeOf_14 : decode cX11_placeOf 14 = .ok (.ireturn, 1) := by decide +kernel
theorem dX11_keyOf_0 : decode cX11_keyOf 0 = .ok (.iload_n 2, 1) := by decide +kernel
theorem dX11_keyOf_1 : decode cX11_keyOf 1 = .ok (.iconst 2, 1) := by decide +kernel
theorem dX11_keyOf_2 : decode cX11_keyOf 2 = .ok (.if_icmp .ne 11, 3) := by decide +kernel
theorem dX11_keyOf_5 : decode cX11_keyOf 5 = .ok (.aload_n 0, 1) := by decide +kernel
theorem dX11_keyOf_6 : decode cX11_keyOf 6 = .ok (.iload_n 1, 1) := by decide +kernel
theorem dX11_keyOf_7 : decode cX11_keyOf 7 = .ok (.invokevirtual 178, 3) := by decide +kernel
theorem dX11_keyOf_10 : decode cX11_keyOf 10 = .ok (.goto 4, 3) := by decide +kernel
theorem dX11_keyOf_13 : decode cX11_keyOf 13 = .ok (.iconst 1, 1) := by decide +kernel
theorem dX11_keyOf_14 : decode cX11_keyOf 14 = .ok (.istore 4, 2) := by decide +kernel
theorem dX11_keyOf_16 : decode cX11_keyOf 16 = .ok (.iload 4, 2) := by decide +kernel
theorem dX11_keyOf_18 : decode cX11_keyOf 18 = .ok (.ifCond .ne 5, 3) := by decide +kernel
theorem dX11_keyOf_21 : decode cX11_keyOf 21 = .ok (.lconst 0, 1) := by decide +kernel
theorem dX11_keyOf_22 : decode cX11_keyOf 22 = .ok (.lreturn, 1) := by decide +kernel
theorem dX11_keyOf_23 : decode cX11_keyOf 23 = .ok (.iload_n 3, 1) := by decide +kernel
theorem dX11_keyOf_24 : decode cX11_keyOf 24 = .ok (.iload 4, 2) := by decide +kernel
theorem dX11_keyOf_26 : decode cX11_keyOf 26 = .ok (.invokestatic 181, 3) := by decide +kernel
theorem dX11_keyOf_29 : decode cX11_keyOf 29 = .ok (.istore 5, 2) := by decide +kernel
theorem dX11_keyOf_31 : decode cX11_keyOf 31 = .ok (.aload_n 0, 1) := by decide +kernel
theorem dX11_keyOf_32 : decode cX11_keyOf 32 = .ok (.iload_n 1, 1) := by decide +kernel
theorem dX11_keyOf_33 : decode cX11_keyOf 33 = .ok (.iload 5, 2) := by decide +kernel
theorem dX11_keyOf_35 : decode cX11_keyOf 35 = .ok (.iconst 0, 1) := by decide +kernel
theorem dX11_keyOf_36 : decode cX11_keyOf 36 = .ok (.invokevirtual 129, 3) := by decide +kernel
theorem dX11_keyOf_39 : decode cX11_keyOf 39 = .ok (.aload_n 0, 1) := by decide +kernel
theorem dX11_keyOf_40 : decode cX11_keyOf 40 = .ok (.iload_n 1, 1) := by decide +kernel
theorem dX11_keyOf_41 : decode cX11_keyOf 41 = .ok (.iload 5, 2) := by decide +kernel
theorem dX11_keyOf_43 : decode cX11_keyOf 43 = .ok (.iconst 1, 1) := by decide +kernel
theorem dX11_keyOf_44 : decode cX11_keyOf 44 = .ok (.invokevirtual 129, 3) := by decide +kernel
theorem dX11_keyOf_47 : decode cX11_keyOf 47 = .ok (.invokestatic 184, 3) := by decide +kernel
theorem dX11_keyOf_50 : decode cX11_keyOf 50 = .ok (.lreturn, 1) := by decide +kernel
theorem dX11_sum_0 : decode cX11_sum 0 = .ok (.bipush 31, 2) := by decide +kernel
theorem dX11_sum_2 : decode cX11_sum 2 = .ok (.iload_n 0, 1) := by decide +kernel
theorem dX11_sum_3 : decode cX11_sum 3 = .ok (.imul, 1) := by decide +kernel
theorem dX11_sum_4 : decode cX11_sum 4 = .ok (.iload_n 1, 1) := by decide +kernel
theorem dX11_sum_5 : decode cX11_sum 5 = .ok (.iadd, 1) := by decide +kernel
theorem dX11_sum_6 : decode cX11_sum 6 = .ok (.istore 7, 2) := by decide +kernel
theorem dX11_sum_8 : decode cX11_sum 8 = .ok (.bipush 31, 2) := by decide +kernel
theorem dX11_sum_10 : decode cX11_sum 10 = .ok (.iload 7, 2) := by decide +kernel
theorem dX11_sum_12 : decode cX11_sum 12 = .ok (.imul, 1) := by decide +kernel
theorem dX11_sum_13 : decode cX11_sum 13 = .ok (.iload_n 2, 1) := by decide +kernel
theorem dX11_sum_14 : decode cX11_sum 14 = .ok (.iadd, 1) := by decide +kernel
theorem dX11_sum_15 : decode cX11_sum 15 = .ok (.istore 7, 2) := by decide +kernel
theorem dX11_sum_17 : decode cX11_sum 17 = .ok (.bipush 31, 2) := by decide +kernel
theorem dX11_sum_19 : decode cX11_sum 19 = .ok (.iload 7, 2) := by decide +kernel
theorem dX11_sum_21 : decode cX11_sum 21 = .ok (.imul, 1) := by decide +kernel
theorem dX11_sum_22 : decode cX11_sum 22 = .ok (.iload_n 3, 1) := by decide +kernel
theorem dX11_sum_23 : decode cX11_sum 23 = .ok (.iadd, 1) := by decide +kernel
theorem dX11_sum_24 : decode cX11_sum 24 = .ok (.istore 7, 2) := by decide +kernel
theorem dX11_sum_26 : decode cX11_sum 26 = .ok (.bipush 31, 2) := by decide +kernel
theorem dX11_sum_28 : decode cX11_sum 28 = .ok (.iload 7, 2) := by decide +kernel
theorem dX11_sum_30 : decode cX11_sum 30 = .ok (.imul, 1) := by decide +kernel
theorem dX11_sum_31 : decode cX11_sum 31 = .ok (.iload 4, 2) := by decide +kernel
theorem dX11_sum_33 : decode cX11_sum 33 = .ok (.iadd, 1) := by decide +kernel
theorem dX11_sum_34 : decode cX11_sum 34 = .ok (.istore 7, 2) := by decide +kernel
theorem dX11_sum_36 : decode cX11_sum 36 = .ok (.bipush 31, 2) := by decide +kernel
theorem dX11_sum_38 : decode cX11_sum 38 = .ok (.iload 7, 2) := by decide +kernel
theorem dX11_sum_40 : decode cX11_sum 40 = .ok (.imul, 1) := by decide +kernel
theorem dX11_sum_41 : decode cX11_sum 41 = .ok (.iload 5, 2) := by decide +kernel
theorem dX11_sum_43 : decode cX11_sum 43 = .ok (.iadd, 1) := by decide +kernel
theorem dX11_sum_44 : decode cX11_sum 44 = .ok (.istore 7, 2) := by decide +kernel
theorem dX11_sum_46 : decode cX11_sum 46 = .ok (.iconst 2, 1) := by decide +kernel
theorem dX11_sum_47 : decode cX11_sum 47 = .ok (.bipush 31, 2) := by decide +kernel
theorem dX11_sum_49 : decode cX11_sum 49 = .ok (.iload 7, 2) := by decide +kernel
theorem dX11_sum_51 : decode cX11_sum 51 = .ok (.imul, 1) := by decide +kernel
theorem dX11_sum_52 : decode cX11_sum 52 = .ok (.iload 6, 2) := by decide +kernel
theorem dX11_sum_54 : decode cX11_sum 54 = .ok (.iadd, 1) := by decide +kernel
theorem dX11_sum_55 : decode cX11_sum 55 = .ok (.imul, 1) := by decide +kernel
theorem dX11_sum_56 : decode cX11_sum 56 = .ok (.iconst 1, 1) := by decide +kernel
theorem dX11_sum_57 : decode cX11_sum 57 = .ok (.iadd, 1) := by decide +kernel
theorem dX11_sum_58 : decode cX11_sum 58 = .ok (.ireturn, 1) := by decide +kernel
theorem dX11_plan_0 : decode cX11_plan 0 = .ok (.aload_n 0, 1) := by decide +kernel
theorem dX11_plan_1 : decode cX11_plan 1 = .ok (.getfield 55, 3) := by decide +kernel
theorem dX11_plan_4 : decode cX11_plan 4 = .ok (.aload_n 0, 1) := by decide +kernel
theorem dX11_plan_5 : decode cX11_plan 5 = .ok (.getfield 188, 3) := by decide +kernel
theorem dX11_plan_8 : decode cX11_plan 8 = .ok (.iload_n 1, 1) := by decide +kernel
theorem dX11_plan_9 : decode cX11_plan 9 = .ok (.iastore, 1) := by decide +kernel
theorem dX11_plan_10 : decode cX11_plan 10 = .ok (.aload_n 0, 1) := by decide +kernel
theorem dX11_plan_11 : decode cX11_plan 11 = .ok (.getfield 58, 3) := by decide +kernel
theorem dX11_plan_14 : decode cX11_plan 14 = .ok (.aload_n 0, 1) := by decide +kernel
theorem dX11_plan_15 : decode cX11_plan 15 = .ok (.getfield 188, 3) := by decide +kernel
theorem dX11_plan_18 : decode cX11_plan 18 = .ok (.iload_n 2, 1) := by decide +kernel
theorem dX11_plan_19 : decode cX11_plan 19 = .ok (.iastore, 1) := by decide +kernel
theorem dX11_plan_20 : decode cX11_plan 20 = .ok (.aload_n 0, 1) := by decide +kernel
theorem dX11_plan_21 : decode cX11_plan 21 = .ok (.getfield 61, 3) := by decide +kernel
theorem dX11_plan_24 : decode cX11_plan 24 = .ok (.aload_n 0, 1) := by decide +kernel
theorem dX11_plan_25 : decode cX11_plan 25 = .ok (.getfield 188, 3) := by decide +kernel
theorem dX11_plan_28 : decode cX11_plan 28 = .ok (.iload_n 3, 1) := by decide +kernel
theorem dX11_plan_29 : decode cX11_plan 29 = .ok (.iastore, 1) := by decide +kernel
theorem dX11_plan_30 : decode cX11_plan 30 = .ok (.aload_n 0, 1) := by decide +kernel
theorem dX11_plan_31 : decode cX11_plan 31 = .ok (.dup, 1) := by decide +kernel
theorem dX11_plan_32 : decode cX11_plan 32 = .ok (.getfield 188, 3) := by decide +kernel
theorem dX11_plan_35 : decode cX11_plan 35 = .ok (.iconst 1, 1) := by decide +kernel
theorem dX11_plan_36 : decode cX11_plan 36 = .ok (.iadd, 1) := by decide +kernel
theorem dX11_plan_37 : decode cX11_plan 37 = .ok (.putfield 188, 3) := by decide +kernel
theorem dX11_plan_40 : decode cX11_plan 40 = .ok (.return_, 1) := by decide +kernel
theorem dX11_planFence_0 : decode cX11_planFence 0 = .ok (.aload_n 0, 1) := by decide +kernel
theorem dX11_planFence_1 : decode cX11_planFence 1 = .ok (.getfield 29, 3) := by decide +kernel
theorem dX11_planFence_4 : decode cX11_planFence 4 = .ok (.iconst 4, 1) := by decide +kernel
theorem dX11_planFence_5 : decode cX11_planFence 5 = .ok (.iload_n 1, 1) := by decide +kernel
theorem dX11_planFence_6 : decode cX11_planFence 6 = .ok (.imul, 1) := by decide +kernel
theorem dX11_planFence_7 : decode cX11_planFence 7 = .ok (.iload_n 2, 1) := by decide +kernel
theorem dX11_planFence_8 : decode cX11_planFence 8 = .ok (.iadd, 1) := by decide +kernel
theorem dX11_planFence_9 : decode cX11_planFence 9 = .ok (.baload, 1) := by decide +kernel
theorem dX11_planFence_10 : decode cX11_planFence 10 = .ok (.ifCond .ne 10, 3) := by decide +kernel
theorem dX11_planFence_13 : decode cX11_planFence 13 = .ok (.aload_n 0, 1) := by decide +kernel
theorem dX11_planFence_14 : decode cX11_planFence 14 = .ok (.iconst (-1), 1) := by decide +kernel
theorem dX11_planFence_15 : decode cX11_planFence 15 = .ok (.iconst 0, 1) := by decide +kernel
theorem dX11_planFence_16 : decode cX11_planFence 16 = .ok (.iconst 0, 1) := by decide +kernel
theorem dX11_planFence_17 : decode cX11_planFence 17 = .ok (.invokevirtual 191, 3) := by decide +kernel
theorem dX11_planFence_20 : decode cX11_planFence 20 = .ok (.return_, 1) := by decide +kernel
theorem dX11_planEnd_0 : decode cX11_planEnd 0 = .ok (.aload_n 0, 1) := by decide +kernel
theorem dX11_planEnd_1 : decode cX11_planEnd 1 = .ok (.iload_n 1, 1) := by decide +kernel
theorem dX11_planEnd_2 : decode cX11_planEnd 2 = .ok (.iconst 2, 1) := by decide +kernel
theorem dX11_planEnd_3 : decode cX11_planEnd 3 = .ok (.invokevirtual 195, 3) := by decide +kernel
theorem dX11_planEnd_6 : decode cX11_planEnd 6 = .ok (.aload_n 0, 1) := by decide +kernel
theorem dX11_planEnd_7 : decode cX11_planEnd 7 = .ok (.iconst 3, 1) := by decide +kernel
theorem dX11_planEnd_8 : decode cX11_planEnd 8 = .ok (.iconst 0, 1) := by decide +kernel
theorem dX11_planEnd_9 : decode cX11_planEnd 9 = .ok (.iconst 0, 1) := by decide +kernel
theorem dX11_planEnd_10 : decode cX11_planEnd 10 = .ok (.invokevirtual 191, 3) := by decide +kernel
theorem dX11_planEnd_13 : decode cX11_planEnd 13 = .ok (.aload_n 0, 1) := by decide +kernel
theorem dX11_planEnd_14 : decode cX11_planEnd 14 = .ok (.iload_n 1, 1) := by decide +kernel
theorem dX11_planEnd_15 : decode cX11_planEnd 15 = .ok (.iconst 3, 1) := by decide +kernel
theorem dX11_planEnd_16 : decode cX11_planEnd 16 = .ok (.invokevirtual 195, 3) := by decide +kernel
theorem dX11_planEnd_19 : decode cX11_planEnd 19 = .ok (.return_, 1) := by decide +kernel
theorem dX11_planChange_0 : decode cX11_planChange 0 = .ok (.aload_n 0, 1) := by decide +kernel
theorem dX11_planChange_1 : decode cX11_planChange 1 = .ok (.iconst 0, 1) := by decide +kernel
theorem dX11_planChange_2 : decode cX11_planChange 2 = .ok (.putfield 188, 3) := by decide +kernel
theorem dX11_planChange_5 : decode cX11_planChange 5 = .ok (.iload 6, 2) := by decide +kernel
theorem dX11_planChange_7 : decode cX11_planChange 7 = .ok (.bipush (-9), 2) := by decide +kernel
theorem dX11_planChange_9 : decode cX11_planChange 9 = .ok (.if_icmp .eq 7, 3) := by decide +kernel
theorem dX11_planChange_12 : decode cX11_planChange 12 = .ok (.iconst 1, 1) := by decide +kernel
theorem dX11_planChange_13 : decode cX11_planChange 13 = .ok (.goto 4, 3) := by decide +kernel
theorem dX11_planChange_16 : decode cX11_planChange 16 = .ok (.iconst 0, 1) := by decide +kernel
theorem dX11_planChange_17 : decode cX11_planChange 17 = .ok (.istore 9, 2) := by decide +kernel
theorem dX11_planChange_19 : decode cX11_planChange 19 = .ok (.iload_n 2, 1) := by decide +kernel
theorem dX11_planChange_20 : decode cX11_planChange 20 = .ok (.ifCond .ne 38, 3) := by decide +kernel
theorem dX11_planChange_23 : decode cX11_planChange 23 = .ok (.aload_n 0, 1) := by decide +kernel
theorem dX11_planChange_24 : decode cX11_planChange 24 = .ok (.iload_n 3, 1) := by decide +kernel
theorem dX11_planChange_25 : decode cX11_planChange 25 = .ok (.lload 4, 2) := by decide +kernel
theorem dX11_planChange_27 : decode cX11_planChange 27 = .ok (.invokestatic 198, 3) := by decide +kernel
theorem dX11_planChange_30 : decode cX11_planChange 30 = .ok (.lload 4, 2) := by decide +kernel
theorem dX11_planChange_32 : decode cX11_planChange 32 = .ok (.l2i, 1) := by decide +kernel
theorem dX11_planChange_33 : decode cX11_planChange 33 = .ok (.invokevirtual 191, 3) := by decide +kernel
theorem dX11_planChange_36 : decode cX11_planChange 36 = .ok (.iload 9, 2) := by decide +kernel
theorem dX11_planChange_38 : decode cX11_planChange 38 = .ok (.ifCond .eq 302, 3) := by decide +kernel
theorem dX11_planChange_41 : decode cX11_planChange 41 = .ok (.aload_n 0, 1) := by decide +kernel
theorem dX11_planChange_42 : decode cX11_planChange 42 = .ok (.iload 6, 2) := by decide +kernel
theorem dX11_planChange_44 : decode cX11_planChange 44 = .ok (.lload 7, 2) := by decide +kernel
theorem dX11_planChange_46 : decode cX11_planChange 46 = .ok (.invokestatic 198, 3) := by decide +kernel
theorem dX11_planChange_49 : decode cX11_planChange 49 = .ok (.lload 7, 2) := by decide +kernel
theorem dX11_planChange_51 : decode cX11_planChange 51 = .ok (.l2i, 1) := by decide +kernel
theorem dX11_planChange_52 : decode cX11_planChange 52 = .ok (.invokevirtual 191, 3) := by decide +kernel
theorem dX11_planChange_55 : decode cX11_planChange 55 = .ok (.goto 285, 3) := by decide +kernel
theorem dX11_planChange_58 : decode cX11_planChange 58 = .ok (.iload_n 2, 1) := by decide +kernel
theorem dX11_planChange_59 : decode cX11_planChange 59 = .ok (.iconst 1, 1) := by decide +kernel
theorem dX11_planChange_60 : decode cX11_planChange 60 = .ok (.if_icmp .ne 164, 3) := by decide +kernel
theorem dX11_planChange_63 : decode cX11_planChange 63 = .ok (.iload 9, 2) := by decide +kernel
theorem dX11_planChange_65 : decode cX11_planChange 65 = .ok (.ifCond .eq 7, 3) := by decide +kernel
theorem dX11_planChange_68 : decode cX11_planChange 68 = .ok (.iconst 2, 1) := by decide +kernel
theorem dX11_planChange_69 : decode cX11_planChange 69 = .ok (.goto 4, 3) := by decide +kernel
theorem dX11_planChange_72 : decode cX11_planChange 72 = .ok (.iconst 1, 1) := by decide +kernel
theorem dX11_planChange_73 : decode cX11_planChange 73 = .ok (.istore 10, 2) := by decide +kernel
theorem dX11_planChange_75 : decode cX11_planChange 75 = .ok (.iload 9, 2) := by decide +kernel
theorem dX11_planChange_77 : decode cX11_planChange 77 = .ok (.ifCond .eq 8, 3) := by decide +kernel
theorem dX11_planChange_80 : decode cX11_planChange 80 = .ok (.iload 6, 2) := by decide +kernel
theorem dX11_planChange_82 : decode cX11_planChange 82 = .ok (.goto 4, 3) := by decide +kernel
theorem dX11_planChange_85 : decode cX11_planChange 85 = .ok (.iconst (-1), 1) := by decide +kernel
theorem dX11_planChange_86 : decode cX11_planChange 86 = .ok (.istore 11, 2) := by decide +kernel
theorem dX11_planChange_88 : decode cX11_planChange 88 = .ok (.iload 9, 2) := by decide +kernel
theorem dX11_planChange_90 : decode cX11_planChange 90 = .ok (.ifCond .eq 11, 3) := by decide +kernel
theorem dX11_planChange_93 : decode cX11_planChange 93 = .ok (.lload 7, 2) := by decide +kernel
theorem dX11_planChange_95 : decode cX11_planChange 95 = .ok (.invokestatic 198, 3) := by decide +kernel
theorem dX11_planChange_98 : decode cX11_planChange 98 = .ok (.goto 4, 3) := by decide +kernel
theorem dX11_planChange_101 : decode cX11_planChange 101 = .ok (.iconst 0, 1) := by decide +kernel
theorem dX11_planChange_102 : decode cX11_planChange 102 = .ok (.istore 12, 2) := by decide +kernel
theorem dX11_planChange_104 : decode cX11_planChange 104 = .ok (.iload 9, 2) := by decide +kernel
theorem dX11_planChange_106 : decode cX11_planChange 106 = .ok (.ifCond .eq 9, 3) := by decide +kernel
theorem dX11_planChange_109 : decode cX11_planChange 109 = .ok (.lload 7, 2) := by decide +kernel
theorem dX11_planChange_111 : decode cX11_planChange 111 = .ok (.l2i, 1) := by decide +kernel
theorem dX11_planChange_112 : decode cX11_planChange 112 = .ok (.goto 4, 3) := by decide +kernel
theorem dX11_planChange_115 : decode cX11_planChange 115 = .ok (.iconst 0, 1) := by decide +kernel
theorem dX11_planChange_116 : decode cX11_planChange 116 = .ok (.istore 13, 2) := by decide +kernel
theorem dX11_planChange_118 : decode cX11_planChange 118 = .ok (.aload_n 0, 1) := by decide +kernel
theorem dX11_planChange_119 : decode cX11_planChange 119 = .ok (.iconst 4, 1) := by decide +kernel
theorem dX11_planChange_120 : decode cX11_planChange 120 = .ok (.iload_n 3, 1) := by decide +kernel
theorem dX11_planChange_121 : decode cX11_planChange 121 = .ok (.lload 4, 2) := by decide +kernel
theorem dX11_planChange_123 : decode cX11_planChange 123 = .ok (.invokestatic 198, 3) := by decide +kernel
theorem dX11_planChange_126 : decode cX11_planChange 126 = .ok (.invokevirtual 191, 3) := by decide +kernel
theorem dX11_planChange_129 : decode cX11_planChange 129 = .ok (.aload_n 0, 1) := by decide +kernel
theorem dX11_planChange_130 : decode cX11_planChange 130 = .ok (.iconst 5, 1) := by decide +kernel
theorem dX11_planChange_131 : decode cX11_planChange 131 = .ok (.lload 4, 2) := by decide +kernel
theorem dX11_planChange_133 : decode cX11_planChange 133 = .ok (.l2i, 1) := by decide +kernel
theorem dX11_planChange_134 : decode cX11_planChange 134 = .ok (.iload 11, 2) := by decide +kernel
theorem dX11_planChange_136 : decode cX11_planChange 136 = .ok (.invokevirtual 191, 3) := by decide +kernel
theorem dX11_planChange_139 : decode cX11_planChange 139 = .ok (.aload_n 0, 1) := by decide +kernel
