theorem dT_init_0 : decode cT_init 0 = .ok (.aload_n 0, 1) := by decide +kernel
theorem dT_init_1 : decode cT_init 1 = .ok (.invokespecial 1, 3) := by decide +kernel
theorem dT_init_4 : decode cT_init 4 = .ok (.aload_n 0, 1) := by decide +kernel
theorem dT_init_5 : decode cT_init 5 = .ok (.new 7, 3) := by decide +kernel
theorem dT_init_8 : decode cT_init 8 = .ok (.dup, 1) := by decide +kernel
theorem dT_init_9 : decode cT_init 9 = .ok (.iconst 1, 1) := by decide +kernel
theorem dT_init_10 : decode cT_init 10 = .ok (.invokespecial 9, 3) := by decide +kernel
theorem dT_init_13 : decode cT_init 13 = .ok (.putfield 12, 3) := by decide +kernel
theorem dT_init_16 : decode cT_init 16 = .ok (.aload_n 0, 1) := by decide +kernel
theorem dT_init_17 : decode cT_init 17 = .ok (.new 7, 3) := by decide +kernel
theorem dT_init_20 : decode cT_init 20 = .ok (.dup, 1) := by decide +kernel
theorem dT_init_21 : decode cT_init 21 = .ok (.iconst 0, 1) := by decide +kernel
theorem dT_init_22 : decode cT_init 22 = .ok (.invokespecial 9, 3) := by decide +kernel
theorem dT_init_25 : decode cT_init 25 = .ok (.putfield 18, 3) := by decide +kernel
theorem dT_init_28 : decode cT_init 28 = .ok (.aload_n 0, 1) := by decide +kernel
theorem dT_init_29 : decode cT_init 29 = .ok (.iconst 3, 1) := by decide +kernel
theorem dT_init_30 : decode cT_init 30 = .ok (.anewarray 21, 3) := by decide +kernel
theorem dT_init_33 : decode cT_init 33 = .ok (.dup, 1) := by decide +kernel
theorem dT_init_34 : decode cT_init 34 = .ok (.iconst 0, 1) := by decide +kernel
theorem dT_init_35 : decode cT_init 35 = .ok (.new 21, 3) := by decide +kernel
theorem dT_init_38 : decode cT_init 38 = .ok (.dup, 1) := by decide +kernel
theorem dT_init_39 : decode cT_init 39 = .ok (.invokespecial 23, 3) := by decide +kernel
theorem dT_init_42 : decode cT_init 42 = .ok (.aastore, 1) := by decide +kernel
theorem dT_init_43 : decode cT_init 43 = .ok (.dup, 1) := by decide +kernel
theorem dT_init_44 : decode cT_init 44 = .ok (.iconst 1, 1) := by decide +kernel
theorem dT_init_45 : decode cT_init 45 = .ok (.new 21, 3) := by decide +kernel
theorem dT_init_48 : decode cT_init 48 = .ok (.dup, 1) := by decide +kernel
theorem dT_init_49 : decode cT_init 49 = .ok (.invokespecial 23, 3) := by decide +kernel
theorem dT_init_52 : decode cT_init 52 = .ok (.aastore, 1) := by decide +kernel
theorem dT_init_53 : decode cT_init 53 = .ok (.dup, 1) := by decide +kernel
theorem dT_init_54 : decode cT_init 54 = .ok (.iconst 2, 1) := by decide +kernel
theorem dT_init_55 : decode cT_init 55 = .ok (.new 21, 3) := by decide +kernel
theorem dT_init_58 : decode cT_init 58 = .ok (.dup, 1) := by decide +kernel
theorem dT_init_59 : decode cT_init 59 = .ok (.invokespecial 23, 3) := by decide +kernel
theorem dT_init_62 : decode cT_init 62 = .ok (.aastore, 1) := by decide +kernel
theorem dT_init_63 : decode cT_init 63 = .ok (.putfield 24, 3) := by decide +kernel
theorem dT_init_66 : decode cT_init 66 = .ok (.return_, 1) := by decide +kernel
theorem dT_write_0 : decode cT_write 0 = .ok (.iload_n 1, 1) := by decide +kernel
theorem dT_write_1 : decode cT_write 1 = .ok (.invokestatic 28, 3) := by decide +kernel
theorem dT_write_4 : decode cT_write 4 = .ok (.ifCond .eq 14, 3) := by decide +kernel
theorem dT_write_7 : decode cT_write 7 = .ok (.iload_n 2, 1) := by decide +kernel
theorem dT_write_8 : decode cT_write 8 = .ok (.ifCond .lt 10, 3) := by decide +kernel
theorem dT_write_11 : decode cT_write 11 = .ok (.iload_n 2, 1) := by decide +kernel
theorem dT_write_12 : decode cT_write 12 = .ok (.sipush 255, 3) := by decide +kernel
theorem dT_write_15 : decode cT_write 15 = .ok (.if_icmp .le 11, 3) := by decide +kernel
theorem dT_write_18 : decode cT_write 18 = .ok (.new 32, 3) := by decide +kernel
theorem dT_write_21 : decode cT_write 21 = .ok (.dup, 1) := by decide +kernel
theorem dT_write_22 : decode cT_write 22 = .ok (.invokespecial 34, 3) := by decide +kernel
theorem dT_write_25 : decode cT_write 25 = .ok (.athrow, 1) := by decide +kernel
theorem dT_write_26 : decode cT_write 26 = .ok (.iload_n 1, 1) := by decide +kernel
theorem dT_write_27 : decode cT_write 27 = .ok (.invokestatic 35, 3) := by decide +kernel
theorem dT_write_30 : decode cT_write 30 = .ok (.ifCond .eq 15, 3) := by decide +kernel
theorem dT_write_33 : decode cT_write 33 = .ok (.aload_n 0, 1) := by decide +kernel
theorem dT_write_34 : decode cT_write 34 = .ok (.iload_n 1, 1) := by decide +kernel
theorem dT_write_35 : decode cT_write 35 = .ok (.invokevirtual 38, 3) := by decide +kernel
theorem dT_write_38 : decode cT_write 38 = .ok (.iload_n 2, 1) := by decide +kernel
theorem dT_write_39 : decode cT_write 39 = .ok (.invokevirtual 42, 3) := by decide +kernel
theorem dT_write_42 : decode cT_write 42 = .ok (.goto 48, 3) := by decide +kernel
theorem dT_write_45 : decode cT_write 45 = .ok (.iload_n 1, 1) := by decide +kernel
theorem dT_write_46 : decode cT_write 46 = .ok (.bipush 7, 2) := by decide +kernel
theorem dT_write_48 : decode cT_write 48 = .ok (.if_icmp .ne 11, 3) := by decide +kernel
theorem dT_write_51 : decode cT_write 51 = .ok (.aload_n 0, 1) := by decide +kernel
theorem dT_write_52 : decode cT_write 52 = .ok (.iload_n 2, 1) := by decide +kernel
theorem dT_write_53 : decode cT_write 53 = .ok (.invokevirtual 46, 3) := by decide +kernel
theorem dT_write_56 : decode cT_write 56 = .ok (.goto 34, 3) := by decide +kernel
theorem dT_write_59 : decode cT_write 59 = .ok (.iload_n 1, 1) := by decide +kernel
theorem dT_write_60 : decode cT_write 60 = .ok (.iconst 1, 1) := by decide +kernel
theorem dT_write_61 : decode cT_write 61 = .ok (.iand, 1) := by decide +kernel
theorem dT_write_62 : decode cT_write 62 = .ok (.ifCond .ne 17, 3) := by decide +kernel
theorem dT_write_65 : decode cT_write 65 = .ok (.aload_n 0, 1) := by decide +kernel
theorem dT_write_66 : decode cT_write 66 = .ok (.iload_n 1, 1) := by decide +kernel
theorem dT_write_67 : decode cT_write 67 = .ok (.iconst 1, 1) := by decide +kernel
theorem dT_write_68 : decode cT_write 68 = .ok (.ishr, 1) := by decide +kernel
theorem dT_write_69 : decode cT_write 69 = .ok (.invokevirtual 49, 3) := by decide +kernel
theorem dT_write_72 : decode cT_write 72 = .ok (.iload_n 2, 1) := by decide +kernel
theorem dT_write_73 : decode cT_write 73 = .ok (.invokevirtual 53, 3) := by decide +kernel
theorem dT_write_76 : decode cT_write 76 = .ok (.goto 14, 3) := by decide +kernel
theorem dT_write_79 : decode cT_write 79 = .ok (.aload_n 0, 1) := by decide +kernel
theorem dT_write_80 : decode cT_write 80 = .ok (.iload_n 1, 1) := by decide +kernel
theorem dT_write_81 : decode cT_write 81 = .ok (.iconst 1, 1) := by decide +kernel
theorem dT_write_82 : decode cT_write 82 = .ok (.ishr, 1) := by decide +kernel
theorem dT_write_83 : decode cT_write 83 = .ok (.invokevirtual 49, 3) := by decide +kernel
theorem dT_write_86 : decode cT_write 86 = .ok (.iload_n 2, 1) := by decide +kernel
theorem dT_write_87 : decode cT_write 87 = .ok (.invokevirtual 56, 3) := by decide +kernel
theorem dT_write_90 : decode cT_write 90 = .ok (.aload_n 0, 1) := by decide +kernel
theorem dT_write_91 : decode cT_write 91 = .ok (.invokevirtual 59, 3) := by decide +kernel
theorem dT_write_94 : decode cT_write 94 = .ok (.return_, 1) := by decide +kernel
theorem dT_read_0 : decode cT_read 0 = .ok (.iload_n 1, 1) := by decide +kernel
theorem dT_read_1 : decode cT_read 1 = .ok (.invokestatic 28, 3) := by decide +kernel
theorem dT_read_4 : decode cT_read 4 = .ok (.ifCond .eq 9, 3) := by decide +kernel
theorem dT_read_7 : decode cT_read 7 = .ok (.iload_n 1, 1) := by decide +kernel
theorem dT_read_8 : decode cT_read 8 = .ok (.bipush 7, 2) := by decide +kernel
theorem dT_read_10 : decode cT_read 10 = .ok (.if_icmp .ne 11, 3) := by decide +kernel
theorem dT_read_13 : decode cT_read 13 = .ok (.new 32, 3) := by decide +kernel
theorem dT_read_16 : decode cT_read 16 = .ok (.dup, 1) := by decide +kernel
theorem dT_read_17 : decode cT_read 17 = .ok (.invokespecial 34, 3) := by decide +kernel
theorem dT_read_20 : decode cT_read 20 = .ok (.athrow, 1) := by decide +kernel
theorem dT_read_21 : decode cT_read 21 = .ok (.iload_n 1, 1) := by decide +kernel
theorem dT_read_22 : decode cT_read 22 = .ok (.invokestatic 35, 3) := by decide +kernel
theorem dT_read_25 : decode cT_read 25 = .ok (.ifCond .eq 15, 3) := by decide +kernel
theorem dT_read_28 : decode cT_read 28 = .ok (.aload_n 0, 1) := by decide +kernel
theorem dT_read_29 : decode cT_read 29 = .ok (.iload_n 1, 1) := by decide +kernel
theorem dT_read_30 : decode cT_read 30 = .ok (.invokevirtual 38, 3) := by decide +kernel
theorem dT_read_33 : decode cT_read 33 = .ok (.invokevirtual 62, 3) := by decide +kernel
theorem dT_read_36 : decode cT_read 36 = .ok (.istore_n 2, 1) := by decide +kernel
theorem dT_read_37 : decode cT_read 37 = .ok (.goto 34, 3) := by decide +kernel
theorem dT_read_40 : decode cT_read 40 = .ok (.iload_n 1, 1) := by decide +kernel
theorem dT_read_41 : decode cT_read 41 = .ok (.iconst 1, 1) := by decide +kernel
theorem dT_read_42 : decode cT_read 42 = .ok (.iand, 1) := by decide +kernel
theorem dT_read_43 : decode cT_read 43 = .ok (.ifCond .ne 17, 3) := by decide +kernel
theorem dT_read_46 : decode cT_read 46 = .ok (.aload_n 0, 1) := by decide +kernel
theorem dT_read_47 : decode cT_read 47 = .ok (.iload_n 1, 1) := by decide +kernel
theorem dT_read_48 : decode cT_read 48 = .ok (.iconst 1, 1) := by decide +kernel
theorem dT_read_49 : decode cT_read 49 = .ok (.ishr, 1) := by decide +kernel
theorem dT_read_50 : decode cT_read 50 = .ok (.invokevirtual 49, 3) := by decide +kernel
theorem dT_read_53 : decode cT_read 53 = .ok (.invokevirtual 66, 3) := by decide +kernel
theorem dT_read_56 : decode cT_read 56 = .ok (.istore_n 2, 1) := by decide +kernel
theorem dT_read_57 : decode cT_read 57 = .ok (.goto 14, 3) := by decide +kernel
theorem dT_read_60 : decode cT_read 60 = .ok (.aload_n 0, 1) := by decide +kernel
theorem dT_read_61 : decode cT_read 61 = .ok (.iload_n 1, 1) := by decide +kernel
theorem dT_read_62 : decode cT_read 62 = .ok (.iconst 1, 1) := by decide +kernel
theorem dT_read_63 : decode cT_read 63 = .ok (.ishr, 1) := by decide +kernel
theorem dT_read_64 : decode cT_read 64 = .ok (.invokevirtual 49, 3) := by decide +kernel
theorem dT_read_67 : decode cT_read 67 = .ok (.getfield 69, 3) := by decide +kernel
theorem dT_read_70 : decode cT_read 70 = .ok (.istore_n 2, 1) := by decide +kernel
theorem dT_read_71 : decode cT_read 71 = .ok (.aload_n 0, 1) := by decide +kernel
theorem dT_read_72 : decode cT_read 72 = .ok (.invokevirtual 59, 3) := by decide +kernel
theorem dT_read_75 : decode cT_read 75 = .ok (.iload_n 2, 1) := by decide +kernel
theorem dT_read_76 : decode cT_read 76 = .ok (.ireturn, 1) := by decide +kernel
theorem dT_line_0 : decode cT_line 0 = .ok (.iload_n 1, 1) := by decide +kernel
theorem dT_line_1 : decode cT_line 1 = .ok (.invokestatic 73, 3) := by decide +kernel
theorem dT_line_4 : decode cT_line 4 = .ok (.ifCond .eq 13, 3) := by decide +kernel
theorem dT_line_7 : decode cT_line 7 = .ok (.iload_n 2, 1) := by decide +kernel
theorem dT_line_8 : decode cT_line 8 = .ok (.ifCond .lt 9, 3) := by decide +kernel
theorem dT_line_11 : decode cT_line 11 = .ok (.iload_n 2, 1) := by decide +kernel
theorem dT_line_12 : decode cT_line 12 = .ok (.bipush 8, 2) := by decide +kernel
theorem dT_line_14 : decode cT_line 14 = .ok (.if_icmp .lt 5, 3) := by decide +kernel
theorem dT_line_17 : decode cT_line 17 = .ok (.iconst 0, 1) := by decide +kernel
theorem dT_line_18 : decode cT_line 18 = .ok (.ireturn, 1) := by decide +kernel
theorem dT_line_19 : decode cT_line 19 = .ok (.iload_n 1, 1) := by decide +kernel
theorem dT_line_20 : decode cT_line 20 = .ok (.ifCond .ne 14, 3) := by decide +kernel
theorem dT_line_23 : decode cT_line 23 = .ok (.iload_n 2, 1) := by decide +kernel
theorem dT_line_24 : decode cT_line 24 = .ok (.ifCond .eq 8, 3) := by decide +kernel
theorem dT_line_27 : decode cT_line 27 = .ok (.iload_n 2, 1) := by decide +kernel
theorem dT_line_28 : decode cT_line 28 = .ok (.iconst 2, 1) := by decide +kernel
theorem dT_line_29 : decode cT_line 29 = .ok (.if_icmp .ne 5, 3) := by decide +kernel
theorem dT_line_32 : decode cT_line 32 = .ok (.iconst 0, 1) := by decide +kernel
theorem dT_line_33 : decode cT_line 33 = .ok (.ireturn, 1) := by decide +kernel
theorem dT_line_34 : decode cT_line 34 = .ok (.aload_n 0, 1) := by decide +kernel
theorem dT_line_35 : decode cT_line 35 = .ok (.iload_n 1, 1) := by decide +kernel
theorem dT_line_36 : decode cT_line 36 = .ok (.invokevirtual 49, 3) := by decide +kernel
theorem dT_line_39 : decode cT_line 39 = .ok (.iload_n 2, 1) := by decide +kernel
theorem dT_line_40 : decode cT_line 40 = .ok (.iload_n 3, 1) := by decide +kernel
theorem dT_line_41 : decode cT_line 41 = .ok (.invokevirtual 76, 3) := by decide +kernel
theorem dT_line_44 : decode cT_line 44 = .ok (.aload_n 0, 1) := by decide +kernel
theorem dT_line_45 : decode cT_line 45 = .ok (.invokevirtual 59, 3) := by decide +kernel
theorem dT_line_48 : decode cT_line 48 = .ok (.iconst 1, 1) := by decide +kernel
theorem dT_line_49 : decode cT_line 49 = .ok (.ireturn, 1) := by decide +kernel
theorem dT_gate_0 : decode cT_gate 0 = .ok (.iload_n 1, 1) := by decide +kernel
theorem dT_gate_1 : decode cT_gate 1 = .ok (.invokestatic 80, 3) := by decide +kernel
theorem dT_gate_4 : decode cT_gate 4 = .ok (.ifCond .ne 5, 3) := by decide +kernel
theorem dT_gate_7 : decode cT_gate 7 = .ok (.iconst 0, 1) := by decide +kernel
theorem dT_gate_8 : decode cT_gate 8 = .ok (.ireturn, 1) := by decide +kernel
theorem dT_gate_9 : decode cT_gate 9 = .ok (.aload_n 0, 1) := by decide +kernel
theorem dT_gate_10 : decode cT_gate 10 = .ok (.getfield 24, 3) := by decide +kernel
theorem dT_gate_13 : decode cT_gate 13 = .ok (.iload_n 1, 1) := by decide +kernel
theorem dT_gate_14 : decode cT_gate 14 = .ok (.aaload, 1) := by decide +kernel
theorem dT_gate_15 : decode cT_gate 15 = .ok (.iload_n 2, 1) := by decide +kernel
theorem dT_gate_16 : decode cT_gate 16 = .ok (.invokevirtual 83, 3) := by decide +kernel
theorem dT_gate_19 : decode cT_gate 19 = .ok (.aload_n 0, 1) := by decide +kernel
theorem dT_gate_20 : decode cT_gate 20 = .ok (.invokevirtual 59, 3) := by decide +kernel
theorem dT_gate_23 : decode cT_gate 23 = .ok (.iconst 1, 1) := by decide +kernel
theorem dT_gate_24 : decode cT_gate 24 = .ok (.ireturn, 1) := by decide +kernel
theorem dT_tick_0 : decode cT_tick 0 = .ok (.iload_n 1, 1) := by decide +kernel
theorem dT_tick_1 : decode cT_tick 1 = .ok (.ifCond .lt 9, 3) := by decide +kernel
theorem dT_tick_4 : decode cT_tick 4 = .ok (.iload_n 1, 1) := by decide +kernel
theorem dT_tick_5 : decode cT_tick 5 = .ok (.bipush 100, 2) := by decide +kernel
theorem dT_tick_7 : decode cT_tick 7 = .ok (.if_icmp .le 11, 3) := by decide +kernel
theorem dT_tick_10 : decode cT_tick 10 = .ok (.new 32, 3) := by decide +kernel
theorem dT_tick_13 : decode cT_tick 13 = .ok (.dup, 1) := by decide +kernel
theorem dT_tick_14 : decode cT_tick 14 = .ok (.invokespecial 34, 3) := by decide +kernel
theorem dT_tick_17 : decode cT_tick 17 = .ok (.athrow, 1) := by decide +kernel
theorem dT_tick_18 : decode cT_tick 18 = .ok (.iconst 0, 1) := by decide +kernel
theorem dT_tick_19 : decode cT_tick 19 = .ok (.istore_n 2, 1) := by decide +kernel
theorem dT_tick_20 : decode cT_tick 20 = .ok (.iconst 0, 1) := by decide +kernel
theorem dT_tick_21 : decode cT_tick 21 = .ok (.istore_n 3, 1) := by decide +kernel
theorem dT_tick_22 : decode cT_tick 22 = .ok (.iload_n 3, 1) := by decide +kernel
theorem dT_tick_23 : decode cT_tick 23 = .ok (.iload_n 1, 1) := by decide +kernel
theorem dT_tick_24 : decode cT_tick 24 = .ok (.if_icmp .ge 69, 3) := by decide +kernel
theorem dT_tick_27 : decode cT_tick 27 = .ok (.aload_n 0, 1) := by decide +kernel
theorem dT_tick_28 : decode cT_tick 28 = .ok (.getfield 24, 3) := by decide +kernel
theorem dT_tick_31 : decode cT_tick 31 = .ok (.iconst 0, 1) := by decide +kernel
theorem dT_tick_32 : decode cT_tick 32 = .ok (.aaload, 1) := by decide +kernel
theorem dT_tick_33 : decode cT_tick 33 = .ok (.getfield 86, 3) := by decide +kernel
theorem dT_tick_36 : decode cT_tick 36 = .ok (.istore 4, 2) := by decide +kernel
theorem dT_tick_38 : decode cT_tick 38 = .ok (.iconst 0, 1) := by decide +kernel
theorem dT_tick_39 : decode cT_tick 39 = .ok (.istore 5, 2) := by decide +kernel
theorem dT_tick_41 : decode cT_tick 41 = .ok (.iload 5, 2) := by decide +kernel
theorem dT_tick_43 : decode cT_tick 43 = .ok (.iconst 3, 1) := by decide +kernel
theorem dT_tick_44 : decode cT_tick 44 = .ok (.if_icmp .ge 19, 3) := by decide +kernel
theorem dT_tick_47 : decode cT_tick 47 = .ok (.aload_n 0, 1) := by decide +kernel
theorem dT_tick_48 : decode cT_tick 48 = .ok (.getfield 24, 3) := by decide +kernel
theorem dT_tick_51 : decode cT_tick 51 = .ok (.iload 5, 2) := by decide +kernel
theorem dT_tick_53 : decode cT_tick 53 = .ok (.aaload, 1) := by decide +kernel
theorem dT_tick_54 : decode cT_tick 54 = .ok (.invokevirtual 90, 3) := by decide +kernel
theorem dT_tick_57 : decode cT_tick 57 = .ok (.iinc 5 1, 3) := by decide +kernel
theorem dT_tick_60 : decode cT_tick 60 = .ok (.goto (-19), 3) := by decide +kernel
theorem dT_tick_63 : decode cT_tick 63 = .ok (.iload 4, 2) := by decide +kernel
theorem dT_tick_65 : decode cT_tick 65 = .ok (.ifCond .ne 18, 3) := by decide +kernel
theorem dT_tick_68 : decode cT_tick 68 = .ok (.aload_n 0, 1) := by decide +kernel
theorem dT_tick_69 : decode cT_tick 69 = .ok (.getfield 24, 3) := by decide +kernel
theorem dT_tick_72 : decode cT_tick 72 = .ok (.iconst 0, 1) := by decide +kernel
theorem dT_tick_73 : decode cT_tick 73 = .ok (.aaload, 1) := by decide +kernel
theorem dT_tick_74 : decode cT_tick 74 = .ok (.getfield 86, 3) := by decide +kernel
theorem dT_tick_77 : decode cT_tick 77 = .ok (.ifCond .eq 6, 3) := by decide +kernel
theorem dT_tick_80 : decode cT_tick 80 = .ok (.iinc 2 1, 3) := by decide +kernel
theorem dT_tick_83 : decode cT_tick 83 = .ok (.aload_n 0, 1) := by decide +kernel
theorem dT_tick_84 : decode cT_tick 84 = .ok (.invokevirtual 59, 3) := by decide +kernel
theorem dT_tick_87 : decode cT_tick 87 = .ok (.iinc 3 1, 3) := by decide +kernel
theorem dT_tick_90 : decode cT_tick 90 = .ok (.goto (-68), 3) := by decide +kernel
theorem dT_tick_93 : decode cT_tick 93 = .ok (.iload_n 2, 1) := by decide +kernel
theorem dT_tick_94 : decode cT_tick 94 = .ok (.ireturn, 1) := by decide +kernel
theorem dT_acknowledge_0 : decode cT_acknowledge 0 = .ok (.aload_n 0, 1) := by decide +kernel
theorem dT_acknowledge_1 : decode cT_acknowledge 1 = .ok (.getfield 12, 3) := by decide +kernel
theorem dT_acknowledge_4 : decode cT_acknowledge 4 = .ok (.getfield 93, 3) := by decide +kernel
theorem dT_acknowledge_7 : decode cT_acknowledge 7 = .ok (.ifCond .ne 11, 3) := by decide +kernel
theorem dT_acknowledge_10 : decode cT_acknowledge 10 = .ok (.new 96, 3) := by decide +kernel
theorem dT_acknowledge_13 : decode cT_acknowledge 13 = .ok (.dup, 1) := by decide +kernel
theorem dT_acknowledge_14 : decode cT_acknowledge 14 = .ok (.invokespecial 98, 3) := by decide +kernel
theorem dT_acknowledge_17 : decode cT_acknowledge 17 = .ok (.athrow, 1) := by decide +kernel
theorem dT_acknowledge_18 : decode cT_acknowledge 18 = .ok (.aload_n 0, 1) := by decide +kernel
theorem dT_acknowledge_19 : decode cT_acknowledge 19 = .ok (.getfield 12, 3) := by decide +kernel
theorem dT_acknowledge_22 : decode cT_acknowledge 22 = .ok (.invokevirtual 99, 3) := by decide +kernel
theorem dT_acknowledge_25 : decode cT_acknowledge 25 = .ok (.istore_n 1, 1) := by decide +kernel
theorem dT_acknowledge_26 : decode cT_acknowledge 26 = .ok (.iload_n 1, 1) := by decide +kernel
theorem dT_acknowledge_27 : decode cT_acknowledge 27 = .ok (.iconst 2, 1) := by decide +kernel
theorem dT_acknowledge_28 : decode cT_acknowledge 28 = .ok (.if_icmp .ne 31, 3) := by decide +kernel
theorem dT_acknowledge_31 : decode cT_acknowledge 31 = .ok (.aload_n 0, 1) := by decide +kernel
theorem dT_acknowledge_32 : decode cT_acknowledge 32 = .ok (.getfield 12, 3) := by decide +kernel
theorem dT_acknowledge_35 : decode cT_acknowledge 35 = .ok (.getfield 102, 3) := by decide +kernel
theorem dT_acknowledge_38 : decode cT_acknowledge 38 = .ok (.ifCond .ne 21, 3) := by decide +kernel
theorem dT_acknowledge_41 : decode cT_acknowledge 41 = .ok (.aload_n 0, 1) := by decide +kernel
theorem dT_acknowledge_42 : decode cT_acknowledge 42 = .ok (.getfield 18, 3) := by decide +kernel
theorem dT_acknowledge_45 : decode cT_acknowledge 45 = .ok (.aload_n 0, 1) := by decide +kernel
theorem dT_acknowledge_46 : decode cT_acknowledge 46 = .ok (.getfield 18, 3) := by decide +kernel
theorem dT_acknowledge_49 : decode cT_acknowledge 49 = .ok (.invokevirtual 99, 3) := by decide +kernel
theorem dT_acknowledge_52 : decode cT_acknowledge 52 = .ok (.invokevirtual 105, 3) := by decide +kernel
theorem dT_acknowledge_55 : decode cT_acknowledge 55 = .ok (.istore_n 2, 1) := by decide +kernel
theorem dT_acknowledge_56 : decode cT_acknowledge 56 = .ok (.goto 12, 3) := by decide +kernel
theorem dT_acknowledge_59 : decode cT_acknowledge 59 = .ok (.aload_n 0, 1) := by decide +kernel
theorem dT_acknowledge_60 : decode cT_acknowledge 60 = .ok (.getfield 12, 3) := by decide +kernel
theorem dT_acknowledge_63 : decode cT_acknowledge 63 = .ok (.iload_n 1, 1) := by decide +kernel
theorem dT_acknowledge_64 : decode cT_acknowledge 64 = .ok (.invokevirtual 105, 3) := by decide +kernel
theorem dT_acknowledge_67 : decode cT_acknowledge 67 = .ok (.istore_n 2, 1) := by decide +kernel
theorem dT_acknowledge_68 : decode cT_acknowledge 68 = .ok (.aload_n 0, 1) := by decide +kernel
theorem dT_acknowledge_69 : decode cT_acknowledge 69 = .ok (.invokevirtual 59, 3) := by decide +kernel
theorem dT_acknowledge_72 : decode cT_acknowledge 72 = .ok (.iload_n 2, 1) := by decide +kernel
theorem dT_acknowledge_73 : decode cT_acknowledge 73 = .ok (.ireturn, 1) := by decide +kernel
theorem dT_chosen_0 : decode cT_chosen 0 = .ok (.iload_n 1, 1) := by decide +kernel
theorem dT_chosen_1 : decode cT_chosen 1 = .ok (.invokestatic 73, 3) := by decide +kernel
theorem dT_chosen_4 : decode cT_chosen 4 = .ok (.ifCond .eq 14, 3) := by decide +kernel
theorem dT_chosen_7 : decode cT_chosen 7 = .ok (.aload_n 0, 1) := by decide +kernel
theorem dT_chosen_8 : decode cT_chosen 8 = .ok (.iload_n 1, 1) := by decide +kernel
theorem dT_chosen_9 : decode cT_chosen 9 = .ok (.invokevirtual 49, 3) := by decide +kernel
theorem dT_chosen_12 : decode cT_chosen 12 = .ok (.invokevirtual 109, 3) := by decide +kernel
theorem dT_chosen_15 : decode cT_chosen 15 = .ok (.goto 4, 3) := by decide +kernel
theorem dT_chosen_18 : decode cT_chosen 18 = .ok (.iconst (-1), 1) := by decide +kernel
theorem dT_chosen_19 : decode cT_chosen 19 = .ok (.ireturn, 1) := by decide +kernel
theorem dT_about_0 : decode cT_about 0 = .ok (.iload_n 1, 1) := by decide +kernel
theorem dT_about_1 : decode cT_about 1 = .ok (.invokestatic 73, 3) := by decide +kernel
theorem dT_about_4 : decode cT_about 4 = .ok (.ifCond .eq 15, 3) := by decide +kernel
theorem dT_about_7 : decode cT_about 7 = .ok (.aload_n 0, 1) := by decide +kernel
theorem dT_about_8 : decode cT_about 8 = .ok (.iload_n 1, 1) := by decide +kernel
theorem dT_about_9 : decode cT_about 9 = .ok (.invokevirtual 49, 3) := by decide +kernel
theorem dT_about_12 : decode cT_about 12 = .ok (.iload_n 2, 1) := by decide +kernel
theorem dT_about_13 : decode cT_about 13 = .ok (.invokevirtual 112, 3) := by decide +kernel
theorem dT_about_16 : decode cT_about 16 = .ok (.goto 4, 3) := by decide +kernel
theorem dT_about_19 : decode cT_about 19 = .ok (.iconst (-1), 1) := by decide +kernel
theorem dT_about_20 : decode cT_about 20 = .ok (.ireturn, 1) := by decide +kernel
theorem dT_counter_0 : decode cT_counter 0 = .ok (.iload_n 1, 1) := by decide +kernel
theorem dT_counter_1 : decode cT_counter 1 = .ok (.invokestatic 80, 3) := by decide +kernel
theorem dT_counter_4 : decode cT_counter 4 = .ok (.ifCond .eq 16, 3) := by decide +kernel
theorem dT_counter_7 : decode cT_counter 7 = .ok (.aload_n 0, 1) := by decide +kernel
theorem dT_counter_8 : decode cT_counter 8 = .ok (.getfield 24, 3) := by decide +kernel
theorem dT_counter_11 : decode cT_counter 11 = .ok (.iload_n 1, 1) := by decide +kernel
theorem dT_counter_12 : decode cT_counter 12 = .ok (.aaload, 1) := by decide +kernel
theorem dT_counter_13 : decode cT_counter 13 = .ok (.iload_n 2, 1) := by decide +kernel
theorem dT_counter_14 : decode cT_counter 14 = .ok (.invokevirtual 115, 3) := by decide +kernel
theorem dT_counter_17 : decode cT_counter 17 = .ok (.goto 4, 3) := by decide +kernel
theorem dT_counter_20 : decode cT_counter 20 = .ok (.iconst (-1), 1) := by decide +kernel
theorem dT_counter_21 : decode cT_counter 21 = .ok (.ireturn, 1) := by decide +kernel
theorem dT_isPort_0 : decode cT_isPort 0 = .ok (.iload_n 0, 1) := by decide +kernel
theorem dT_isPort_1 : decode cT_isPort 1 = .ok (.ifCond .lt 13, 3) := by decide +kernel
theorem dT_isPort_4 : decode cT_isPort 4 = .ok (.iload_n 0, 1) := by decide +kernel
theorem dT_isPort_5 : decode cT_isPort 5 = .ok (.bipush 7, 2) := by decide +kernel
theorem dT_isPort_7 : decode cT_isPort 7 = .ok (.if_icmp .gt 7, 3) := by decide +kernel
theorem dT_isPort_10 : decode cT_isPort 10 = .ok (.iconst 1, 1) := by decide +kernel
theorem dT_isPort_11 : decode cT_isPort 11 = .ok (.goto 4, 3) := by decide +kernel
theorem dT_isPort_14 : decode cT_isPort 14 = .ok (.iconst 0, 1) := by decide +kernel
theorem dT_isPort_15 : decode cT_isPort 15 = .ok (.ireturn, 1) := by decide +kernel
theorem dT_isCounterPort_0 : decode cT_isCounterPort 0 = .ok (.iload_n 0, 1) := by decide +kernel
theorem dT_isCounterPort_1 : decode cT_isCounterPort 1 = .ok (.iconst 4, 1) := by decide +kernel
theorem dT_isCounterPort_2 : decode cT_isCounterPort 2 = .ok (.isub, 1) := by decide +kernel
theorem dT_isCounterPort_3 : decode cT_isCounterPort 3 = .ok (.invokestatic 80, 3) := by decide +kernel
theorem dT_isCounterPort_6 : decode cT_isCounterPort 6 = .ok (.ireturn, 1) := by decide +kernel
theorem dT_isController_0 : decode cT_isController 0 = .ok (.iload_n 0, 1) := by decide +kernel
theorem dT_isController_1 : decode cT_isController 1 = .ok (.ifCond .lt 12, 3) := by decide +kernel
theorem dT_isController_4 : decode cT_isController 4 = .ok (.iload_n 0, 1) := by decide +kernel
theorem dT_isController_5 : decode cT_isController 5 = .ok (.iconst 2, 1) := by decide +kernel
theorem dT_isController_6 : decode cT_isController 6 = .ok (.if_icmp .ge 7, 3) := by decide +kernel
theorem dT_isController_9 : decode cT_isController 9 = .ok (.iconst 1, 1) := by decide +kernel
theorem dT_isController_10 : decode cT_isController 10 = .ok (.goto 4, 3) := by decide +kernel
theorem dT_isController_13 : decode cT_isController 13 = .ok (.iconst 0, 1) := by decide +kernel
theorem dT_isController_14 : decode cT_isController 14 = .ok (.ireturn, 1) := by decide +kernel
theorem dT_isCounter_0 : decode cT_isCounter 0 = .ok (.iload_n 0, 1) := by decide +kernel
theorem dT_isCounter_1 : decode cT_isCounter 1 = .ok (.ifCond .lt 12, 3) := by decide +kernel
theorem dT_isCounter_4 : decode cT_isCounter 4 = .ok (.iload_n 0, 1) := by decide +kernel
theorem dT_isCounter_5 : decode cT_isCounter 5 = .ok (.iconst 3, 1) := by decide +kernel
theorem dT_isCounter_6 : decode cT_isCounter 6 = .ok (.if_icmp .ge 7, 3) := by decide +kernel
theorem dT_isCounter_9 : decode cT_isCounter 9 = .ok (.iconst 1, 1) := by decide +kernel
theorem dT_isCounter_10 : decode cT_isCounter 10 = .ok (.goto 4, 3) := by decide +kernel
theorem dT_isCounter_13 : decode cT_isCounter 13 = .ok (.iconst 0, 1) := by decide +kernel
theorem dT_isCounter_14 : decode cT_isCounter 14 = .ok (.ireturn, 1) := by decide +kernel
theorem dT_asBit_0 : decode cT_asBit 0 = .ok (.iload_n 0, 1) := by decide +kernel
theorem dT_asBit_1 : decode cT_asBit 1 = .ok (.ifCond .eq 7, 3) := by decide +kernel
theorem dT_asBit_4 : decode cT_asBit 4 = .ok (.iconst 1, 1) := by decide +kernel
theorem dT_asBit_5 : decode cT_asBit 5 = .ok (.goto 4, 3) := by decide +kernel
theorem dT_asBit_8 : decode cT_asBit 8 = .ok (.iconst 0, 1) := by decide +kernel
theorem dT_asBit_9 : decode cT_asBit 9 = .ok (.ireturn, 1) := by decide +kernel
theorem dT_hasBit_0 : decode cT_hasBit 0 = .ok (.iload_n 0, 1) := by decide +kernel
theorem dT_hasBit_1 : decode cT_hasBit 1 = .ok (.iload_n 1, 1) := by decide +kernel
theorem dT_hasBit_2 : decode cT_hasBit 2 = .ok (.ishr, 1) := by decide +kernel
theorem dT_hasBit_3 : decode cT_hasBit 3 = .ok (.iconst 1, 1) := by decide +kernel
theorem dT_hasBit_4 : decode cT_hasBit 4 = .ok (.iand, 1) := by decide +kernel
theorem dT_hasBit_5 : decode cT_hasBit 5 = .ok (.ifCond .eq 7, 3) := by decide +kernel
theorem dT_hasBit_8 : decode cT_hasBit 8 = .ok (.iconst 1, 1) := by decide +kernel
theorem dT_hasBit_9 : decode cT_hasBit 9 = .ok (.goto 4, 3) := by decide +kernel
theorem dT_hasBit_12 : decode cT_hasBit 12 = .ok (.iconst 0, 1) := by decide +kernel
theorem dT_hasBit_13 : decode cT_hasBit 13 = .ok (.ireturn, 1) := by decide +kernel
theorem dT_controllerOf_0 : decode cT_controllerOf 0 = .ok (.iload_n 1, 1) := by decide +kernel
theorem dT_controllerOf_1 : decode cT_controllerOf 1 = .ok (.ifCond .ne 10, 3) := by decide +kernel
theorem dT_controllerOf_4 : decode cT_controllerOf 4 = .ok (.aload_n 0, 1) := by decide +kernel
theorem dT_controllerOf_5 : decode cT_controllerOf 5 = .ok (.getfield 12, 3) := by decide +kernel
theorem dT_controllerOf_8 : decode cT_controllerOf 8 = .ok (.goto 7, 3) := by decide +kernel
theorem dT_controllerOf_11 : decode cT_controllerOf 11 = .ok (.aload_n 0, 1) := by decide +kernel
theorem dT_controllerOf_12 : decode cT_controllerOf 12 = .ok (.getfield 18, 3) := by decide +kernel
theorem dT_controllerOf_15 : decode cT_controllerOf 15 = .ok (.areturn, 1) := by decide +kernel
theorem dT_counterWithMode_0 : decode cT_counterWithMode 0 = .ok (.aload_n 0, 1) := by decide +kernel
theorem dT_counterWithMode_1 : decode cT_counterWithMode 1 = .ok (.getfield 24, 3) := by decide +kernel
theorem dT_counterWithMode_4 : decode cT_counterWithMode 4 = .ok (.iload_n 1, 1) := by decide +kernel
theorem dT_counterWithMode_5 : decode cT_counterWithMode 5 = .ok (.iconst 4, 1) := by decide +kernel
theorem dT_counterWithMode_6 : decode cT_counterWithMode 6 = .ok (.isub, 1) := by decide +kernel
theorem dT_counterWithMode_7 : decode cT_counterWithMode 7 = .ok (.aaload, 1) := by decide +kernel
theorem dT_counterWithMode_8 : decode cT_counterWithMode 8 = .ok (.astore_n 2, 1) := by decide +kernel
theorem dT_counterWithMode_9 : decode cT_counterWithMode 9 = .ok (.aload_n 2, 1) := by decide +kernel
theorem dT_counterWithMode_10 : decode cT_counterWithMode 10 = .ok (.invokevirtual 116, 3) := by decide +kernel
theorem dT_counterWithMode_13 : decode cT_counterWithMode 13 = .ok (.ifCond .ne 11, 3) := by decide +kernel
theorem dT_counterWithMode_16 : decode cT_counterWithMode 16 = .ok (.new 96, 3) := by decide +kernel
theorem dT_counterWithMode_19 : decode cT_counterWithMode 19 = .ok (.dup, 1) := by decide +kernel
theorem dT_counterWithMode_20 : decode cT_counterWithMode 20 = .ok (.invokespecial 98, 3) := by decide +kernel
theorem dT_counterWithMode_23 : decode cT_counterWithMode 23 = .ok (.athrow, 1) := by decide +kernel
theorem dT_counterWithMode_24 : decode cT_counterWithMode 24 = .ok (.aload_n 2, 1) := by decide +kernel
theorem dT_counterWithMode_25 : decode cT_counterWithMode 25 = .ok (.areturn, 1) := by decide +kernel
theorem dT_takeControl_0 : decode cT_takeControl 0 = .ok (.iload_n 1, 1) := by decide +kernel
theorem dT_takeControl_1 : decode cT_takeControl 1 = .ok (.bipush 6, 2) := by decide +kernel
theorem dT_takeControl_3 : decode cT_takeControl 3 = .ok (.ishr, 1) := by decide +kernel
theorem dT_takeControl_4 : decode cT_takeControl 4 = .ok (.istore_n 2, 1) := by decide +kernel
theorem dT_takeControl_5 : decode cT_takeControl 5 = .ok (.iload_n 1, 1) := by decide +kernel
theorem dT_takeControl_6 : decode cT_takeControl 6 = .ok (.iconst 4, 1) := by decide +kernel
theorem dT_takeControl_7 : decode cT_takeControl 7 = .ok (.ishr, 1) := by decide +kernel
theorem dT_takeControl_8 : decode cT_takeControl 8 = .ok (.iconst 3, 1) := by decide +kernel
theorem dT_takeControl_9 : decode cT_takeControl 9 = .ok (.iand, 1) := by decide +kernel
theorem dT_takeControl_10 : decode cT_takeControl 10 = .ok (.istore_n 3, 1) := by decide +kernel
theorem dT_takeControl_11 : decode cT_takeControl 11 = .ok (.iload_n 2, 1) := by decide +kernel
theorem dT_takeControl_12 : decode cT_takeControl 12 = .ok (.invokestatic 80, 3) := by decide +kernel
theorem dT_takeControl_15 : decode cT_takeControl 15 = .ok (.ifCond .ne 11, 3) := by decide +kernel
theorem dT_takeControl_18 : decode cT_takeControl 18 = .ok (.aload_n 0, 1) := by decide +kernel
theorem dT_takeControl_19 : decode cT_takeControl 19 = .ok (.iload_n 1, 1) := by decide +kernel
theorem dT_takeControl_20 : decode cT_takeControl 20 = .ok (.invokevirtual 120, 3) := by decide +kernel
theorem dT_takeControl_23 : decode cT_takeControl 23 = .ok (.goto 35, 3) := by decide +kernel
theorem dT_takeControl_26 : decode cT_takeControl 26 = .ok (.iload_n 3, 1) := by decide +kernel
theorem dT_takeControl_27 : decode cT_takeControl 27 = .ok (.ifCond .ne 15, 3) := by decide +kernel
theorem dT_takeControl_30 : decode cT_takeControl 30 = .ok (.aload_n 0, 1) := by decide +kernel
theorem dT_takeControl_31 : decode cT_takeControl 31 = .ok (.getfield 24, 3) := by decide +kernel
theorem dT_takeControl_34 : decode cT_takeControl 34 = .ok (.iload_n 2, 1) := by decide +kernel
theorem dT_takeControl_35 : decode cT_takeControl 35 = .ok (.aaload, 1) := by decide +kernel
theorem dT_takeControl_36 : decode cT_takeControl 36 = .ok (.invokevirtual 123, 3) := by decide +kernel
theorem dT_takeControl_39 : decode cT_takeControl 39 = .ok (.goto 19, 3) := by decide +kernel
theorem dT_takeControl_42 : decode cT_takeControl 42 = .ok (.aload_n 0, 1) := by decide +kernel
theorem dT_takeControl_43 : decode cT_takeControl 43 = .ok (.getfield 24, 3) := by decide +kernel
theorem dT_takeControl_46 : decode cT_takeControl 46 = .ok (.iload_n 2, 1) := by decide +kernel
theorem dT_takeControl_47 : decode cT_takeControl 47 = .ok (.aaload, 1) := by decide +kernel
theorem dT_takeControl_48 : decode cT_takeControl 48 = .ok (.iload_n 3, 1) := by decide +kernel
theorem dT_takeControl_49 : decode cT_takeControl 49 = .ok (.iload_n 1, 1) := by decide +kernel
theorem dT_takeControl_50 : decode cT_takeControl 50 = .ok (.iconst 1, 1) := by decide +kernel
theorem dT_takeControl_51 : decode cT_takeControl 51 = .ok (.ishr, 1) := by decide +kernel
theorem dT_takeControl_52 : decode cT_takeControl 52 = .ok (.bipush 7, 2) := by decide +kernel
theorem dT_takeControl_54 : decode cT_takeControl 54 = .ok (.iand, 1) := by decide +kernel
theorem dT_takeControl_55 : decode cT_takeControl 55 = .ok (.invokevirtual 126, 3) := by decide +kernel
theorem dT_takeControl_58 : decode cT_takeControl 58 = .ok (.return_, 1) := by decide +kernel
theorem dT_latchMany_0 : decode cT_latchMany 0 = .ok (.iconst 0, 1) := by decide +kernel
theorem dT_latchMany_1 : decode cT_latchMany 1 = .ok (.istore_n 2, 1) := by decide +kernel
theorem dT_latchMany_2 : decode cT_latchMany 2 = .ok (.iload_n 2, 1) := by decide +kernel
theorem dT_latchMany_3 : decode cT_latchMany 3 = .ok (.iconst 3, 1) := by decide +kernel
theorem dT_latchMany_4 : decode cT_latchMany 4 = .ok (.if_icmp .ge 53, 3) := by decide +kernel
theorem dT_latchMany_7 : decode cT_latchMany 7 = .ok (.iload_n 1, 1) := by decide +kernel
theorem dT_latchMany_8 : decode cT_latchMany 8 = .ok (.iconst 1, 1) := by decide +kernel
theorem dT_latchMany_9 : decode cT_latchMany 9 = .ok (.iload_n 2, 1) := by decide +kernel
theorem dT_latchMany_10 : decode cT_latchMany 10 = .ok (.iadd, 1) := by decide +kernel
theorem dT_latchMany_11 : decode cT_latchMany 11 = .ok (.invokestatic 130, 3) := by decide +kernel
theorem dT_latchMany_14 : decode cT_latchMany 14 = .ok (.ifCond .eq 37, 3) := by decide +kernel
theorem dT_latchMany_17 : decode cT_latchMany 17 = .ok (.iload_n 1, 1) := by decide +kernel
theorem dT_latchMany_18 : decode cT_latchMany 18 = .ok (.iconst 5, 1) := by decide +kernel
theorem dT_latchMany_19 : decode cT_latchMany 19 = .ok (.invokestatic 130, 3) := by decide +kernel
theorem dT_latchMany_22 : decode cT_latchMany 22 = .ok (.ifCond .ne 12, 3) := by decide +kernel
theorem dT_latchMany_25 : decode cT_latchMany 25 = .ok (.aload_n 0, 1) := by decide +kernel
theorem dT_latchMany_26 : decode cT_latchMany 26 = .ok (.getfield 24, 3) := by decide +kernel
theorem dT_latchMany_29 : decode cT_latchMany 29 = .ok (.iload_n 2, 1) := by decide +kernel
theorem dT_latchMany_30 : decode cT_latchMany 30 = .ok (.aaload, 1) := by decide +kernel
theorem dT_latchMany_31 : decode cT_latchMany 31 = .ok (.invokevirtual 123, 3) := by decide +kernel
theorem dT_latchMany_34 : decode cT_latchMany 34 = .ok (.iload_n 1, 1) := by decide +kernel
theorem dT_latchMany_35 : decode cT_latchMany 35 = .ok (.iconst 4, 1) := by decide +kernel
theorem dT_latchMany_36 : decode cT_latchMany 36 = .ok (.invokestatic 130, 3) := by decide +kernel
theorem dT_latchMany_39 : decode cT_latchMany 39 = .ok (.ifCond .ne 12, 3) := by decide +kernel
theorem dT_latchMany_42 : decode cT_latchMany 42 = .ok (.aload_n 0, 1) := by decide +kernel
theorem dT_latchMany_43 : decode cT_latchMany 43 = .ok (.getfield 24, 3) := by decide +kernel
theorem dT_latchMany_46 : decode cT_latchMany 46 = .ok (.iload_n 2, 1) := by decide +kernel
theorem dT_latchMany_47 : decode cT_latchMany 47 = .ok (.aaload, 1) := by decide +kernel
theorem dT_latchMany_48 : decode cT_latchMany 48 = .ok (.invokevirtual 134, 3) := by decide +kernel
theorem dT_latchMany_51 : decode cT_latchMany 51 = .ok (.iinc 2 1, 3) := by decide +kernel
theorem dT_latchMany_54 : decode cT_latchMany 54 = .ok (.goto (-52), 3) := by decide +kernel
theorem dT_latchMany_57 : decode cT_latchMany 57 = .ok (.return_, 1) := by decide +kernel
theorem dT_followLines_0 : decode cT_followLines 0 = .ok (.aload_n 0, 1) := by decide +kernel
theorem dT_followLines_1 : decode cT_followLines 1 = .ok (.getfield 12, 3) := by decide +kernel
theorem dT_followLines_4 : decode cT_followLines 4 = .ok (.iconst 0, 1) := by decide +kernel
theorem dT_followLines_5 : decode cT_followLines 5 = .ok (.aload_n 0, 1) := by decide +kernel
theorem dT_followLines_6 : decode cT_followLines 6 = .ok (.getfield 24, 3) := by decide +kernel
theorem dT_followLines_9 : decode cT_followLines 9 = .ok (.iconst 0, 1) := by decide +kernel
theorem dT_followLines_10 : decode cT_followLines 10 = .ok (.aaload, 1) := by decide +kernel
theorem dT_followLines_11 : decode cT_followLines 11 = .ok (.getfield 86, 3) := by decide +kernel
theorem dT_followLines_14 : decode cT_followLines 14 = .ok (.invokevirtual 76, 3) := by decide +kernel
theorem dT_followLines_17 : decode cT_followLines 17 = .ok (.aload_n 0, 1) := by decide +kernel
theorem dT_followLines_18 : decode cT_followLines 18 = .ok (.getfield 12, 3) := by decide +kernel
theorem dT_followLines_21 : decode cT_followLines 21 = .ok (.iconst 2, 1) := by decide +kernel
theorem dT_followLines_22 : decode cT_followLines 22 = .ok (.aload_n 0, 1) := by decide +kernel
theorem dT_followLines_23 : decode cT_followLines 23 = .ok (.getfield 18, 3) := by decide +kernel
theorem dT_followLines_26 : decode cT_followLines 26 = .ok (.invokevirtual 109, 3) := by decide +kernel
theorem dT_followLines_29 : decode cT_followLines 29 = .ok (.iconst (-1), 1) := by decide +kernel
theorem dT_followLines_30 : decode cT_followLines 30 = .ok (.if_icmp .eq 7, 3) := by decide +kernel
theorem dT_followLines_33 : decode cT_followLines 33 = .ok (.iconst 1, 1) := by decide +kernel
theorem dT_followLines_34 : decode cT_followLines 34 = .ok (.goto 4, 3) := by decide +kernel
theorem dT_followLines_37 : decode cT_followLines 37 = .ok (.iconst 0, 1) := by decide +kernel
theorem dT_followLines_38 : decode cT_followLines 38 = .ok (.invokevirtual 76, 3) := by decide +kernel
theorem dT_followLines_41 : decode cT_followLines 41 = .ok (.return_, 1) := by decide +kernel
theorem dN_init_0 : decode cN_init 0 = .ok (.aload_n 0, 1) := by decide +kernel
theorem dN_init_1 : decode cN_init 1 = .ok (.invokespecial 3, 3) := by decide +kernel
theorem dN_init_4 : decode cN_init 4 = .ok (.aload_n 0, 1) := by decide +kernel
theorem dN_init_5 : decode cN_init 5 = .ok (.iconst 1, 1) := by decide +kernel
theorem dN_init_6 : decode cN_init 6 = .ok (.putfield 9, 3) := by decide +kernel
theorem dN_init_9 : decode cN_init 9 = .ok (.aload_n 0, 1) := by decide +kernel
theorem dN_init_10 : decode cN_init 10 = .ok (.iconst (-1), 1) := by decide +kernel
theorem dN_init_11 : decode cN_init 11 = .ok (.putfield 15, 3) := by decide +kernel
theorem dN_init_14 : decode cN_init 14 = .ok (.aload_n 0, 1) := by decide +kernel
theorem dN_init_15 : decode cN_init 15 = .ok (.iconst (-1), 1) := by decide +kernel
theorem dN_init_16 : decode cN_init 16 = .ok (.putfield 19, 3) := by decide +kernel
theorem dN_init_19 : decode cN_init 19 = .ok (.aload_n 0, 1) := by decide +kernel
theorem dN_init_20 : decode cN_init 20 = .ok (.iconst (-1), 1) := by decide +kernel
theorem dN_init_21 : decode cN_init 21 = .ok (.putfield 22, 3) := by decide +kernel
theorem dN_init_24 : decode cN_init 24 = .ok (.return_, 1) := by decide +kernel
theorem dN_hasMode_0 : decode cN_hasMode 0 = .ok (.aload_n 0, 1) := by decide +kernel
theorem dN_hasMode_1 : decode cN_hasMode 1 = .ok (.getfield 15, 3) := by decide +kernel
theorem dN_hasMode_4 : decode cN_hasMode 4 = .ok (.iconst (-1), 1) := by decide +kernel
theorem dN_hasMode_5 : decode cN_hasMode 5 = .ok (.if_icmp .eq 7, 3) := by decide +kernel
theorem dN_hasMode_8 : decode cN_hasMode 8 = .ok (.iconst 1, 1) := by decide +kernel
theorem dN_hasMode_9 : decode cN_hasMode 9 = .ok (.goto 4, 3) := by decide +kernel
theorem dN_hasMode_12 : decode cN_hasMode 12 = .ok (.iconst 0, 1) := by decide +kernel
theorem dN_hasMode_13 : decode cN_hasMode 13 = .ok (.ireturn, 1) := by decide +kernel
theorem dN_setMode_0 : decode cN_setMode 0 = .ok (.aload_n 0, 1) := by decide +kernel
theorem dN_setMode_1 : decode cN_setMode 1 = .ok (.iload_n 1, 1) := by decide +kernel
theorem dN_setMode_2 : decode cN_setMode 2 = .ok (.putfield 25, 3) := by decide +kernel
theorem dN_setMode_5 : decode cN_setMode 5 = .ok (.aload_n 0, 1) := by decide +kernel
theorem dN_setMode_6 : decode cN_setMode 6 = .ok (.iload_n 2, 1) := by decide +kernel
theorem dN_setMode_7 : decode cN_setMode 7 = .ok (.iconst 5, 1) := by decide +kernel
theorem dN_setMode_8 : decode cN_setMode 8 = .ok (.if_icmp .le 9, 3) := by decide +kernel
theorem dN_setMode_11 : decode cN_setMode 11 = .ok (.iload_n 2, 1) := by decide +kernel
theorem dN_setMode_12 : decode cN_setMode 12 = .ok (.iconst 4, 1) := by decide +kernel
theorem dN_setMode_13 : decode cN_setMode 13 = .ok (.isub, 1) := by decide +kernel
theorem dN_setMode_14 : decode cN_setMode 14 = .ok (.goto 4, 3) := by decide +kernel
theorem dN_setMode_17 : decode cN_setMode 17 = .ok (.iload_n 2, 1) := by decide +kernel
theorem dN_setMode_18 : decode cN_setMode 18 = .ok (.putfield 15, 3) := by decide +kernel
theorem dN_setMode_21 : decode cN_setMode 21 = .ok (.aload_n 0, 1) := by decide +kernel
theorem dN_setMode_22 : decode cN_setMode 22 = .ok (.iconst 0, 1) := by decide +kernel
theorem dN_setMode_23 : decode cN_setMode 23 = .ok (.putfield 28, 3) := by decide +kernel
theorem dN_setMode_26 : decode cN_setMode 26 = .ok (.aload_n 0, 1) := by decide +kernel
theorem dN_setMode_27 : decode cN_setMode 27 = .ok (.iconst 0, 1) := by decide +kernel
theorem dN_setMode_28 : decode cN_setMode 28 = .ok (.putfield 31, 3) := by decide +kernel
theorem dN_setMode_31 : decode cN_setMode 31 = .ok (.aload_n 0, 1) := by decide +kernel
theorem dN_setMode_32 : decode cN_setMode 32 = .ok (.iconst 0, 1) := by decide +kernel
theorem dN_setMode_33 : decode cN_setMode 33 = .ok (.putfield 34, 3) := by decide +kernel
theorem dN_setMode_36 : decode cN_setMode 36 = .ok (.aload_n 0, 1) := by decide +kernel
theorem dN_setMode_37 : decode cN_setMode 37 = .ok (.iconst 1, 1) := by decide +kernel
theorem dN_setMode_38 : decode cN_setMode 38 = .ok (.putfield 37, 3) := by decide +kernel
theorem dN_setMode_41 : decode cN_setMode 41 = .ok (.aload_n 0, 1) := by decide +kernel
theorem dN_setMode_42 : decode cN_setMode 42 = .ok (.iconst 0, 1) := by decide +kernel
theorem dN_setMode_43 : decode cN_setMode 43 = .ok (.putfield 40, 3) := by decide +kernel
theorem dN_setMode_46 : decode cN_setMode 46 = .ok (.aload_n 0, 1) := by decide +kernel
theorem dN_setMode_47 : decode cN_setMode 47 = .ok (.iconst 0, 1) := by decide +kernel
theorem dN_setMode_48 : decode cN_setMode 48 = .ok (.putfield 43, 3) := by decide +kernel
theorem dN_setMode_51 : decode cN_setMode 51 = .ok (.aload_n 0, 1) := by decide +kernel
theorem dN_setMode_52 : decode cN_setMode 52 = .ok (.iconst (-1), 1) := by decide +kernel
theorem dN_setMode_53 : decode cN_setMode 53 = .ok (.putfield 19, 3) := by decide +kernel
theorem dN_setMode_56 : decode cN_setMode 56 = .ok (.aload_n 0, 1) := by decide +kernel
theorem dN_setMode_57 : decode cN_setMode 57 = .ok (.iconst (-1), 1) := by decide +kernel
theorem dN_setMode_58 : decode cN_setMode 58 = .ok (.putfield 22, 3) := by decide +kernel
theorem dN_setMode_61 : decode cN_setMode 61 = .ok (.aload_n 0, 1) := by decide +kernel
theorem dN_setMode_62 : decode cN_setMode 62 = .ok (.aload_n 0, 1) := by decide +kernel
theorem dN_setMode_63 : decode cN_setMode 63 = .ok (.getfield 15, 3) := by decide +kernel
theorem dN_setMode_66 : decode cN_setMode 66 = .ok (.ifCond .eq 7, 3) := by decide +kernel
theorem dN_setMode_69 : decode cN_setMode 69 = .ok (.iconst 1, 1) := by decide +kernel
theorem dN_setMode_70 : decode cN_setMode 70 = .ok (.goto 4, 3) := by decide +kernel
theorem dN_setMode_73 : decode cN_setMode 73 = .ok (.iconst 0, 1) := by decide +kernel
theorem dN_setMode_74 : decode cN_setMode 74 = .ok (.putfield 46, 3) := by decide +kernel
theorem dN_setMode_77 : decode cN_setMode 77 = .ok (.return_, 1) := by decide +kernel
theorem dN_latchCount_0 : decode cN_latchCount 0 = .ok (.aload_n 0, 1) := by decide +kernel
theorem dN_latchCount_1 : decode cN_latchCount 1 = .ok (.invokevirtual 49, 3) := by decide +kernel
theorem dN_latchCount_4 : decode cN_latchCount 4 = .ok (.ifCond .eq 19, 3) := by decide +kernel
theorem dN_latchCount_7 : decode cN_latchCount 7 = .ok (.aload_n 0, 1) := by decide +kernel
theorem dN_latchCount_8 : decode cN_latchCount 8 = .ok (.getfield 19, 3) := by decide +kernel
theorem dN_latchCount_11 : decode cN_latchCount 11 = .ok (.iconst (-1), 1) := by decide +kernel
theorem dN_latchCount_12 : decode cN_latchCount 12 = .ok (.if_icmp .ne 11, 3) := by decide +kernel
theorem dN_latchCount_15 : decode cN_latchCount 15 = .ok (.aload_n 0, 1) := by decide +kernel
theorem dN_latchCount_16 : decode cN_latchCount 16 = .ok (.aload_n 0, 1) := by decide +kernel
theorem dN_latchCount_17 : decode cN_latchCount 17 = .ok (.getfield 53, 3) := by decide +kernel
theorem dN_latchCount_20 : decode cN_latchCount 20 = .ok (.putfield 19, 3) := by decide +kernel
theorem dN_latchCount_23 : decode cN_latchCount 23 = .ok (.return_, 1) := by decide +kernel
theorem dN_latchStatus_0 : decode cN_latchStatus 0 = .ok (.aload_n 0, 1) := by decide +kernel
theorem dN_latchStatus_1 : decode cN_latchStatus 1 = .ok (.invokevirtual 49, 3) := by decide +kernel
theorem dN_latchStatus_4 : decode cN_latchStatus 4 = .ok (.ifCond .eq 52, 3) := by decide +kernel
theorem dN_latchStatus_7 : decode cN_latchStatus 7 = .ok (.aload_n 0, 1) := by decide +kernel
theorem dN_latchStatus_8 : decode cN_latchStatus 8 = .ok (.getfield 22, 3) := by decide +kernel
theorem dN_latchStatus_11 : decode cN_latchStatus 11 = .ok (.iconst (-1), 1) := by decide +kernel
theorem dN_latchStatus_12 : decode cN_latchStatus 12 = .ok (.if_icmp .ne 44, 3) := by decide +kernel
theorem dN_latchStatus_15 : decode cN_latchStatus 15 = .ok (.aload_n 0, 1) := by decide +kernel
theorem dN_latchStatus_16 : decode cN_latchStatus 16 = .ok (.sipush 128, 3) := by decide +kernel
theorem dN_latchStatus_19 : decode cN_latchStatus 19 = .ok (.aload_n 0, 1) := by decide +kernel
theorem dN_latchStatus_20 : decode cN_latchStatus 20 = .ok (.getfield 46, 3) := by decide +kernel
theorem dN_latchStatus_23 : decode cN_latchStatus 23 = .ok (.invokestatic 56, 3) := by decide +kernel
theorem dN_latchStatus_26 : decode cN_latchStatus 26 = .ok (.imul, 1) := by decide +kernel
theorem dN_latchStatus_27 : decode cN_latchStatus 27 = .ok (.bipush 64, 2) := by decide +kernel
theorem dN_latchStatus_29 : decode cN_latchStatus 29 = .ok (.aload_n 0, 1) := by decide +kernel
theorem dN_latchStatus_30 : decode cN_latchStatus 30 = .ok (.getfield 37, 3) := by decide +kernel
theorem dN_latchStatus_33 : decode cN_latchStatus 33 = .ok (.invokestatic 56, 3) := by decide +kernel
theorem dN_latchStatus_36 : decode cN_latchStatus 36 = .ok (.imul, 1) := by decide +kernel
theorem dN_latchStatus_37 : decode cN_latchStatus 37 = .ok (.iadd, 1) := by decide +kernel
theorem dN_latchStatus_38 : decode cN_latchStatus 38 = .ok (.bipush 16, 2) := by decide +kernel
theorem dN_latchStatus_40 : decode cN_latchStatus 40 = .ok (.aload_n 0, 1) := by decide +kernel
theorem dN_latchStatus_41 : decode cN_latchStatus 41 = .ok (.getfield 25, 3) := by decide +kernel
theorem dN_latchStatus_44 : decode cN_latchStatus 44 = .ok (.imul, 1) := by decide +kernel
theorem dN_latchStatus_45 : decode cN_latchStatus 45 = .ok (.iadd, 1) := by decide +kernel
theorem dN_latchStatus_46 : decode cN_latchStatus 46 = .ok (.iconst 2, 1) := by decide +kernel
theorem dN_latchStatus_47 : decode cN_latchStatus 47 = .ok (.aload_n 0, 1) := by decide +kernel
theorem dN_latchStatus_48 : decode cN_latchStatus 48 = .ok (.getfield 15, 3) := by decide +kernel
theorem dN_latchStatus_51 : decode cN_latchStatus 51 = .ok (.imul, 1) := by decide +kernel
theorem dN_latchStatus_52 : decode cN_latchStatus 52 = .ok (.iadd, 1) := by decide +kernel
theorem dN_latchStatus_53 : decode cN_latchStatus 53 = .ok (.putfield 22, 3) := by decide +kernel
theorem dN_latchStatus_56 : decode cN_latchStatus 56 = .ok (.return_, 1) := by decide +kernel
theorem dN_takeByte_0 : decode cN_takeByte 0 = .ok (.aload_n 0, 1) := by decide +kernel
theorem dN_takeByte_1 : decode cN_takeByte 1 = .ok (.getfield 25, 3) := by decide +kernel
theorem dN_takeByte_4 : decode cN_takeByte 4 = .ok (.iconst 1, 1) := by decide +kernel
theorem dN_takeByte_5 : decode cN_takeByte 5 = .ok (.if_icmp .ne 11, 3) := by decide +kernel
theorem dN_takeByte_8 : decode cN_takeByte 8 = .ok (.aload_n 0, 1) := by decide +kernel
theorem dN_takeByte_9 : decode cN_takeByte 9 = .ok (.iload_n 1, 1) := by decide +kernel
theorem dN_takeByte_10 : decode cN_takeByte 10 = .ok (.invokevirtual 60, 3) := by decide +kernel
theorem dN_takeByte_13 : decode cN_takeByte 13 = .ok (.goto 60, 3) := by decide +kernel
theorem dN_takeByte_16 : decode cN_takeByte 16 = .ok (.aload_n 0, 1) := by decide +kernel
theorem dN_takeByte_17 : decode cN_takeByte 17 = .ok (.getfield 25, 3) := by decide +kernel
theorem dN_takeByte_20 : decode cN_takeByte 20 = .ok (.iconst 2, 1) := by decide +kernel
theorem dN_takeByte_21 : decode cN_takeByte 21 = .ok (.if_icmp .ne 14, 3) := by decide +kernel
theorem dN_takeByte_24 : decode cN_takeByte 24 = .ok (.aload_n 0, 1) := by decide +kernel
theorem dN_takeByte_25 : decode cN_takeByte 25 = .ok (.iload_n 1, 1) := by decide +kernel
theorem dN_takeByte_26 : decode cN_takeByte 26 = .ok (.bipush 8, 2) := by decide +kernel
theorem dN_takeByte_28 : decode cN_takeByte 28 = .ok (.ishl, 1) := by decide +kernel
theorem dN_takeByte_29 : decode cN_takeByte 29 = .ok (.invokevirtual 60, 3) := by decide +kernel
theorem dN_takeByte_32 : decode cN_takeByte 32 = .ok (.goto 41, 3) := by decide +kernel
theorem dN_takeByte_35 : decode cN_takeByte 35 = .ok (.aload_n 0, 1) := by decide +kernel
theorem dN_takeByte_36 : decode cN_takeByte 36 = .ok (.getfield 40, 3) := by decide +kernel
theorem dN_takeByte_39 : decode cN_takeByte 39 = .ok (.ifCond .eq 24, 3) := by decide +kernel
theorem dN_takeByte_42 : decode cN_takeByte 42 = .ok (.aload_n 0, 1) := by decide +kernel
theorem dN_takeByte_43 : decode cN_takeByte 43 = .ok (.iconst 0, 1) := by decide +kernel
theorem dN_takeByte_44 : decode cN_takeByte 44 = .ok (.putfield 40, 3) := by decide +kernel
theorem dN_takeByte_47 : decode cN_takeByte 47 = .ok (.aload_n 0, 1) := by decide +kernel
theorem dN_takeByte_48 : decode cN_takeByte 48 = .ok (.iload_n 1, 1) := by decide +kernel
theorem dN_takeByte_49 : decode cN_takeByte 49 = .ok (.bipush 8, 2) := by decide +kernel
theorem dN_takeByte_51 : decode cN_takeByte 51 = .ok (.ishl, 1) := by decide +kernel
theorem dN_takeByte_52 : decode cN_takeByte 52 = .ok (.aload_n 0, 1) := by decide +kernel
theorem dN_takeByte_53 : decode cN_takeByte 53 = .ok (.getfield 64, 3) := by decide +kernel
theorem dN_takeByte_56 : decode cN_takeByte 56 = .ok (.ior, 1) := by decide +kernel
theorem dN_takeByte_57 : decode cN_takeByte 57 = .ok (.invokevirtual 60, 3) := by decide +kernel
theorem dN_takeByte_60 : decode cN_takeByte 60 = .ok (.goto 13, 3) := by decide +kernel
theorem dN_takeByte_63 : decode cN_takeByte 63 = .ok (.aload_n 0, 1) := by decide +kernel
theorem dN_takeByte_64 : decode cN_takeByte 64 = .ok (.iconst 1, 1) := by decide +kernel
theorem dN_takeByte_65 : decode cN_takeByte 65 = .ok (.putfield 40, 3) := by decide +kernel
theorem dN_takeByte_68 : decode cN_takeByte 68 = .ok (.aload_n 0, 1) := by decide +kernel
theorem dN_takeByte_69 : decode cN_takeByte 69 = .ok (.iload_n 1, 1) := by decide +kernel
theorem dN_takeByte_70 : decode cN_takeByte 70 = .ok (.putfield 64, 3) := by decide +kernel
theorem dN_takeByte_73 : decode cN_takeByte 73 = .ok (.return_, 1) := by decide +kernel
theorem dN_giveByte_0 : decode cN_giveByte 0 = .ok (.aload_n 0, 1) := by decide +kernel
theorem dN_giveByte_1 : decode cN_giveByte 1 = .ok (.getfield 22, 3) := by decide +kernel
theorem dN_giveByte_4 : decode cN_giveByte 4 = .ok (.iconst (-1), 1) := by decide +kernel
theorem dN_giveByte_5 : decode cN_giveByte 5 = .ok (.if_icmp .eq 15, 3) := by decide +kernel
theorem dN_giveByte_8 : decode cN_giveByte 8 = .ok (.aload_n 0, 1) := by decide +kernel
theorem dN_giveByte_9 : decode cN_giveByte 9 = .ok (.getfield 22, 3) := by decide +kernel
theorem dN_giveByte_12 : decode cN_giveByte 12 = .ok (.istore_n 1, 1) := by decide +kernel
theorem dN_giveByte_13 : decode cN_giveByte 13 = .ok (.aload_n 0, 1) := by decide +kernel
theorem dN_giveByte_14 : decode cN_giveByte 14 = .ok (.iconst (-1), 1) := by decide +kernel
theorem dN_giveByte_15 : decode cN_giveByte 15 = .ok (.putfield 22, 3) := by decide +kernel
theorem dN_giveByte_18 : decode cN_giveByte 18 = .ok (.iload_n 1, 1) := by decide +kernel
theorem dN_giveByte_19 : decode cN_giveByte 19 = .ok (.ireturn, 1) := by decide +kernel
theorem dN_giveByte_20 : decode cN_giveByte 20 = .ok (.aload_n 0, 1) := by decide +kernel
theorem dN_giveByte_21 : decode cN_giveByte 21 = .ok (.getfield 19, 3) := by decide +kernel
theorem dN_giveByte_24 : decode cN_giveByte 24 = .ok (.iconst (-1), 1) := by decide +kernel
theorem dN_giveByte_25 : decode cN_giveByte 25 = .ok (.if_icmp .eq 10, 3) := by decide +kernel
theorem dN_giveByte_28 : decode cN_giveByte 28 = .ok (.aload_n 0, 1) := by decide +kernel
theorem dN_giveByte_29 : decode cN_giveByte 29 = .ok (.getfield 19, 3) := by decide +kernel
theorem dN_giveByte_32 : decode cN_giveByte 32 = .ok (.goto 7, 3) := by decide +kernel
theorem dN_giveByte_35 : decode cN_giveByte 35 = .ok (.aload_n 0, 1) := by decide +kernel
theorem dN_giveByte_36 : decode cN_giveByte 36 = .ok (.getfield 53, 3) := by decide +kernel
theorem dN_giveByte_39 : decode cN_giveByte 39 = .ok (.istore_n 1, 1) := by decide +kernel
theorem dN_giveByte_40 : decode cN_giveByte 40 = .ok (.aload_n 0, 1) := by decide +kernel
theorem dN_giveByte_41 : decode cN_giveByte 41 = .ok (.getfield 25, 3) := by decide +kernel
theorem dN_giveByte_44 : decode cN_giveByte 44 = .ok (.iconst 2, 1) := by decide +kernel
theorem dN_giveByte_45 : decode cN_giveByte 45 = .ok (.if_icmp .eq 10, 3) := by decide +kernel
theorem dN_giveByte_48 : decode cN_giveByte 48 = .ok (.aload_n 0, 1) := by decide +kernel
theorem dN_giveByte_49 : decode cN_giveByte 49 = .ok (.getfield 43, 3) := by decide +kernel
theorem dN_giveByte_52 : decode cN_giveByte 52 = .ok (.ifCond .eq 7, 3) := by decide +kernel
theorem dN_giveByte_55 : decode cN_giveByte 55 = .ok (.iconst 1, 1) := by decide +kernel
theorem dN_giveByte_56 : decode cN_giveByte 56 = .ok (.goto 4, 3) := by decide +kernel
theorem dN_giveByte_59 : decode cN_giveByte 59 = .ok (.iconst 0, 1) := by decide +kernel
theorem dN_giveByte_60 : decode cN_giveByte 60 = .ok (.istore_n 2, 1) := by decide +kernel
theorem dN_giveByte_61 : decode cN_giveByte 61 = .ok (.aload_n 0, 1) := by decide +kernel
theorem dN_giveByte_62 : decode cN_giveByte 62 = .ok (.getfield 25, 3) := by decide +kernel
theorem dN_giveByte_65 : decode cN_giveByte 65 = .ok (.iconst 3, 1) := by decide +kernel
theorem dN_giveByte_66 : decode cN_giveByte 66 = .ok (.if_icmp .ne 16, 3) := by decide +kernel
theorem dN_giveByte_69 : decode cN_giveByte 69 = .ok (.aload_n 0, 1) := by decide +kernel
theorem dN_giveByte_70 : decode cN_giveByte 70 = .ok (.iload_n 2, 1) := by decide +kernel
theorem dN_giveByte_71 : decode cN_giveByte 71 = .ok (.ifCond .ne 7, 3) := by decide +kernel
theorem dN_giveByte_74 : decode cN_giveByte 74 = .ok (.iconst 1, 1) := by decide +kernel
theorem dN_giveByte_75 : decode cN_giveByte 75 = .ok (.goto 4, 3) := by decide +kernel
theorem dN_giveByte_78 : decode cN_giveByte 78 = .ok (.iconst 0, 1) := by decide +kernel
theorem dN_giveByte_79 : decode cN_giveByte 79 = .ok (.putfield 43, 3) := by decide +kernel
theorem dN_giveByte_82 : decode cN_giveByte 82 = .ok (.iload_n 2, 1) := by decide +kernel
theorem dN_giveByte_83 : decode cN_giveByte 83 = .ok (.ifCond .ne 11, 3) := by decide +kernel
theorem dN_giveByte_86 : decode cN_giveByte 86 = .ok (.aload_n 0, 1) := by decide +kernel
theorem dN_giveByte_87 : decode cN_giveByte 87 = .ok (.getfield 25, 3) := by decide +kernel
theorem dN_giveByte_90 : decode cN_giveByte 90 = .ok (.iconst 1, 1) := by decide +kernel
theorem dN_giveByte_91 : decode cN_giveByte 91 = .ok (.if_icmp .ne 8, 3) := by decide +kernel
theorem dN_giveByte_94 : decode cN_giveByte 94 = .ok (.aload_n 0, 1) := by decide +kernel
theorem dN_giveByte_95 : decode cN_giveByte 95 = .ok (.iconst (-1), 1) := by decide +kernel
theorem dN_giveByte_96 : decode cN_giveByte 96 = .ok (.putfield 19, 3) := by decide +kernel
theorem dN_giveByte_99 : decode cN_giveByte 99 = .ok (.iload_n 2, 1) := by decide +kernel
theorem dN_giveByte_100 : decode cN_giveByte 100 = .ok (.ifCond .eq 10, 3) := by decide +kernel
theorem dN_giveByte_103 : decode cN_giveByte 103 = .ok (.iload_n 1, 1) := by decide +kernel
theorem dN_giveByte_104 : decode cN_giveByte 104 = .ok (.bipush 8, 2) := by decide +kernel
theorem dN_giveByte_106 : decode cN_giveByte 106 = .ok (.ishr, 1) := by decide +kernel
theorem dN_giveByte_107 : decode cN_giveByte 107 = .ok (.goto 8, 3) := by decide +kernel
theorem dN_giveByte_110 : decode cN_giveByte 110 = .ok (.iload_n 1, 1) := by decide +kernel
theorem dN_giveByte_111 : decode cN_giveByte 111 = .ok (.sipush 255, 3) := by decide +kernel
theorem dN_giveByte_114 : decode cN_giveByte 114 = .ok (.iand, 1) := by decide +kernel
theorem dN_giveByte_115 : decode cN_giveByte 115 = .ok (.ireturn, 1) := by decide +kernel
theorem dN_setGate_0 : decode cN_setGate 0 = .ok (.iload_n 1, 1) := by decide +kernel
theorem dN_setGate_1 : decode cN_setGate 1 = .ok (.ifCond .eq 14, 3) := by decide +kernel
theorem dN_setGate_4 : decode cN_setGate 4 = .ok (.aload_n 0, 1) := by decide +kernel
theorem dN_setGate_5 : decode cN_setGate 5 = .ok (.getfield 9, 3) := by decide +kernel
theorem dN_setGate_8 : decode cN_setGate 8 = .ok (.ifCond .ne 7, 3) := by decide +kernel
theorem dN_setGate_11 : decode cN_setGate 11 = .ok (.iconst 1, 1) := by decide +kernel
theorem dN_setGate_12 : decode cN_setGate 12 = .ok (.goto 4, 3) := by decide +kernel
theorem dN_setGate_15 : decode cN_setGate 15 = .ok (.iconst 0, 1) := by decide +kernel
theorem dN_setGate_16 : decode cN_setGate 16 = .ok (.istore_n 2, 1) := by decide +kernel
theorem dN_setGate_17 : decode cN_setGate 17 = .ok (.iload_n 1, 1) := by decide +kernel
theorem dN_setGate_18 : decode cN_setGate 18 = .ok (.ifCond .ne 14, 3) := by decide +kernel
theorem dN_setGate_21 : decode cN_setGate 21 = .ok (.aload_n 0, 1) := by decide +kernel
theorem dN_setGate_22 : decode cN_setGate 22 = .ok (.getfield 9, 3) := by decide +kernel
theorem dN_setGate_25 : decode cN_setGate 25 = .ok (.ifCond .eq 7, 3) := by decide +kernel
theorem dN_setGate_28 : decode cN_setGate 28 = .ok (.iconst 1, 1) := by decide +kernel
theorem dN_setGate_29 : decode cN_setGate 29 = .ok (.goto 4, 3) := by decide +kernel
theorem dN_setGate_32 : decode cN_setGate 32 = .ok (.iconst 0, 1) := by decide +kernel
theorem dN_setGate_33 : decode cN_setGate 33 = .ok (.istore_n 3, 1) := by decide +kernel
theorem dN_setGate_34 : decode cN_setGate 34 = .ok (.aload_n 0, 1) := by decide +kernel
theorem dN_setGate_35 : decode cN_setGate 35 = .ok (.iload_n 1, 1) := by decide +kernel
theorem dN_setGate_36 : decode cN_setGate 36 = .ok (.putfield 9, 3) := by decide +kernel
theorem dN_setGate_39 : decode cN_setGate 39 = .ok (.iload_n 2, 1) := by decide +kernel
theorem dN_setGate_40 : decode cN_setGate 40 = .ok (.ifCond .eq 22, 3) := by decide +kernel
theorem dN_setGate_43 : decode cN_setGate 43 = .ok (.aload_n 0, 1) := by decide +kernel
theorem dN_setGate_44 : decode cN_setGate 44 = .ok (.invokevirtual 67, 3) := by decide +kernel
theorem dN_setGate_47 : decode cN_setGate 47 = .ok (.ifCond .ne 15, 3) := by decide +kernel
theorem dN_setGate_50 : decode cN_setGate 50 = .ok (.aload_n 0, 1) := by decide +kernel
theorem dN_setGate_51 : decode cN_setGate 51 = .ok (.invokevirtual 70, 3) := by decide +kernel
theorem dN_setGate_54 : decode cN_setGate 54 = .ok (.ifCond .eq 8, 3) := by decide +kernel
theorem dN_setGate_57 : decode cN_setGate 57 = .ok (.aload_n 0, 1) := by decide +kernel
theorem dN_setGate_58 : decode cN_setGate 58 = .ok (.iconst 1, 1) := by decide +kernel
theorem dN_setGate_59 : decode cN_setGate 59 = .ok (.putfield 34, 3) := by decide +kernel
theorem dN_setGate_62 : decode cN_setGate 62 = .ok (.iload_n 3, 1) := by decide +kernel
theorem dN_setGate_63 : decode cN_setGate 63 = .ok (.ifCond .eq 15, 3) := by decide +kernel
theorem dN_setGate_66 : decode cN_setGate 66 = .ok (.aload_n 0, 1) := by decide +kernel
theorem dN_setGate_67 : decode cN_setGate 67 = .ok (.invokevirtual 73, 3) := by decide +kernel
theorem dN_setGate_70 : decode cN_setGate 70 = .ok (.ifCond .eq 8, 3) := by decide +kernel
theorem dN_setGate_73 : decode cN_setGate 73 = .ok (.aload_n 0, 1) := by decide +kernel
theorem dN_setGate_74 : decode cN_setGate 74 = .ok (.iconst 1, 1) := by decide +kernel
theorem dN_setGate_75 : decode cN_setGate 75 = .ok (.putfield 46, 3) := by decide +kernel
theorem dN_setGate_78 : decode cN_setGate 78 = .ok (.return_, 1) := by decide +kernel
theorem dN_step_0 : decode cN_step 0 = .ok (.aload_n 0, 1) := by decide +kernel
theorem dN_step_1 : decode cN_step 1 = .ok (.invokevirtual 67, 3) := by decide +kernel
theorem dN_step_4 : decode cN_step 4 = .ok (.ifCond .ne 10, 3) := by decide +kernel
theorem dN_step_7 : decode cN_step 7 = .ok (.aload_n 0, 1) := by decide +kernel
theorem dN_step_8 : decode cN_step 8 = .ok (.invokevirtual 76, 3) := by decide +kernel
theorem dN_step_11 : decode cN_step 11 = .ok (.ifCond .eq 4, 3) := by decide +kernel
theorem dN_step_14 : decode cN_step 14 = .ok (.return_, 1) := by decide +kernel
theorem dN_step_15 : decode cN_step 15 = .ok (.aload_n 0, 1) := by decide +kernel
theorem dN_step_16 : decode cN_step 16 = .ok (.getfield 34, 3) := by decide +kernel
theorem dN_step_19 : decode cN_step 19 = .ok (.ifCond .eq 10, 3) := by decide +kernel
theorem dN_step_22 : decode cN_step 22 = .ok (.aload_n 0, 1) := by decide +kernel
theorem dN_step_23 : decode cN_step 23 = .ok (.invokevirtual 79, 3) := by decide +kernel
theorem dN_step_26 : decode cN_step 26 = .ok (.goto 28, 3) := by decide +kernel
theorem dN_step_29 : decode cN_step 29 = .ok (.aload_n 0, 1) := by decide +kernel
theorem dN_step_30 : decode cN_step 30 = .ok (.getfield 31, 3) := by decide +kernel
theorem dN_step_33 : decode cN_step 33 = .ok (.ifCond .eq 21, 3) := by decide +kernel
theorem dN_step_36 : decode cN_step 36 = .ok (.aload_n 0, 1) := by decide +kernel
theorem dN_step_37 : decode cN_step 37 = .ok (.getfield 9, 3) := by decide +kernel
theorem dN_step_40 : decode cN_step 40 = .ok (.ifCond .ne 10, 3) := by decide +kernel
theorem dN_step_43 : decode cN_step 43 = .ok (.aload_n 0, 1) := by decide +kernel
theorem dN_step_44 : decode cN_step 44 = .ok (.invokevirtual 82, 3) := by decide +kernel
theorem dN_step_47 : decode cN_step 47 = .ok (.ifCond .ne 7, 3) := by decide +kernel
theorem dN_step_50 : decode cN_step 50 = .ok (.aload_n 0, 1) := by decide +kernel
theorem dN_step_51 : decode cN_step 51 = .ok (.invokevirtual 85, 3) := by decide +kernel
theorem dN_step_54 : decode cN_step 54 = .ok (.return_, 1) := by decide +kernel
theorem dN_tell_0 : decode cN_tell 0 = .ok (.iload_n 1, 1) := by decide +kernel
theorem dN_tell_1 : decode cN_tell 1 = .ok (.tableswitch 90 0 6 #[43, 48, 56, 64, 69, 74, 82], 43) := by decide +kernel
theorem dN_tell_44 : decode cN_tell 44 = .ok (.aload_n 0, 1) := by decide +kernel
theorem dN_tell_45 : decode cN_tell 45 = .ok (.getfield 53, 3) := by decide +kernel
theorem dN_tell_48 : decode cN_tell 48 = .ok (.ireturn, 1) := by decide +kernel
theorem dN_tell_49 : decode cN_tell 49 = .ok (.aload_n 0, 1) := by decide +kernel
theorem dN_tell_50 : decode cN_tell 50 = .ok (.getfield 46, 3) := by decide +kernel
theorem dN_tell_53 : decode cN_tell 53 = .ok (.invokestatic 56, 3) := by decide +kernel
theorem dN_tell_56 : decode cN_tell 56 = .ok (.ireturn, 1) := by decide +kernel
theorem dN_tell_57 : decode cN_tell 57 = .ok (.aload_n 0, 1) := by decide +kernel
theorem dN_tell_58 : decode cN_tell 58 = .ok (.getfield 9, 3) := by decide +kernel
theorem dN_tell_61 : decode cN_tell 61 = .ok (.invokestatic 56, 3) := by decide +kernel
theorem dN_tell_64 : decode cN_tell 64 = .ok (.ireturn, 1) := by decide +kernel
theorem dN_tell_65 : decode cN_tell 65 = .ok (.aload_n 0, 1) := by decide +kernel
theorem dN_tell_66 : decode cN_tell 66 = .ok (.getfield 15, 3) := by decide +kernel
theorem dN_tell_69 : decode cN_tell 69 = .ok (.ireturn, 1) := by decide +kernel
theorem dN_tell_70 : decode cN_tell 70 = .ok (.aload_n 0, 1) := by decide +kernel
theorem dN_tell_71 : decode cN_tell 71 = .ok (.getfield 28, 3) := by decide +kernel
theorem dN_tell_74 : decode cN_tell 74 = .ok (.ireturn, 1) := by decide +kernel
theorem dN_tell_75 : decode cN_tell 75 = .ok (.aload_n 0, 1) := by decide +kernel
theorem dN_tell_76 : decode cN_tell 76 = .ok (.getfield 31, 3) := by decide +kernel
theorem dN_tell_79 : decode cN_tell 79 = .ok (.invokestatic 56, 3) := by decide +kernel
theorem dN_tell_82 : decode cN_tell 82 = .ok (.ireturn, 1) := by decide +kernel
theorem dN_tell_83 : decode cN_tell 83 = .ok (.aload_n 0, 1) := by decide +kernel
theorem dN_tell_84 : decode cN_tell 84 = .ok (.getfield 34, 3) := by decide +kernel
theorem dN_tell_87 : decode cN_tell 87 = .ok (.invokestatic 56, 3) := by decide +kernel
theorem dN_tell_90 : decode cN_tell 90 = .ok (.ireturn, 1) := by decide +kernel
theorem dN_tell_91 : decode cN_tell 91 = .ok (.iconst (-1), 1) := by decide +kernel
theorem dN_tell_92 : decode cN_tell 92 = .ok (.ireturn, 1) := by decide +kernel
theorem dN_isEmpty_0 : decode cN_isEmpty 0 = .ok (.aload_n 0, 1) := by decide +kernel
theorem dN_isEmpty_1 : decode cN_isEmpty 1 = .ok (.getfield 28, 3) := by decide +kernel
theorem dN_isEmpty_4 : decode cN_isEmpty 4 = .ok (.ifCond .ne 7, 3) := by decide +kernel
theorem dN_isEmpty_7 : decode cN_isEmpty 7 = .ok (.iconst 1, 1) := by decide +kernel
theorem dN_isEmpty_8 : decode cN_isEmpty 8 = .ok (.goto 4, 3) := by decide +kernel
theorem dN_isEmpty_11 : decode cN_isEmpty 11 = .ok (.iconst 0, 1) := by decide +kernel
theorem dN_isEmpty_12 : decode cN_isEmpty 12 = .ok (.ireturn, 1) := by decide +kernel
theorem dN_standsBetweenBytes_0 : decode cN_standsBetweenBytes 0 = .ok (.aload_n 0, 1) := by decide +kernel
theorem dN_standsBetweenBytes_1 : decode cN_standsBetweenBytes 1 = .ok (.getfield 15, 3) := by decide +kernel
theorem dN_standsBetweenBytes_4 : decode cN_standsBetweenBytes 4 = .ok (.ifCond .ne 14, 3) := by decide +kernel
theorem dN_standsBetweenBytes_7 : decode cN_standsBetweenBytes 7 = .ok (.aload_n 0, 1) := by decide +kernel
theorem dN_standsBetweenBytes_8 : decode cN_standsBetweenBytes 8 = .ok (.getfield 40, 3) := by decide +kernel
theorem dN_standsBetweenBytes_11 : decode cN_standsBetweenBytes 11 = .ok (.ifCond .eq 7, 3) := by decide +kernel
theorem dN_standsBetweenBytes_14 : decode cN_standsBetweenBytes 14 = .ok (.iconst 1, 1) := by decide +kernel
theorem dN_standsBetweenBytes_15 : decode cN_standsBetweenBytes 15 = .ok (.goto 4, 3) := by decide +kernel
theorem dN_standsBetweenBytes_18 : decode cN_standsBetweenBytes 18 = .ok (.iconst 0, 1) := by decide +kernel
theorem dN_standsBetweenBytes_19 : decode cN_standsBetweenBytes 19 = .ok (.ireturn, 1) := by decide +kernel
theorem dN_isPeriodic_0 : decode cN_isPeriodic 0 = .ok (.aload_n 0, 1) := by decide +kernel
theorem dN_isPeriodic_1 : decode cN_isPeriodic 1 = .ok (.getfield 15, 3) := by decide +kernel
theorem dN_isPeriodic_4 : decode cN_isPeriodic 4 = .ok (.iconst 2, 1) := by decide +kernel
theorem dN_isPeriodic_5 : decode cN_isPeriodic 5 = .ok (.if_icmp .eq 11, 3) := by decide +kernel
theorem dN_isPeriodic_8 : decode cN_isPeriodic 8 = .ok (.aload_n 0, 1) := by decide +kernel
theorem dN_isPeriodic_9 : decode cN_isPeriodic 9 = .ok (.getfield 15, 3) := by decide +kernel
theorem dN_isPeriodic_12 : decode cN_isPeriodic 12 = .ok (.iconst 3, 1) := by decide +kernel
theorem dN_isPeriodic_13 : decode cN_isPeriodic 13 = .ok (.if_icmp .ne 7, 3) := by decide +kernel
theorem dN_isPeriodic_16 : decode cN_isPeriodic 16 = .ok (.iconst 1, 1) := by decide +kernel
theorem dN_isPeriodic_17 : decode cN_isPeriodic 17 = .ok (.goto 4, 3) := by decide +kernel
theorem dN_isPeriodic_20 : decode cN_isPeriodic 20 = .ok (.iconst 0, 1) := by decide +kernel
theorem dN_isPeriodic_21 : decode cN_isPeriodic 21 = .ok (.ireturn, 1) := by decide +kernel
theorem dN_gateLoads_0 : decode cN_gateLoads 0 = .ok (.aload_n 0, 1) := by decide +kernel
theorem dN_gateLoads_1 : decode cN_gateLoads 1 = .ok (.getfield 15, 3) := by decide +kernel
theorem dN_gateLoads_4 : decode cN_gateLoads 4 = .ok (.iconst 1, 1) := by decide +kernel
theorem dN_gateLoads_5 : decode cN_gateLoads 5 = .ok (.if_icmp .eq 18, 3) := by decide +kernel
theorem dN_gateLoads_8 : decode cN_gateLoads 8 = .ok (.aload_n 0, 1) := by decide +kernel
theorem dN_gateLoads_9 : decode cN_gateLoads 9 = .ok (.getfield 15, 3) := by decide +kernel
theorem dN_gateLoads_12 : decode cN_gateLoads 12 = .ok (.iconst 5, 1) := by decide +kernel
theorem dN_gateLoads_13 : decode cN_gateLoads 13 = .ok (.if_icmp .eq 10, 3) := by decide +kernel
theorem dN_gateLoads_16 : decode cN_gateLoads 16 = .ok (.aload_n 0, 1) := by decide +kernel
theorem dN_gateLoads_17 : decode cN_gateLoads 17 = .ok (.invokevirtual 73, 3) := by decide +kernel
theorem dN_gateLoads_20 : decode cN_gateLoads 20 = .ok (.ifCond .eq 7, 3) := by decide +kernel
theorem dN_gateLoads_23 : decode cN_gateLoads 23 = .ok (.iconst 1, 1) := by decide +kernel
theorem dN_gateLoads_24 : decode cN_gateLoads 24 = .ok (.goto 4, 3) := by decide +kernel
theorem dN_gateLoads_27 : decode cN_gateLoads 27 = .ok (.iconst 0, 1) := by decide +kernel
theorem dN_gateLoads_28 : decode cN_gateLoads 28 = .ok (.ireturn, 1) := by decide +kernel
theorem dN_gateHoldsBack_0 : decode cN_gateHoldsBack 0 = .ok (.aload_n 0, 1) := by decide +kernel
theorem dN_gateHoldsBack_1 : decode cN_gateHoldsBack 1 = .ok (.getfield 15, 3) := by decide +kernel
theorem dN_gateHoldsBack_4 : decode cN_gateHoldsBack 4 = .ok (.iconst 1, 1) := by decide +kernel
theorem dN_gateHoldsBack_5 : decode cN_gateHoldsBack 5 = .ok (.if_icmp .eq 15, 3) := by decide +kernel
theorem dN_gateHoldsBack_8 : decode cN_gateHoldsBack 8 = .ok (.aload_n 0, 1) := by decide +kernel
theorem dN_gateHoldsBack_9 : decode cN_gateHoldsBack 9 = .ok (.getfield 15, 3) := by decide +kernel
theorem dN_gateHoldsBack_12 : decode cN_gateHoldsBack 12 = .ok (.iconst 5, 1) := by decide +kernel
theorem dN_gateHoldsBack_13 : decode cN_gateHoldsBack 13 = .ok (.if_icmp .eq 7, 3) := by decide +kernel
theorem dN_gateHoldsBack_16 : decode cN_gateHoldsBack 16 = .ok (.iconst 1, 1) := by decide +kernel
theorem dN_gateHoldsBack_17 : decode cN_gateHoldsBack 17 = .ok (.goto 4, 3) := by decide +kernel
theorem dN_gateHoldsBack_20 : decode cN_gateHoldsBack 20 = .ok (.iconst 0, 1) := by decide +kernel
theorem dN_gateHoldsBack_21 : decode cN_gateHoldsBack 21 = .ok (.ireturn, 1) := by decide +kernel
theorem dN_takeReload_0 : decode cN_takeReload 0 = .ok (.aload_n 0, 1) := by decide +kernel
theorem dN_takeReload_1 : decode cN_takeReload 1 = .ok (.invokevirtual 67, 3) := by decide +kernel
theorem dN_takeReload_4 : decode cN_takeReload 4 = .ok (.istore_n 2, 1) := by decide +kernel
theorem dN_takeReload_5 : decode cN_takeReload 5 = .ok (.aload_n 0, 1) := by decide +kernel
theorem dN_takeReload_6 : decode cN_takeReload 6 = .ok (.iload_n 1, 1) := by decide +kernel
theorem dN_takeReload_7 : decode cN_takeReload 7 = .ok (.ifCond .ne 8, 3) := by decide +kernel
theorem dN_takeReload_10 : decode cN_takeReload 10 = .ok (.ldc 88, 2) := by decide +kernel
theorem dN_takeReload_12 : decode cN_takeReload 12 = .ok (.goto 4, 3) := by decide +kernel
theorem dN_takeReload_15 : decode cN_takeReload 15 = .ok (.iload_n 1, 1) := by decide +kernel
theorem dN_takeReload_16 : decode cN_takeReload 16 = .ok (.putfield 28, 3) := by decide +kernel
theorem dN_takeReload_19 : decode cN_takeReload 19 = .ok (.aload_n 0, 1) := by decide +kernel
theorem dN_takeReload_20 : decode cN_takeReload 20 = .ok (.iconst 1, 1) := by decide +kernel
theorem dN_takeReload_21 : decode cN_takeReload 21 = .ok (.putfield 37, 3) := by decide +kernel
theorem dN_takeReload_24 : decode cN_takeReload 24 = .ok (.aload_n 0, 1) := by decide +kernel
theorem dN_takeReload_25 : decode cN_takeReload 25 = .ok (.getfield 15, 3) := by decide +kernel
theorem dN_takeReload_28 : decode cN_takeReload 28 = .ok (.ifCond .eq 22, 3) := by decide +kernel
theorem dN_takeReload_31 : decode cN_takeReload 31 = .ok (.aload_n 0, 1) := by decide +kernel
theorem dN_takeReload_32 : decode cN_takeReload 32 = .ok (.getfield 15, 3) := by decide +kernel
theorem dN_takeReload_35 : decode cN_takeReload 35 = .ok (.iconst 4, 1) := by decide +kernel
theorem dN_takeReload_36 : decode cN_takeReload 36 = .ok (.if_icmp .eq 14, 3) := by decide +kernel
theorem dN_takeReload_39 : decode cN_takeReload 39 = .ok (.aload_n 0, 1) := by decide +kernel
theorem dN_takeReload_40 : decode cN_takeReload 40 = .ok (.invokevirtual 73, 3) := by decide +kernel
theorem dN_takeReload_43 : decode cN_takeReload 43 = .ok (.ifCond .eq 12, 3) := by decide +kernel
theorem dN_takeReload_46 : decode cN_takeReload 46 = .ok (.iload_n 2, 1) := by decide +kernel
theorem dN_takeReload_47 : decode cN_takeReload 47 = .ok (.ifCond .eq 8, 3) := by decide +kernel
theorem dN_takeReload_50 : decode cN_takeReload 50 = .ok (.aload_n 0, 1) := by decide +kernel
theorem dN_takeReload_51 : decode cN_takeReload 51 = .ok (.iconst 1, 1) := by decide +kernel
theorem dN_takeReload_52 : decode cN_takeReload 52 = .ok (.putfield 34, 3) := by decide +kernel
theorem dN_takeReload_55 : decode cN_takeReload 55 = .ok (.aload_n 0, 1) := by decide +kernel
theorem dN_takeReload_56 : decode cN_takeReload 56 = .ok (.getfield 15, 3) := by decide +kernel
theorem dN_takeReload_59 : decode cN_takeReload 59 = .ok (.ifCond .ne 8, 3) := by decide +kernel
theorem dN_takeReload_62 : decode cN_takeReload 62 = .ok (.aload_n 0, 1) := by decide +kernel
theorem dN_takeReload_63 : decode cN_takeReload 63 = .ok (.iconst 0, 1) := by decide +kernel
theorem dN_takeReload_64 : decode cN_takeReload 64 = .ok (.putfield 46, 3) := by decide +kernel
theorem dN_takeReload_67 : decode cN_takeReload 67 = .ok (.return_, 1) := by decide +kernel
theorem dN_load_0 : decode cN_load 0 = .ok (.aload_n 0, 1) := by decide +kernel
theorem dN_load_1 : decode cN_load 1 = .ok (.iconst 0, 1) := by decide +kernel
theorem dN_load_2 : decode cN_load 2 = .ok (.putfield 34, 3) := by decide +kernel
theorem dN_load_5 : decode cN_load 5 = .ok (.aload_n 0, 1) := by decide +kernel
theorem dN_load_6 : decode cN_load 6 = .ok (.iconst 1, 1) := by decide +kernel
theorem dN_load_7 : decode cN_load 7 = .ok (.putfield 31, 3) := by decide +kernel
theorem dN_load_10 : decode cN_load 10 = .ok (.aload_n 0, 1) := by decide +kernel
theorem dN_load_11 : decode cN_load 11 = .ok (.getfield 15, 3) := by decide +kernel
theorem dN_load_14 : decode cN_load 14 = .ok (.iconst 1, 1) := by decide +kernel
theorem dN_load_15 : decode cN_load 15 = .ok (.if_icmp .ne 11, 3) := by decide +kernel
theorem dN_load_18 : decode cN_load 18 = .ok (.aload_n 0, 1) := by decide +kernel
theorem dN_load_19 : decode cN_load 19 = .ok (.iconst 0, 1) := by decide +kernel
theorem dN_load_20 : decode cN_load 20 = .ok (.putfield 46, 3) := by decide +kernel
theorem dN_load_23 : decode cN_load 23 = .ok (.goto 15, 3) := by decide +kernel
theorem dN_load_26 : decode cN_load 26 = .ok (.aload_n 0, 1) := by decide +kernel
theorem dN_load_27 : decode cN_load 27 = .ok (.invokevirtual 73, 3) := by decide +kernel
theorem dN_load_30 : decode cN_load 30 = .ok (.ifCond .eq 8, 3) := by decide +kernel
theorem dN_load_33 : decode cN_load 33 = .ok (.aload_n 0, 1) := by decide +kernel
theorem dN_load_34 : decode cN_load 34 = .ok (.iconst 1, 1) := by decide +kernel
theorem dN_load_35 : decode cN_load 35 = .ok (.putfield 46, 3) := by decide +kernel
theorem dN_load_38 : decode cN_load 38 = .ok (.aload_n 0, 1) := by decide +kernel
theorem dN_load_39 : decode cN_load 39 = .ok (.aload_n 0, 1) := by decide +kernel
theorem dN_load_40 : decode cN_load 40 = .ok (.getfield 15, 3) := by decide +kernel
theorem dN_load_43 : decode cN_load 43 = .ok (.iconst 3, 1) := by decide +kernel
theorem dN_load_44 : decode cN_load 44 = .ok (.if_icmp .ne 12, 3) := by decide +kernel
theorem dN_load_47 : decode cN_load 47 = .ok (.iconst 2, 1) := by decide +kernel
theorem dN_load_48 : decode cN_load 48 = .ok (.aload_n 0, 1) := by decide +kernel
theorem dN_load_49 : decode cN_load 49 = .ok (.invokevirtual 89, 3) := by decide +kernel
theorem dN_load_52 : decode cN_load 52 = .ok (.imul, 1) := by decide +kernel
theorem dN_load_53 : decode cN_load 53 = .ok (.goto 7, 3) := by decide +kernel
theorem dN_load_56 : decode cN_load 56 = .ok (.aload_n 0, 1) := by decide +kernel
theorem dN_load_57 : decode cN_load 57 = .ok (.getfield 28, 3) := by decide +kernel
theorem dN_load_60 : decode cN_load 60 = .ok (.invokevirtual 93, 3) := by decide +kernel
theorem dN_load_63 : decode cN_load 63 = .ok (.return_, 1) := by decide +kernel
theorem dN_partTicks_0 : decode cN_partTicks 0 = .ok (.aload_n 0, 1) := by decide +kernel
theorem dN_partTicks_1 : decode cN_partTicks 1 = .ok (.getfield 46, 3) := by decide +kernel
theorem dN_partTicks_4 : decode cN_partTicks 4 = .ok (.ifCond .eq 14, 3) := by decide +kernel
theorem dN_partTicks_7 : decode cN_partTicks 7 = .ok (.aload_n 0, 1) := by decide +kernel
theorem dN_partTicks_8 : decode cN_partTicks 8 = .ok (.getfield 28, 3) := by decide +kernel
theorem dN_partTicks_11 : decode cN_partTicks 11 = .ok (.iconst 1, 1) := by decide +kernel
theorem dN_partTicks_12 : decode cN_partTicks 12 = .ok (.iadd, 1) := by decide +kernel
theorem dN_partTicks_13 : decode cN_partTicks 13 = .ok (.iconst 2, 1) := by decide +kernel
theorem dN_partTicks_14 : decode cN_partTicks 14 = .ok (.idiv, 1) := by decide +kernel
theorem dN_partTicks_15 : decode cN_partTicks 15 = .ok (.goto 9, 3) := by decide +kernel
theorem dN_partTicks_18 : decode cN_partTicks 18 = .ok (.aload_n 0, 1) := by decide +kernel
theorem dN_partTicks_19 : decode cN_partTicks 19 = .ok (.getfield 28, 3) := by decide +kernel
theorem dN_partTicks_22 : decode cN_partTicks 22 = .ok (.iconst 2, 1) := by decide +kernel
theorem dN_partTicks_23 : decode cN_partTicks 23 = .ok (.idiv, 1) := by decide +kernel
theorem dN_partTicks_24 : decode cN_partTicks 24 = .ok (.ireturn, 1) := by decide +kernel
theorem dN_setCount_0 : decode cN_setCount 0 = .ok (.aload_n 0, 1) := by decide +kernel
theorem dN_setCount_1 : decode cN_setCount 1 = .ok (.iload_n 1, 1) := by decide +kernel
theorem dN_setCount_2 : decode cN_setCount 2 = .ok (.ldc 96, 2) := by decide +kernel
theorem dN_setCount_4 : decode cN_setCount 4 = .ok (.iand, 1) := by decide +kernel
theorem dN_setCount_5 : decode cN_setCount 5 = .ok (.putfield 53, 3) := by decide +kernel
theorem dN_setCount_8 : decode cN_setCount 8 = .ok (.aload_n 0, 1) := by decide +kernel
theorem dN_setCount_9 : decode cN_setCount 9 = .ok (.iconst 0, 1) := by decide +kernel
theorem dN_setCount_10 : decode cN_setCount 10 = .ok (.putfield 37, 3) := by decide +kernel
theorem dN_setCount_13 : decode cN_setCount 13 = .ok (.return_, 1) := by decide +kernel
theorem dN_countDown_0 : decode cN_countDown 0 = .ok (.aload_n 0, 1) := by decide +kernel
theorem dN_countDown_1 : decode cN_countDown 1 = .ok (.getfield 15, 3) := by decide +kernel
theorem dN_countDown_4 : decode cN_countDown 4 = .ok (.tableswitch 53 2 5 #[32, 39, 46, 46], 32) := by decide +kernel
theorem dN_countDown_36 : decode cN_countDown 36 = .ok (.aload_n 0, 1) := by decide +kernel
theorem dN_countDown_37 : decode cN_countDown 37 = .ok (.invokevirtual 97, 3) := by decide +kernel
theorem dN_countDown_40 : decode cN_countDown 40 = .ok (.goto 21, 3) := by decide +kernel
theorem dN_countDown_43 : decode cN_countDown 43 = .ok (.aload_n 0, 1) := by decide +kernel
theorem dN_countDown_44 : decode cN_countDown 44 = .ok (.invokevirtual 100, 3) := by decide +kernel
theorem dN_countDown_47 : decode cN_countDown 47 = .ok (.goto 14, 3) := by decide +kernel
theorem dN_countDown_50 : decode cN_countDown 50 = .ok (.aload_n 0, 1) := by decide +kernel
theorem dN_countDown_51 : decode cN_countDown 51 = .ok (.invokevirtual 103, 3) := by decide +kernel
theorem dN_countDown_54 : decode cN_countDown 54 = .ok (.goto 7, 3) := by decide +kernel
theorem dN_countDown_57 : decode cN_countDown 57 = .ok (.aload_n 0, 1) := by decide +kernel
theorem dN_countDown_58 : decode cN_countDown 58 = .ok (.invokevirtual 106, 3) := by decide +kernel
theorem dN_countDown_61 : decode cN_countDown 61 = .ok (.return_, 1) := by decide +kernel
theorem dN_lessen_0 : decode cN_lessen 0 = .ok (.aload_n 0, 1) := by decide +kernel
theorem dN_lessen_1 : decode cN_lessen 1 = .ok (.aload_n 0, 1) := by decide +kernel
theorem dN_lessen_2 : decode cN_lessen 2 = .ok (.getfield 53, 3) := by decide +kernel
theorem dN_lessen_5 : decode cN_lessen 5 = .ok (.iload_n 1, 1) := by decide +kernel
theorem dN_lessen_6 : decode cN_lessen 6 = .ok (.isub, 1) := by decide +kernel
theorem dN_lessen_7 : decode cN_lessen 7 = .ok (.ldc 96, 2) := by decide +kernel
theorem dN_lessen_9 : decode cN_lessen 9 = .ok (.iand, 1) := by decide +kernel
theorem dN_lessen_10 : decode cN_lessen 10 = .ok (.putfield 53, 3) := by decide +kernel
theorem dN_lessen_13 : decode cN_lessen 13 = .ok (.return_, 1) := by decide +kernel
theorem dN_stepOnce_0 : decode cN_stepOnce 0 = .ok (.aload_n 0, 1) := by decide +kernel
theorem dN_stepOnce_1 : decode cN_stepOnce 1 = .ok (.iconst 1, 1) := by decide +kernel
theorem dN_stepOnce_2 : decode cN_stepOnce 2 = .ok (.invokevirtual 109, 3) := by decide +kernel
theorem dN_stepOnce_5 : decode cN_stepOnce 5 = .ok (.aload_n 0, 1) := by decide +kernel
theorem dN_stepOnce_6 : decode cN_stepOnce 6 = .ok (.getfield 53, 3) := by decide +kernel
theorem dN_stepOnce_9 : decode cN_stepOnce 9 = .ok (.ifCond .ne 8, 3) := by decide +kernel
theorem dN_stepOnce_12 : decode cN_stepOnce 12 = .ok (.aload_n 0, 1) := by decide +kernel
theorem dN_stepOnce_13 : decode cN_stepOnce 13 = .ok (.iconst 1, 1) := by decide +kernel
theorem dN_stepOnce_14 : decode cN_stepOnce 14 = .ok (.putfield 46, 3) := by decide +kernel
theorem dN_stepOnce_17 : decode cN_stepOnce 17 = .ok (.return_, 1) := by decide +kernel
theorem dN_stepRate_0 : decode cN_stepRate 0 = .ok (.aload_n 0, 1) := by decide +kernel
theorem dN_stepRate_1 : decode cN_stepRate 1 = .ok (.getfield 53, 3) := by decide +kernel
theorem dN_stepRate_4 : decode cN_stepRate 4 = .ok (.iconst 1, 1) := by decide +kernel
theorem dN_stepRate_5 : decode cN_stepRate 5 = .ok (.if_icmp .ne 19, 3) := by decide +kernel
theorem dN_stepRate_8 : decode cN_stepRate 8 = .ok (.aload_n 0, 1) := by decide +kernel
theorem dN_stepRate_9 : decode cN_stepRate 9 = .ok (.aload_n 0, 1) := by decide +kernel
theorem dN_stepRate_10 : decode cN_stepRate 10 = .ok (.getfield 28, 3) := by decide +kernel
theorem dN_stepRate_13 : decode cN_stepRate 13 = .ok (.invokevirtual 93, 3) := by decide +kernel
theorem dN_stepRate_16 : decode cN_stepRate 16 = .ok (.aload_n 0, 1) := by decide +kernel
theorem dN_stepRate_17 : decode cN_stepRate 17 = .ok (.iconst 1, 1) := by decide +kernel
theorem dN_stepRate_18 : decode cN_stepRate 18 = .ok (.putfield 46, 3) := by decide +kernel
theorem dN_stepRate_21 : decode cN_stepRate 21 = .ok (.goto 8, 3) := by decide +kernel
theorem dN_stepRate_24 : decode cN_stepRate 24 = .ok (.aload_n 0, 1) := by decide +kernel
theorem dN_stepRate_25 : decode cN_stepRate 25 = .ok (.iconst 1, 1) := by decide +kernel
theorem dN_stepRate_26 : decode cN_stepRate 26 = .ok (.invokevirtual 109, 3) := by decide +kernel
theorem dN_stepRate_29 : decode cN_stepRate 29 = .ok (.aload_n 0, 1) := by decide +kernel
theorem dN_stepRate_30 : decode cN_stepRate 30 = .ok (.getfield 53, 3) := by decide +kernel
theorem dN_stepRate_33 : decode cN_stepRate 33 = .ok (.iconst 1, 1) := by decide +kernel
theorem dN_stepRate_34 : decode cN_stepRate 34 = .ok (.if_icmp .ne 8, 3) := by decide +kernel
theorem dN_stepRate_37 : decode cN_stepRate 37 = .ok (.aload_n 0, 1) := by decide +kernel
theorem dN_stepRate_38 : decode cN_stepRate 38 = .ok (.iconst 0, 1) := by decide +kernel
theorem dN_stepRate_39 : decode cN_stepRate 39 = .ok (.putfield 46, 3) := by decide +kernel
theorem dN_stepRate_42 : decode cN_stepRate 42 = .ok (.return_, 1) := by decide +kernel
theorem dN_stepSquare_0 : decode cN_stepSquare 0 = .ok (.aload_n 0, 1) := by decide +kernel
theorem dN_stepSquare_1 : decode cN_stepSquare 1 = .ok (.iconst 2, 1) := by decide +kernel
theorem dN_stepSquare_2 : decode cN_stepSquare 2 = .ok (.invokevirtual 109, 3) := by decide +kernel
theorem dN_stepSquare_5 : decode cN_stepSquare 5 = .ok (.aload_n 0, 1) := by decide +kernel
theorem dN_stepSquare_6 : decode cN_stepSquare 6 = .ok (.getfield 53, 3) := by decide +kernel
theorem dN_stepSquare_9 : decode cN_stepSquare 9 = .ok (.ifCond .ne 52, 3) := by decide +kernel
theorem dN_stepSquare_12 : decode cN_stepSquare 12 = .ok (.aload_n 0, 1) := by decide +kernel
theorem dN_stepSquare_13 : decode cN_stepSquare 13 = .ok (.aload_n 0, 1) := by decide +kernel
theorem dN_stepSquare_14 : decode cN_stepSquare 14 = .ok (.getfield 46, 3) := by decide +kernel
theorem dN_stepSquare_17 : decode cN_stepSquare 17 = .ok (.ifCond .ne 7, 3) := by decide +kernel
theorem dN_stepSquare_20 : decode cN_stepSquare 20 = .ok (.iconst 1, 1) := by decide +kernel
theorem dN_stepSquare_21 : decode cN_stepSquare 21 = .ok (.goto 4, 3) := by decide +kernel
theorem dN_stepSquare_24 : decode cN_stepSquare 24 = .ok (.iconst 0, 1) := by decide +kernel
theorem dN_stepSquare_25 : decode cN_stepSquare 25 = .ok (.putfield 46, 3) := by decide +kernel
theorem dN_stepSquare_28 : decode cN_stepSquare 28 = .ok (.aload_n 0, 1) := by decide +kernel
theorem dN_stepSquare_29 : decode cN_stepSquare 29 = .ok (.invokevirtual 89, 3) := by decide +kernel
theorem dN_stepSquare_32 : decode cN_stepSquare 32 = .ok (.ifCond .ne 19, 3) := by decide +kernel
theorem dN_stepSquare_35 : decode cN_stepSquare 35 = .ok (.aload_n 0, 1) := by decide +kernel
theorem dN_stepSquare_36 : decode cN_stepSquare 36 = .ok (.aload_n 0, 1) := by decide +kernel
theorem dN_stepSquare_37 : decode cN_stepSquare 37 = .ok (.getfield 46, 3) := by decide +kernel
theorem dN_stepSquare_40 : decode cN_stepSquare 40 = .ok (.ifCond .ne 7, 3) := by decide +kernel
theorem dN_stepSquare_43 : decode cN_stepSquare 43 = .ok (.iconst 1, 1) := by decide +kernel
theorem dN_stepSquare_44 : decode cN_stepSquare 44 = .ok (.goto 4, 3) := by decide +kernel
theorem dN_stepSquare_47 : decode cN_stepSquare 47 = .ok (.iconst 0, 1) := by decide +kernel
theorem dN_stepSquare_48 : decode cN_stepSquare 48 = .ok (.putfield 46, 3) := by decide +kernel
theorem dN_stepSquare_51 : decode cN_stepSquare 51 = .ok (.aload_n 0, 1) := by decide +kernel
theorem dN_stepSquare_52 : decode cN_stepSquare 52 = .ok (.iconst 2, 1) := by decide +kernel
theorem dN_stepSquare_53 : decode cN_stepSquare 53 = .ok (.aload_n 0, 1) := by decide +kernel
theorem dN_stepSquare_54 : decode cN_stepSquare 54 = .ok (.invokevirtual 89, 3) := by decide +kernel
theorem dN_stepSquare_57 : decode cN_stepSquare 57 = .ok (.imul, 1) := by decide +kernel
theorem dN_stepSquare_58 : decode cN_stepSquare 58 = .ok (.invokevirtual 93, 3) := by decide +kernel
theorem dN_stepSquare_61 : decode cN_stepSquare 61 = .ok (.return_, 1) := by decide +kernel
theorem dN_stepStrobe_0 : decode cN_stepStrobe 0 = .ok (.aload_n 0, 1) := by decide +kernel
theorem dN_stepStrobe_1 : decode cN_stepStrobe 1 = .ok (.iconst 1, 1) := by decide +kernel
theorem dN_stepStrobe_2 : decode cN_stepStrobe 2 = .ok (.invokevirtual 109, 3) := by decide +kernel
theorem dN_stepStrobe_5 : decode cN_stepStrobe 5 = .ok (.aload_n 0, 1) := by decide +kernel
theorem dN_stepStrobe_6 : decode cN_stepStrobe 6 = .ok (.aload_n 0, 1) := by decide +kernel
theorem dN_stepStrobe_7 : decode cN_stepStrobe 7 = .ok (.getfield 53, 3) := by decide +kernel
theorem dN_stepStrobe_10 : decode cN_stepStrobe 10 = .ok (.ifCond .eq 7, 3) := by decide +kernel
theorem dN_stepStrobe_13 : decode cN_stepStrobe 13 = .ok (.iconst 1, 1) := by decide +kernel
theorem dN_stepStrobe_14 : decode cN_stepStrobe 14 = .ok (.goto 4, 3) := by decide +kernel
theorem dN_stepStrobe_17 : decode cN_stepStrobe 17 = .ok (.iconst 0, 1) := by decide +kernel
theorem dN_stepStrobe_18 : decode cN_stepStrobe 18 = .ok (.putfield 46, 3) := by decide +kernel
theorem dN_stepStrobe_21 : decode cN_stepStrobe 21 = .ok (.return_, 1) := by decide +kernel
theorem dC_init_0 : decode cC_init 0 = .ok (.aload_n 0, 1) := by decide +kernel
theorem dC_init_1 : decode cC_init 1 = .ok (.invokespecial 3, 3) := by decide +kernel
theorem dC_init_4 : decode cC_init 4 = .ok (.aload_n 0, 1) := by decide +kernel
theorem dC_init_5 : decode cC_init 5 = .ok (.iload_n 1, 1) := by decide +kernel
theorem dC_init_6 : decode cC_init 6 = .ok (.putfield 9, 3) := by decide +kernel
theorem dC_init_9 : decode cC_init 9 = .ok (.aload_n 0, 1) := by decide +kernel
theorem dC_init_10 : decode cC_init 10 = .ok (.bipush 7, 2) := by decide +kernel
theorem dC_init_12 : decode cC_init 12 = .ok (.putfield 15, 3) := by decide +kernel
theorem dC_init_15 : decode cC_init 15 = .ok (.return_, 1) := by decide +kernel
theorem dC_setLine_0 : decode cC_setLine 0 = .ok (.iconst 1, 1) := by decide +kernel
theorem dC_setLine_1 : decode cC_setLine 1 = .ok (.iload_n 1, 1) := by decide +kernel
theorem dC_setLine_2 : decode cC_setLine 2 = .ok (.ishl, 1) := by decide +kernel
theorem dC_setLine_3 : decode cC_setLine 3 = .ok (.istore_n 3, 1) := by decide +kernel
theorem dC_setLine_4 : decode cC_setLine 4 = .ok (.iload_n 2, 1) := by decide +kernel
theorem dC_setLine_5 : decode cC_setLine 5 = .ok (.ifCond .eq 33, 3) := by decide +kernel
theorem dC_setLine_8 : decode cC_setLine 8 = .ok (.aload_n 0, 1) := by decide +kernel
theorem dC_setLine_9 : decode cC_setLine 9 = .ok (.dup, 1) := by decide +kernel
theorem dC_setLine_10 : decode cC_setLine 10 = .ok (.getfield 19, 3) := by decide +kernel
theorem dC_setLine_13 : decode cC_setLine 13 = .ok (.iload_n 3, 1) := by decide +kernel
theorem dC_setLine_14 : decode cC_setLine 14 = .ok (.aload_n 0, 1) := by decide +kernel
theorem dC_setLine_15 : decode cC_setLine 15 = .ok (.getfield 22, 3) := by decide +kernel
theorem dC_setLine_18 : decode cC_setLine 18 = .ok (.iconst (-1), 1) := by decide +kernel
theorem dC_setLine_19 : decode cC_setLine 19 = .ok (.ixor, 1) := by decide +kernel
theorem dC_setLine_20 : decode cC_setLine 20 = .ok (.iand, 1) := by decide +kernel
theorem dC_setLine_21 : decode cC_setLine 21 = .ok (.ior, 1) := by decide +kernel
theorem dC_setLine_22 : decode cC_setLine 22 = .ok (.putfield 19, 3) := by decide +kernel
theorem dC_setLine_25 : decode cC_setLine 25 = .ok (.aload_n 0, 1) := by decide +kernel
theorem dC_setLine_26 : decode cC_setLine 26 = .ok (.dup, 1) := by decide +kernel
theorem dC_setLine_27 : decode cC_setLine 27 = .ok (.getfield 22, 3) := by decide +kernel
theorem dC_setLine_30 : decode cC_setLine 30 = .ok (.iload_n 3, 1) := by decide +kernel
theorem dC_setLine_31 : decode cC_setLine 31 = .ok (.ior, 1) := by decide +kernel
theorem dC_setLine_32 : decode cC_setLine 32 = .ok (.putfield 22, 3) := by decide +kernel
theorem dC_setLine_35 : decode cC_setLine 35 = .ok (.goto 15, 3) := by decide +kernel
theorem dC_setLine_38 : decode cC_setLine 38 = .ok (.aload_n 0, 1) := by decide +kernel
theorem dC_setLine_39 : decode cC_setLine 39 = .ok (.dup, 1) := by decide +kernel
theorem dC_setLine_40 : decode cC_setLine 40 = .ok (.getfield 22, 3) := by decide +kernel
theorem dC_setLine_43 : decode cC_setLine 43 = .ok (.iload_n 3, 1) := by decide +kernel
theorem dC_setLine_44 : decode cC_setLine 44 = .ok (.iconst (-1), 1) := by decide +kernel
theorem dC_setLine_45 : decode cC_setLine 45 = .ok (.ixor, 1) := by decide +kernel
theorem dC_setLine_46 : decode cC_setLine 46 = .ok (.iand, 1) := by decide +kernel
theorem dC_setLine_47 : decode cC_setLine 47 = .ok (.putfield 22, 3) := by decide +kernel
theorem dC_setLine_50 : decode cC_setLine 50 = .ok (.return_, 1) := by decide +kernel
theorem dC_chosenLevel_0 : decode cC_chosenLevel 0 = .ok (.aload_n 0, 1) := by decide +kernel
theorem dC_chosenLevel_1 : decode cC_chosenLevel 1 = .ok (.getfield 25, 3) := by decide +kernel
theorem dC_chosenLevel_4 : decode cC_chosenLevel 4 = .ok (.ifCond .ne 5, 3) := by decide +kernel
theorem dC_chosenLevel_7 : decode cC_chosenLevel 7 = .ok (.iconst (-1), 1) := by decide +kernel
theorem dC_chosenLevel_8 : decode cC_chosenLevel 8 = .ok (.ireturn, 1) := by decide +kernel
theorem dC_chosenLevel_9 : decode cC_chosenLevel 9 = .ok (.aload_n 0, 1) := by decide +kernel
theorem dC_chosenLevel_10 : decode cC_chosenLevel 10 = .ok (.invokevirtual 28, 3) := by decide +kernel
theorem dC_chosenLevel_13 : decode cC_chosenLevel 13 = .ok (.aload_n 0, 1) := by decide +kernel
theorem dC_chosenLevel_14 : decode cC_chosenLevel 14 = .ok (.getfield 32, 3) := by decide +kernel
theorem dC_chosenLevel_17 : decode cC_chosenLevel 17 = .ok (.iconst (-1), 1) := by decide +kernel
theorem dC_chosenLevel_18 : decode cC_chosenLevel 18 = .ok (.ixor, 1) := by decide +kernel
theorem dC_chosenLevel_19 : decode cC_chosenLevel 19 = .ok (.iand, 1) := by decide +kernel
theorem dC_chosenLevel_20 : decode cC_chosenLevel 20 = .ok (.istore_n 1, 1) := by decide +kernel
theorem dC_chosenLevel_21 : decode cC_chosenLevel 21 = .ok (.aload_n 0, 1) := by decide +kernel
theorem dC_chosenLevel_22 : decode cC_chosenLevel 22 = .ok (.invokevirtual 35, 3) := by decide +kernel
theorem dC_chosenLevel_25 : decode cC_chosenLevel 25 = .ok (.istore_n 2, 1) := by decide +kernel
theorem dC_chosenLevel_26 : decode cC_chosenLevel 26 = .ok (.iconst 1, 1) := by decide +kernel
theorem dC_chosenLevel_27 : decode cC_chosenLevel 27 = .ok (.istore_n 3, 1) := by decide +kernel
theorem dC_chosenLevel_28 : decode cC_chosenLevel 28 = .ok (.iload_n 3, 1) := by decide +kernel
theorem dC_chosenLevel_29 : decode cC_chosenLevel 29 = .ok (.bipush 8, 2) := by decide +kernel
theorem dC_chosenLevel_31 : decode cC_chosenLevel 31 = .ok (.if_icmp .gt 65, 3) := by decide +kernel
theorem dC_chosenLevel_34 : decode cC_chosenLevel 34 = .ok (.aload_n 0, 1) := by decide +kernel
theorem dC_chosenLevel_35 : decode cC_chosenLevel 35 = .ok (.getfield 15, 3) := by decide +kernel
theorem dC_chosenLevel_38 : decode cC_chosenLevel 38 = .ok (.iload_n 3, 1) := by decide +kernel
theorem dC_chosenLevel_39 : decode cC_chosenLevel 39 = .ok (.iadd, 1) := by decide +kernel
theorem dC_chosenLevel_40 : decode cC_chosenLevel 40 = .ok (.bipush 7, 2) := by decide +kernel
theorem dC_chosenLevel_42 : decode cC_chosenLevel 42 = .ok (.iand, 1) := by decide +kernel
theorem dC_chosenLevel_43 : decode cC_chosenLevel 43 = .ok (.istore 4, 2) := by decide +kernel
theorem dC_chosenLevel_45 : decode cC_chosenLevel 45 = .ok (.iload_n 2, 1) := by decide +kernel
theorem dC_chosenLevel_46 : decode cC_chosenLevel 46 = .ok (.iload 4, 2) := by decide +kernel
theorem dC_chosenLevel_48 : decode cC_chosenLevel 48 = .ok (.invokestatic 38, 3) := by decide +kernel
theorem dC_chosenLevel_51 : decode cC_chosenLevel 51 = .ok (.istore 5, 2) := by decide +kernel
theorem dC_chosenLevel_53 : decode cC_chosenLevel 53 = .ok (.iload_n 1, 1) := by decide +kernel
theorem dC_chosenLevel_54 : decode cC_chosenLevel 54 = .ok (.iload 4, 2) := by decide +kernel
theorem dC_chosenLevel_56 : decode cC_chosenLevel 56 = .ok (.invokestatic 38, 3) := by decide +kernel
theorem dC_chosenLevel_59 : decode cC_chosenLevel 59 = .ok (.ifCond .eq 24, 3) := by decide +kernel
theorem dC_chosenLevel_62 : decode cC_chosenLevel 62 = .ok (.iload 5, 2) := by decide +kernel
theorem dC_chosenLevel_64 : decode cC_chosenLevel 64 = .ok (.ifCond .eq 16, 3) := by decide +kernel
theorem dC_chosenLevel_67 : decode cC_chosenLevel 67 = .ok (.aload_n 0, 1) := by decide +kernel
theorem dC_chosenLevel_68 : decode cC_chosenLevel 68 = .ok (.iload 4, 2) := by decide +kernel
theorem dC_chosenLevel_70 : decode cC_chosenLevel 70 = .ok (.invokevirtual 42, 3) := by decide +kernel
theorem dC_chosenLevel_73 : decode cC_chosenLevel 73 = .ok (.ifCond .ne 7, 3) := by decide +kernel
theorem dC_chosenLevel_76 : decode cC_chosenLevel 76 = .ok (.iconst (-1), 1) := by decide +kernel
theorem dC_chosenLevel_77 : decode cC_chosenLevel 77 = .ok (.goto 5, 3) := by decide +kernel
theorem dC_chosenLevel_80 : decode cC_chosenLevel 80 = .ok (.iload 4, 2) := by decide +kernel
theorem dC_chosenLevel_82 : decode cC_chosenLevel 82 = .ok (.ireturn, 1) := by decide +kernel
theorem dC_chosenLevel_83 : decode cC_chosenLevel 83 = .ok (.iload 5, 2) := by decide +kernel
theorem dC_chosenLevel_85 : decode cC_chosenLevel 85 = .ok (.ifCond .eq 5, 3) := by decide +kernel
theorem dC_chosenLevel_88 : decode cC_chosenLevel 88 = .ok (.iconst (-1), 1) := by decide +kernel
theorem dC_chosenLevel_89 : decode cC_chosenLevel 89 = .ok (.ireturn, 1) := by decide +kernel
theorem dC_chosenLevel_90 : decode cC_chosenLevel 90 = .ok (.iinc 3 1, 3) := by decide +kernel
theorem dC_chosenLevel_93 : decode cC_chosenLevel 93 = .ok (.goto (-65), 3) := by decide +kernel
theorem dC_chosenLevel_96 : decode cC_chosenLevel 96 = .ok (.iconst (-1), 1) := by decide +kernel
theorem dC_chosenLevel_97 : decode cC_chosenLevel 97 = .ok (.ireturn, 1) := by decide +kernel
theorem dC_serveChosen_0 : decode cC_serveChosen 0 = .ok (.aload_n 0, 1) := by decide +kernel
theorem dC_serveChosen_1 : decode cC_serveChosen 1 = .ok (.invokevirtual 46, 3) := by decide +kernel
theorem dC_serveChosen_4 : decode cC_serveChosen 4 = .ok (.istore_n 1, 1) := by decide +kernel
theorem dC_serveChosen_5 : decode cC_serveChosen 5 = .ok (.iload_n 1, 1) := by decide +kernel
theorem dC_serveChosen_6 : decode cC_serveChosen 6 = .ok (.iconst (-1), 1) := by decide +kernel
theorem dC_serveChosen_7 : decode cC_serveChosen 7 = .ok (.if_icmp .eq 8, 3) := by decide +kernel
theorem dC_serveChosen_10 : decode cC_serveChosen 10 = .ok (.aload_n 0, 1) := by decide +kernel
theorem dC_serveChosen_11 : decode cC_serveChosen 11 = .ok (.iload_n 1, 1) := by decide +kernel
theorem dC_serveChosen_12 : decode cC_serveChosen 12 = .ok (.invokevirtual 49, 3) := by decide +kernel
theorem dC_serveChosen_15 : decode cC_serveChosen 15 = .ok (.iload_n 1, 1) := by decide +kernel
theorem dC_serveChosen_16 : decode cC_serveChosen 16 = .ok (.ireturn, 1) := by decide +kernel
theorem dC_vectorOf_0 : decode cC_vectorOf 0 = .ok (.aload_n 0, 1) := by decide +kernel
theorem dC_vectorOf_1 : decode cC_vectorOf 1 = .ok (.getfield 53, 3) := by decide +kernel
theorem dC_vectorOf_4 : decode cC_vectorOf 4 = .ok (.iload_n 1, 1) := by decide +kernel
theorem dC_vectorOf_5 : decode cC_vectorOf 5 = .ok (.iconst (-1), 1) := by decide +kernel
theorem dC_vectorOf_6 : decode cC_vectorOf 6 = .ok (.if_icmp .ne 8, 3) := by decide +kernel
theorem dC_vectorOf_9 : decode cC_vectorOf 9 = .ok (.bipush 7, 2) := by decide +kernel
theorem dC_vectorOf_11 : decode cC_vectorOf 11 = .ok (.goto 4, 3) := by decide +kernel
theorem dC_vectorOf_14 : decode cC_vectorOf 14 = .ok (.iload_n 1, 1) := by decide +kernel
theorem dC_vectorOf_15 : decode cC_vectorOf 15 = .ok (.iadd, 1) := by decide +kernel
theorem dC_vectorOf_16 : decode cC_vectorOf 16 = .ok (.ireturn, 1) := by decide +kernel
theorem dC_takeSideZero_0 : decode cC_takeSideZero 0 = .ok (.iload_n 1, 1) := by decide +kernel
theorem dC_takeSideZero_1 : decode cC_takeSideZero 1 = .ok (.iconst 4, 1) := by decide +kernel
theorem dC_takeSideZero_2 : decode cC_takeSideZero 2 = .ok (.invokestatic 38, 3) := by decide +kernel
theorem dC_takeSideZero_5 : decode cC_takeSideZero 5 = .ok (.ifCond .eq 11, 3) := by decide +kernel
theorem dC_takeSideZero_8 : decode cC_takeSideZero 8 = .ok (.aload_n 0, 1) := by decide +kernel
theorem dC_takeSideZero_9 : decode cC_takeSideZero 9 = .ok (.iload_n 1, 1) := by decide +kernel
theorem dC_takeSideZero_10 : decode cC_takeSideZero 10 = .ok (.invokevirtual 56, 3) := by decide +kernel
theorem dC_takeSideZero_13 : decode cC_takeSideZero 13 = .ok (.goto 44, 3) := by decide +kernel
theorem dC_takeSideZero_16 : decode cC_takeSideZero 16 = .ok (.aload_n 0, 1) := by decide +kernel
theorem dC_takeSideZero_17 : decode cC_takeSideZero 17 = .ok (.getfield 25, 3) := by decide +kernel
theorem dC_takeSideZero_20 : decode cC_takeSideZero 20 = .ok (.ifCond .eq 19, 3) := by decide +kernel
theorem dC_takeSideZero_23 : decode cC_takeSideZero 23 = .ok (.iload_n 1, 1) := by decide +kernel
theorem dC_takeSideZero_24 : decode cC_takeSideZero 24 = .ok (.iconst 3, 1) := by decide +kernel
theorem dC_takeSideZero_25 : decode cC_takeSideZero 25 = .ok (.invokestatic 38, 3) := by decide +kernel
theorem dC_takeSideZero_28 : decode cC_takeSideZero 28 = .ok (.ifCond .eq 11, 3) := by decide +kernel
theorem dC_takeSideZero_31 : decode cC_takeSideZero 31 = .ok (.aload_n 0, 1) := by decide +kernel
theorem dC_takeSideZero_32 : decode cC_takeSideZero 32 = .ok (.iload_n 1, 1) := by decide +kernel
theorem dC_takeSideZero_33 : decode cC_takeSideZero 33 = .ok (.invokevirtual 59, 3) := by decide +kernel
theorem dC_takeSideZero_36 : decode cC_takeSideZero 36 = .ok (.goto 21, 3) := by decide +kernel
theorem dC_takeSideZero_39 : decode cC_takeSideZero 39 = .ok (.aload_n 0, 1) := by decide +kernel
theorem dC_takeSideZero_40 : decode cC_takeSideZero 40 = .ok (.getfield 25, 3) := by decide +kernel
theorem dC_takeSideZero_43 : decode cC_takeSideZero 43 = .ok (.ifCond .eq 14, 3) := by decide +kernel
theorem dC_takeSideZero_46 : decode cC_takeSideZero 46 = .ok (.aload_n 0, 1) := by decide +kernel
theorem dC_takeSideZero_47 : decode cC_takeSideZero 47 = .ok (.iload_n 1, 1) := by decide +kernel
theorem dC_takeSideZero_48 : decode cC_takeSideZero 48 = .ok (.iconst 5, 1) := by decide +kernel
theorem dC_takeSideZero_49 : decode cC_takeSideZero 49 = .ok (.ishr, 1) := by decide +kernel
theorem dC_takeSideZero_50 : decode cC_takeSideZero 50 = .ok (.iload_n 1, 1) := by decide +kernel
theorem dC_takeSideZero_51 : decode cC_takeSideZero 51 = .ok (.bipush 7, 2) := by decide +kernel
theorem dC_takeSideZero_53 : decode cC_takeSideZero 53 = .ok (.iand, 1) := by decide +kernel
theorem dC_takeSideZero_54 : decode cC_takeSideZero 54 = .ok (.invokevirtual 62, 3) := by decide +kernel
theorem dC_takeSideZero_57 : decode cC_takeSideZero 57 = .ok (.return_, 1) := by decide +kernel
theorem dC_takeSideOne_0 : decode cC_takeSideOne 0 = .ok (.aload_n 0, 1) := by decide +kernel
theorem dC_takeSideOne_1 : decode cC_takeSideOne 1 = .ok (.getfield 25, 3) := by decide +kernel
theorem dC_takeSideOne_4 : decode cC_takeSideOne 4 = .ok (.ifCond .eq 11, 3) := by decide +kernel
theorem dC_takeSideOne_7 : decode cC_takeSideOne 7 = .ok (.aload_n 0, 1) := by decide +kernel
theorem dC_takeSideOne_8 : decode cC_takeSideOne 8 = .ok (.iload_n 1, 1) := by decide +kernel
theorem dC_takeSideOne_9 : decode cC_takeSideOne 9 = .ok (.putfield 32, 3) := by decide +kernel
theorem dC_takeSideOne_12 : decode cC_takeSideOne 12 = .ok (.goto 84, 3) := by decide +kernel
theorem dC_takeSideOne_15 : decode cC_takeSideOne 15 = .ok (.aload_n 0, 1) := by decide +kernel
theorem dC_takeSideOne_16 : decode cC_takeSideOne 16 = .ok (.getfield 66, 3) := by decide +kernel
theorem dC_takeSideOne_19 : decode cC_takeSideOne 19 = .ok (.iconst 2, 1) := by decide +kernel
theorem dC_takeSideOne_20 : decode cC_takeSideOne 20 = .ok (.if_icmp .ne 30, 3) := by decide +kernel
theorem dC_takeSideOne_23 : decode cC_takeSideOne 23 = .ok (.aload_n 0, 1) := by decide +kernel
theorem dC_takeSideOne_24 : decode cC_takeSideOne 24 = .ok (.iload_n 1, 1) := by decide +kernel
theorem dC_takeSideOne_25 : decode cC_takeSideOne 25 = .ok (.bipush (-8), 2) := by decide +kernel
theorem dC_takeSideOne_27 : decode cC_takeSideOne 27 = .ok (.iand, 1) := by decide +kernel
theorem dC_takeSideOne_28 : decode cC_takeSideOne 28 = .ok (.putfield 53, 3) := by decide +kernel
theorem dC_takeSideOne_31 : decode cC_takeSideOne 31 = .ok (.aload_n 0, 1) := by decide +kernel
theorem dC_takeSideOne_32 : decode cC_takeSideOne 32 = .ok (.aload_n 0, 1) := by decide +kernel
theorem dC_takeSideOne_33 : decode cC_takeSideOne 33 = .ok (.getfield 69, 3) := by decide +kernel
theorem dC_takeSideOne_36 : decode cC_takeSideOne 36 = .ok (.ifCond .eq 7, 3) := by decide +kernel
theorem dC_takeSideOne_39 : decode cC_takeSideOne 39 = .ok (.iconst 4, 1) := by decide +kernel
theorem dC_takeSideOne_40 : decode cC_takeSideOne 40 = .ok (.goto 4, 3) := by decide +kernel
theorem dC_takeSideOne_43 : decode cC_takeSideOne 43 = .ok (.iconst 3, 1) := by decide +kernel
theorem dC_takeSideOne_44 : decode cC_takeSideOne 44 = .ok (.invokevirtual 72, 3) := by decide +kernel
theorem dC_takeSideOne_47 : decode cC_takeSideOne 47 = .ok (.goto 49, 3) := by decide +kernel
theorem dC_takeSideOne_50 : decode cC_takeSideOne 50 = .ok (.aload_n 0, 1) := by decide +kernel
theorem dC_takeSideOne_51 : decode cC_takeSideOne 51 = .ok (.getfield 66, 3) := by decide +kernel
theorem dC_takeSideOne_54 : decode cC_takeSideOne 54 = .ok (.iconst 3, 1) := by decide +kernel
theorem dC_takeSideOne_55 : decode cC_takeSideOne 55 = .ok (.if_icmp .ne 11, 3) := by decide +kernel
theorem dC_takeSideOne_58 : decode cC_takeSideOne 58 = .ok (.aload_n 0, 1) := by decide +kernel
theorem dC_takeSideOne_59 : decode cC_takeSideOne 59 = .ok (.iconst 4, 1) := by decide +kernel
theorem dC_takeSideOne_60 : decode cC_takeSideOne 60 = .ok (.invokevirtual 72, 3) := by decide +kernel
theorem dC_takeSideOne_63 : decode cC_takeSideOne 63 = .ok (.goto 33, 3) := by decide +kernel
theorem dC_takeSideOne_66 : decode cC_takeSideOne 66 = .ok (.aload_n 0, 1) := by decide +kernel
theorem dC_takeSideOne_67 : decode cC_takeSideOne 67 = .ok (.getfield 66, 3) := by decide +kernel
theorem dC_takeSideOne_70 : decode cC_takeSideOne 70 = .ok (.iconst 4, 1) := by decide +kernel
theorem dC_takeSideOne_71 : decode cC_takeSideOne 71 = .ok (.if_icmp .ne 25, 3) := by decide +kernel
theorem dC_takeSideOne_74 : decode cC_takeSideOne 74 = .ok (.aload_n 0, 1) := by decide +kernel
theorem dC_takeSideOne_75 : decode cC_takeSideOne 75 = .ok (.iload_n 1, 1) := by decide +kernel
theorem dC_takeSideOne_76 : decode cC_takeSideOne 76 = .ok (.iconst 1, 1) := by decide +kernel
theorem dC_takeSideOne_77 : decode cC_takeSideOne 77 = .ok (.invokestatic 38, 3) := by decide +kernel
theorem dC_takeSideOne_80 : decode cC_takeSideOne 80 = .ok (.putfield 75, 3) := by decide +kernel
theorem dC_takeSideOne_83 : decode cC_takeSideOne 83 = .ok (.aload_n 0, 1) := by decide +kernel
theorem dC_takeSideOne_84 : decode cC_takeSideOne 84 = .ok (.iload_n 1, 1) := by decide +kernel
theorem dC_takeSideOne_85 : decode cC_takeSideOne 85 = .ok (.iconst 4, 1) := by decide +kernel
theorem dC_takeSideOne_86 : decode cC_takeSideOne 86 = .ok (.invokestatic 38, 3) := by decide +kernel
theorem dC_takeSideOne_89 : decode cC_takeSideOne 89 = .ok (.putfield 78, 3) := by decide +kernel
theorem dC_takeSideOne_92 : decode cC_takeSideOne 92 = .ok (.aload_n 0, 1) := by decide +kernel
theorem dC_takeSideOne_93 : decode cC_takeSideOne 93 = .ok (.invokevirtual 81, 3) := by decide +kernel
theorem dC_takeSideOne_96 : decode cC_takeSideOne 96 = .ok (.return_, 1) := by decide +kernel
theorem dC_giveSideZero_0 : decode cC_giveSideZero 0 = .ok (.aload_n 0, 1) := by decide +kernel
theorem dC_giveSideZero_1 : decode cC_giveSideZero 1 = .ok (.getfield 84, 3) := by decide +kernel
theorem dC_giveSideZero_4 : decode cC_giveSideZero 4 = .ok (.ifCond .eq 28, 3) := by decide +kernel
theorem dC_giveSideZero_7 : decode cC_giveSideZero 7 = .ok (.aload_n 0, 1) := by decide +kernel
theorem dC_giveSideZero_8 : decode cC_giveSideZero 8 = .ok (.iconst 0, 1) := by decide +kernel
theorem dC_giveSideZero_9 : decode cC_giveSideZero 9 = .ok (.putfield 84, 3) := by decide +kernel
theorem dC_giveSideZero_12 : decode cC_giveSideZero 12 = .ok (.aload_n 0, 1) := by decide +kernel
theorem dC_giveSideZero_13 : decode cC_giveSideZero 13 = .ok (.invokevirtual 87, 3) := by decide +kernel
theorem dC_giveSideZero_16 : decode cC_giveSideZero 16 = .ok (.istore_n 1, 1) := by decide +kernel
theorem dC_giveSideZero_17 : decode cC_giveSideZero 17 = .ok (.iload_n 1, 1) := by decide +kernel
theorem dC_giveSideZero_18 : decode cC_giveSideZero 18 = .ok (.iconst (-1), 1) := by decide +kernel
theorem dC_giveSideZero_19 : decode cC_giveSideZero 19 = .ok (.if_icmp .ne 7, 3) := by decide +kernel
theorem dC_giveSideZero_22 : decode cC_giveSideZero 22 = .ok (.iconst 0, 1) := by decide +kernel
theorem dC_giveSideZero_23 : decode cC_giveSideZero 23 = .ok (.goto 8, 3) := by decide +kernel
theorem dC_giveSideZero_26 : decode cC_giveSideZero 26 = .ok (.sipush 128, 3) := by decide +kernel
theorem dC_giveSideZero_29 : decode cC_giveSideZero 29 = .ok (.iload_n 1, 1) := by decide +kernel
theorem dC_giveSideZero_30 : decode cC_giveSideZero 30 = .ok (.iadd, 1) := by decide +kernel
theorem dC_giveSideZero_31 : decode cC_giveSideZero 31 = .ok (.ireturn, 1) := by decide +kernel
theorem dC_giveSideZero_32 : decode cC_giveSideZero 32 = .ok (.aload_n 0, 1) := by decide +kernel
theorem dC_giveSideZero_33 : decode cC_giveSideZero 33 = .ok (.getfield 90, 3) := by decide +kernel
theorem dC_giveSideZero_36 : decode cC_giveSideZero 36 = .ok (.ifCond .eq 10, 3) := by decide +kernel
theorem dC_giveSideZero_39 : decode cC_giveSideZero 39 = .ok (.aload_n 0, 1) := by decide +kernel
theorem dC_giveSideZero_40 : decode cC_giveSideZero 40 = .ok (.getfield 93, 3) := by decide +kernel
theorem dC_giveSideZero_43 : decode cC_giveSideZero 43 = .ok (.goto 7, 3) := by decide +kernel
theorem dC_giveSideZero_46 : decode cC_giveSideZero 46 = .ok (.aload_n 0, 1) := by decide +kernel
theorem dC_giveSideZero_47 : decode cC_giveSideZero 47 = .ok (.invokevirtual 28, 3) := by decide +kernel
theorem dC_giveSideZero_50 : decode cC_giveSideZero 50 = .ok (.ireturn, 1) := by decide +kernel
theorem dC_tell_0 : decode cC_tell 0 = .ok (.iload_n 1, 1) := by decide +kernel
theorem dC_tell_1 : decode cC_tell 1 = .ok (.tableswitch 90 0 7 #[47, 52, 57, 62, 67, 72, 77, 82], 47) := by decide +kernel
theorem dC_tell_48 : decode cC_tell 48 = .ok (.aload_n 0, 1) := by decide +kernel
theorem dC_tell_49 : decode cC_tell 49 = .ok (.invokevirtual 28, 3) := by decide +kernel
theorem dC_tell_52 : decode cC_tell 52 = .ok (.ireturn, 1) := by decide +kernel
theorem dC_tell_53 : decode cC_tell 53 = .ok (.aload_n 0, 1) := by decide +kernel
theorem dC_tell_54 : decode cC_tell 54 = .ok (.getfield 93, 3) := by decide +kernel
theorem dC_tell_57 : decode cC_tell 57 = .ok (.ireturn, 1) := by decide +kernel
theorem dC_tell_58 : decode cC_tell 58 = .ok (.aload_n 0, 1) := by decide +kernel
theorem dC_tell_59 : decode cC_tell 59 = .ok (.getfield 32, 3) := by decide +kernel
theorem dC_tell_62 : decode cC_tell 62 = .ok (.ireturn, 1) := by decide +kernel
theorem dC_tell_63 : decode cC_tell 63 = .ok (.aload_n 0, 1) := by decide +kernel
theorem dC_tell_64 : decode cC_tell 64 = .ok (.getfield 15, 3) := by decide +kernel
theorem dC_tell_67 : decode cC_tell 67 = .ok (.ireturn, 1) := by decide +kernel
theorem dC_tell_68 : decode cC_tell 68 = .ok (.aload_n 0, 1) := by decide +kernel
theorem dC_tell_69 : decode cC_tell 69 = .ok (.getfield 53, 3) := by decide +kernel
theorem dC_tell_72 : decode cC_tell 72 = .ok (.ireturn, 1) := by decide +kernel
theorem dC_tell_73 : decode cC_tell 73 = .ok (.aload_n 0, 1) := by decide +kernel
theorem dC_tell_74 : decode cC_tell 74 = .ok (.getfield 22, 3) := by decide +kernel
theorem dC_tell_77 : decode cC_tell 77 = .ok (.ireturn, 1) := by decide +kernel
theorem dC_tell_78 : decode cC_tell 78 = .ok (.aload_n 0, 1) := by decide +kernel
theorem dC_tell_79 : decode cC_tell 79 = .ok (.getfield 19, 3) := by decide +kernel
theorem dC_tell_82 : decode cC_tell 82 = .ok (.ireturn, 1) := by decide +kernel
theorem dC_tell_83 : decode cC_tell 83 = .ok (.aload_n 0, 1) := by decide +kernel
theorem dC_tell_84 : decode cC_tell 84 = .ok (.getfield 25, 3) := by decide +kernel
theorem dC_tell_87 : decode cC_tell 87 = .ok (.invokestatic 96, 3) := by decide +kernel
theorem dC_tell_90 : decode cC_tell 90 = .ok (.ireturn, 1) := by decide +kernel
theorem dC_tell_91 : decode cC_tell 91 = .ok (.iconst (-1), 1) := by decide +kernel
theorem dC_tell_92 : decode cC_tell 92 = .ok (.ireturn, 1) := by decide +kernel
theorem dC_requests_0 : decode cC_requests 0 = .ok (.aload_n 0, 1) := by decide +kernel
theorem dC_requests_1 : decode cC_requests 1 = .ok (.getfield 100, 3) := by decide +kernel
theorem dC_requests_4 : decode cC_requests 4 = .ok (.ifCond .eq 10, 3) := by decide +kernel
theorem dC_requests_7 : decode cC_requests 7 = .ok (.aload_n 0, 1) := by decide +kernel
theorem dC_requests_8 : decode cC_requests 8 = .ok (.getfield 22, 3) := by decide +kernel
theorem dC_requests_11 : decode cC_requests 11 = .ok (.goto 12, 3) := by decide +kernel
theorem dC_requests_14 : decode cC_requests 14 = .ok (.aload_n 0, 1) := by decide +kernel
theorem dC_requests_15 : decode cC_requests 15 = .ok (.getfield 22, 3) := by decide +kernel
theorem dC_requests_18 : decode cC_requests 18 = .ok (.aload_n 0, 1) := by decide +kernel
theorem dC_requests_19 : decode cC_requests 19 = .ok (.getfield 19, 3) := by decide +kernel
theorem dC_requests_22 : decode cC_requests 22 = .ok (.iand, 1) := by decide +kernel
theorem dC_requests_23 : decode cC_requests 23 = .ok (.ireturn, 1) := by decide +kernel
theorem dC_holdingLevels_0 : decode cC_holdingLevels 0 = .ok (.aload_n 0, 1) := by decide +kernel
theorem dC_holdingLevels_1 : decode cC_holdingLevels 1 = .ok (.getfield 103, 3) := by decide +kernel
theorem dC_holdingLevels_4 : decode cC_holdingLevels 4 = .ok (.ifCond .eq 17, 3) := by decide +kernel
theorem dC_holdingLevels_7 : decode cC_holdingLevels 7 = .ok (.aload_n 0, 1) := by decide +kernel
theorem dC_holdingLevels_8 : decode cC_holdingLevels 8 = .ok (.getfield 93, 3) := by decide +kernel
theorem dC_holdingLevels_11 : decode cC_holdingLevels 11 = .ok (.aload_n 0, 1) := by decide +kernel
theorem dC_holdingLevels_12 : decode cC_holdingLevels 12 = .ok (.getfield 32, 3) := by decide +kernel
theorem dC_holdingLevels_15 : decode cC_holdingLevels 15 = .ok (.iconst (-1), 1) := by decide +kernel
theorem dC_holdingLevels_16 : decode cC_holdingLevels 16 = .ok (.ixor, 1) := by decide +kernel
theorem dC_holdingLevels_17 : decode cC_holdingLevels 17 = .ok (.iand, 1) := by decide +kernel
theorem dC_holdingLevels_18 : decode cC_holdingLevels 18 = .ok (.goto 7, 3) := by decide +kernel
theorem dC_holdingLevels_21 : decode cC_holdingLevels 21 = .ok (.aload_n 0, 1) := by decide +kernel
theorem dC_holdingLevels_22 : decode cC_holdingLevels 22 = .ok (.getfield 93, 3) := by decide +kernel
theorem dC_holdingLevels_25 : decode cC_holdingLevels 25 = .ok (.ireturn, 1) := by decide +kernel
theorem dC_mayNest_0 : decode cC_mayNest 0 = .ok (.aload_n 0, 1) := by decide +kernel
theorem dC_mayNest_1 : decode cC_mayNest 1 = .ok (.getfield 78, 3) := by decide +kernel
theorem dC_mayNest_4 : decode cC_mayNest 4 = .ok (.ifCond .eq 19, 3) := by decide +kernel
theorem dC_mayNest_7 : decode cC_mayNest 7 = .ok (.aload_n 0, 1) := by decide +kernel
theorem dC_mayNest_8 : decode cC_mayNest 8 = .ok (.getfield 9, 3) := by decide +kernel
theorem dC_mayNest_11 : decode cC_mayNest 11 = .ok (.ifCond .eq 12, 3) := by decide +kernel
theorem dC_mayNest_14 : decode cC_mayNest 14 = .ok (.iload_n 1, 1) := by decide +kernel
theorem dC_mayNest_15 : decode cC_mayNest 15 = .ok (.iconst 2, 1) := by decide +kernel
theorem dC_mayNest_16 : decode cC_mayNest 16 = .ok (.if_icmp .ne 7, 3) := by decide +kernel
theorem dC_mayNest_19 : decode cC_mayNest 19 = .ok (.iconst 1, 1) := by decide +kernel
theorem dC_mayNest_20 : decode cC_mayNest 20 = .ok (.goto 4, 3) := by decide +kernel
theorem dC_mayNest_23 : decode cC_mayNest 23 = .ok (.iconst 0, 1) := by decide +kernel
theorem dC_mayNest_24 : decode cC_mayNest 24 = .ok (.ireturn, 1) := by decide +kernel
theorem dC_serve_0 : decode cC_serve 0 = .ok (.aload_n 0, 1) := by decide +kernel
theorem dC_serve_1 : decode cC_serve 1 = .ok (.dup, 1) := by decide +kernel
theorem dC_serve_2 : decode cC_serve 2 = .ok (.getfield 19, 3) := by decide +kernel
theorem dC_serve_5 : decode cC_serve 5 = .ok (.iconst 1, 1) := by decide +kernel
theorem dC_serve_6 : decode cC_serve 6 = .ok (.iload_n 1, 1) := by decide +kernel
theorem dC_serve_7 : decode cC_serve 7 = .ok (.ishl, 1) := by decide +kernel
theorem dC_serve_8 : decode cC_serve 8 = .ok (.iconst (-1), 1) := by decide +kernel
theorem dC_serve_9 : decode cC_serve 9 = .ok (.ixor, 1) := by decide +kernel
theorem dC_serve_10 : decode cC_serve 10 = .ok (.iand, 1) := by decide +kernel
theorem dC_serve_11 : decode cC_serve 11 = .ok (.putfield 19, 3) := by decide +kernel
theorem dC_serve_14 : decode cC_serve 14 = .ok (.aload_n 0, 1) := by decide +kernel
theorem dC_serve_15 : decode cC_serve 15 = .ok (.getfield 75, 3) := by decide +kernel
theorem dC_serve_18 : decode cC_serve 18 = .ok (.ifCond .ne 18, 3) := by decide +kernel
theorem dC_serve_21 : decode cC_serve 21 = .ok (.aload_n 0, 1) := by decide +kernel
theorem dC_serve_22 : decode cC_serve 22 = .ok (.dup, 1) := by decide +kernel
theorem dC_serve_23 : decode cC_serve 23 = .ok (.getfield 93, 3) := by decide +kernel
theorem dC_serve_26 : decode cC_serve 26 = .ok (.iconst 1, 1) := by decide +kernel
theorem dC_serve_27 : decode cC_serve 27 = .ok (.iload_n 1, 1) := by decide +kernel
theorem dC_serve_28 : decode cC_serve 28 = .ok (.ishl, 1) := by decide +kernel
theorem dC_serve_29 : decode cC_serve 29 = .ok (.ior, 1) := by decide +kernel
theorem dC_serve_30 : decode cC_serve 30 = .ok (.putfield 93, 3) := by decide +kernel
theorem dC_serve_33 : decode cC_serve 33 = .ok (.goto 15, 3) := by decide +kernel
theorem dC_serve_36 : decode cC_serve 36 = .ok (.aload_n 0, 1) := by decide +kernel
theorem dC_serve_37 : decode cC_serve 37 = .ok (.getfield 106, 3) := by decide +kernel
theorem dC_serve_40 : decode cC_serve 40 = .ok (.ifCond .eq 8, 3) := by decide +kernel
theorem dC_serve_43 : decode cC_serve 43 = .ok (.aload_n 0, 1) := by decide +kernel
theorem dC_serve_44 : decode cC_serve 44 = .ok (.iload_n 1, 1) := by decide +kernel
theorem dC_serve_45 : decode cC_serve 45 = .ok (.putfield 15, 3) := by decide +kernel
theorem dC_serve_48 : decode cC_serve 48 = .ok (.return_, 1) := by decide +kernel
theorem dC_beginSettingUp_0 : decode cC_beginSettingUp 0 = .ok (.aload_n 0, 1) := by decide +kernel
theorem dC_beginSettingUp_1 : decode cC_beginSettingUp 1 = .ok (.iconst 0, 1) := by decide +kernel
theorem dC_beginSettingUp_2 : decode cC_beginSettingUp 2 = .ok (.putfield 25, 3) := by decide +kernel
theorem dC_beginSettingUp_5 : decode cC_beginSettingUp 5 = .ok (.aload_n 0, 1) := by decide +kernel
theorem dC_beginSettingUp_6 : decode cC_beginSettingUp 6 = .ok (.iconst 2, 1) := by decide +kernel
theorem dC_beginSettingUp_7 : decode cC_beginSettingUp 7 = .ok (.putfield 66, 3) := by decide +kernel
theorem dC_beginSettingUp_10 : decode cC_beginSettingUp 10 = .ok (.aload_n 0, 1) := by decide +kernel
theorem dC_beginSettingUp_11 : decode cC_beginSettingUp 11 = .ok (.iconst 0, 1) := by decide +kernel
theorem dC_beginSettingUp_12 : decode cC_beginSettingUp 12 = .ok (.putfield 19, 3) := by decide +kernel
theorem dC_beginSettingUp_15 : decode cC_beginSettingUp 15 = .ok (.aload_n 0, 1) := by decide +kernel
theorem dC_beginSettingUp_16 : decode cC_beginSettingUp 16 = .ok (.iconst 0, 1) := by decide +kernel
theorem dC_beginSettingUp_17 : decode cC_beginSettingUp 17 = .ok (.putfield 32, 3) := by decide +kernel
theorem dC_beginSettingUp_20 : decode cC_beginSettingUp 20 = .ok (.aload_n 0, 1) := by decide +kernel
theorem dC_beginSettingUp_21 : decode cC_beginSettingUp 21 = .ok (.iconst 0, 1) := by decide +kernel
theorem dC_beginSettingUp_22 : decode cC_beginSettingUp 22 = .ok (.putfield 93, 3) := by decide +kernel
theorem dC_beginSettingUp_25 : decode cC_beginSettingUp 25 = .ok (.aload_n 0, 1) := by decide +kernel
theorem dC_beginSettingUp_26 : decode cC_beginSettingUp 26 = .ok (.bipush 7, 2) := by decide +kernel
theorem dC_beginSettingUp_28 : decode cC_beginSettingUp 28 = .ok (.putfield 15, 3) := by decide +kernel
theorem dC_beginSettingUp_31 : decode cC_beginSettingUp 31 = .ok (.aload_n 0, 1) := by decide +kernel
theorem dC_beginSettingUp_32 : decode cC_beginSettingUp 32 = .ok (.iconst 0, 1) := by decide +kernel
theorem dC_beginSettingUp_33 : decode cC_beginSettingUp 33 = .ok (.putfield 75, 3) := by decide +kernel
theorem dC_beginSettingUp_36 : decode cC_beginSettingUp 36 = .ok (.aload_n 0, 1) := by decide +kernel
theorem dC_beginSettingUp_37 : decode cC_beginSettingUp 37 = .ok (.iconst 0, 1) := by decide +kernel
theorem dC_beginSettingUp_38 : decode cC_beginSettingUp 38 = .ok (.putfield 78, 3) := by decide +kernel
theorem dC_beginSettingUp_41 : decode cC_beginSettingUp 41 = .ok (.aload_n 0, 1) := by decide +kernel
theorem dC_beginSettingUp_42 : decode cC_beginSettingUp 42 = .ok (.iconst 0, 1) := by decide +kernel
theorem dC_beginSettingUp_43 : decode cC_beginSettingUp 43 = .ok (.putfield 103, 3) := by decide +kernel
theorem dC_beginSettingUp_46 : decode cC_beginSettingUp 46 = .ok (.aload_n 0, 1) := by decide +kernel
theorem dC_beginSettingUp_47 : decode cC_beginSettingUp 47 = .ok (.iconst 0, 1) := by decide +kernel
theorem dC_beginSettingUp_48 : decode cC_beginSettingUp 48 = .ok (.putfield 106, 3) := by decide +kernel
theorem dC_beginSettingUp_51 : decode cC_beginSettingUp 51 = .ok (.aload_n 0, 1) := by decide +kernel
theorem dC_beginSettingUp_52 : decode cC_beginSettingUp 52 = .ok (.iconst 0, 1) := by decide +kernel
theorem dC_beginSettingUp_53 : decode cC_beginSettingUp 53 = .ok (.putfield 90, 3) := by decide +kernel
theorem dC_beginSettingUp_56 : decode cC_beginSettingUp 56 = .ok (.aload_n 0, 1) := by decide +kernel
theorem dC_beginSettingUp_57 : decode cC_beginSettingUp 57 = .ok (.iconst 0, 1) := by decide +kernel
theorem dC_beginSettingUp_58 : decode cC_beginSettingUp 58 = .ok (.putfield 84, 3) := by decide +kernel
theorem dC_beginSettingUp_61 : decode cC_beginSettingUp 61 = .ok (.aload_n 0, 1) := by decide +kernel
theorem dC_beginSettingUp_62 : decode cC_beginSettingUp 62 = .ok (.iload_n 1, 1) := by decide +kernel
theorem dC_beginSettingUp_63 : decode cC_beginSettingUp 63 = .ok (.iconst 3, 1) := by decide +kernel
theorem dC_beginSettingUp_64 : decode cC_beginSettingUp 64 = .ok (.invokestatic 38, 3) := by decide +kernel
theorem dC_beginSettingUp_67 : decode cC_beginSettingUp 67 = .ok (.putfield 100, 3) := by decide +kernel
theorem dC_beginSettingUp_70 : decode cC_beginSettingUp 70 = .ok (.aload_n 0, 1) := by decide +kernel
theorem dC_beginSettingUp_71 : decode cC_beginSettingUp 71 = .ok (.iload_n 1, 1) := by decide +kernel
theorem dC_beginSettingUp_72 : decode cC_beginSettingUp 72 = .ok (.iconst 1, 1) := by decide +kernel
theorem dC_beginSettingUp_73 : decode cC_beginSettingUp 73 = .ok (.invokestatic 38, 3) := by decide +kernel
theorem dC_beginSettingUp_76 : decode cC_beginSettingUp 76 = .ok (.putfield 69, 3) := by decide +kernel
theorem dC_beginSettingUp_79 : decode cC_beginSettingUp 79 = .ok (.aload_n 0, 1) := by decide +kernel
theorem dC_beginSettingUp_80 : decode cC_beginSettingUp 80 = .ok (.iload_n 1, 1) := by decide +kernel
theorem dC_beginSettingUp_81 : decode cC_beginSettingUp 81 = .ok (.iconst 0, 1) := by decide +kernel
theorem dC_beginSettingUp_82 : decode cC_beginSettingUp 82 = .ok (.invokestatic 38, 3) := by decide +kernel
theorem dC_beginSettingUp_85 : decode cC_beginSettingUp 85 = .ok (.putfield 109, 3) := by decide +kernel
theorem dC_beginSettingUp_88 : decode cC_beginSettingUp 88 = .ok (.return_, 1) := by decide +kernel
theorem dC_awaitFrom_0 : decode cC_awaitFrom 0 = .ok (.iload_n 1, 1) := by decide +kernel
theorem dC_awaitFrom_1 : decode cC_awaitFrom 1 = .ok (.iconst 4, 1) := by decide +kernel
theorem dC_awaitFrom_2 : decode cC_awaitFrom 2 = .ok (.if_icmp .ne 17, 3) := by decide +kernel
theorem dC_awaitFrom_5 : decode cC_awaitFrom 5 = .ok (.aload_n 0, 1) := by decide +kernel
theorem dC_awaitFrom_6 : decode cC_awaitFrom 6 = .ok (.getfield 109, 3) := by decide +kernel
theorem dC_awaitFrom_9 : decode cC_awaitFrom 9 = .ok (.ifCond .ne 10, 3) := by decide +kernel
theorem dC_awaitFrom_12 : decode cC_awaitFrom 12 = .ok (.aload_n 0, 1) := by decide +kernel
theorem dC_awaitFrom_13 : decode cC_awaitFrom 13 = .ok (.invokevirtual 81, 3) := by decide +kernel
theorem dC_awaitFrom_16 : decode cC_awaitFrom 16 = .ok (.goto 8, 3) := by decide +kernel
theorem dC_awaitFrom_19 : decode cC_awaitFrom 19 = .ok (.aload_n 0, 1) := by decide +kernel
theorem dC_awaitFrom_20 : decode cC_awaitFrom 20 = .ok (.iload_n 1, 1) := by decide +kernel
theorem dC_awaitFrom_21 : decode cC_awaitFrom 21 = .ok (.putfield 66, 3) := by decide +kernel
theorem dC_awaitFrom_24 : decode cC_awaitFrom 24 = .ok (.return_, 1) := by decide +kernel
theorem dC_becomeReady_0 : decode cC_becomeReady 0 = .ok (.aload_n 0, 1) := by decide +kernel
theorem dC_becomeReady_1 : decode cC_becomeReady 1 = .ok (.iconst 0, 1) := by decide +kernel
theorem dC_becomeReady_2 : decode cC_becomeReady 2 = .ok (.putfield 66, 3) := by decide +kernel
theorem dC_becomeReady_5 : decode cC_becomeReady 5 = .ok (.aload_n 0, 1) := by decide +kernel
theorem dC_becomeReady_6 : decode cC_becomeReady 6 = .ok (.iconst 1, 1) := by decide +kernel
theorem dC_becomeReady_7 : decode cC_becomeReady 7 = .ok (.putfield 25, 3) := by decide +kernel
theorem dC_becomeReady_10 : decode cC_becomeReady 10 = .ok (.return_, 1) := by decide +kernel
theorem dC_takeServiceCommand_0 : decode cC_takeServiceCommand 0 = .ok (.iload_n 1, 1) := by decide +kernel
theorem dC_takeServiceCommand_1 : decode cC_takeServiceCommand 1 = .ok (.tableswitch 109 0 7 #[47, 55, 109, 66, 74, 82, 93, 101], 47) := by decide +kernel
theorem dC_takeServiceCommand_48 : decode cC_takeServiceCommand 48 = .ok (.aload_n 0, 1) := by decide +kernel
theorem dC_takeServiceCommand_49 : decode cC_takeServiceCommand 49 = .ok (.iconst 0, 1) := by decide +kernel
theorem dC_takeServiceCommand_50 : decode cC_takeServiceCommand 50 = .ok (.putfield 106, 3) := by decide +kernel
theorem dC_takeServiceCommand_53 : decode cC_takeServiceCommand 53 = .ok (.goto 57, 3) := by decide +kernel
theorem dC_takeServiceCommand_56 : decode cC_takeServiceCommand 56 = .ok (.aload_n 0, 1) := by decide +kernel
theorem dC_takeServiceCommand_57 : decode cC_takeServiceCommand 57 = .ok (.aload_n 0, 1) := by decide +kernel
theorem dC_takeServiceCommand_58 : decode cC_takeServiceCommand 58 = .ok (.invokevirtual 112, 3) := by decide +kernel
theorem dC_takeServiceCommand_61 : decode cC_takeServiceCommand 61 = .ok (.invokevirtual 115, 3) := by decide +kernel
theorem dC_takeServiceCommand_64 : decode cC_takeServiceCommand 64 = .ok (.goto 46, 3) := by decide +kernel
theorem dC_takeServiceCommand_67 : decode cC_takeServiceCommand 67 = .ok (.aload_n 0, 1) := by decide +kernel
theorem dC_takeServiceCommand_68 : decode cC_takeServiceCommand 68 = .ok (.iload_n 2, 1) := by decide +kernel
theorem dC_takeServiceCommand_69 : decode cC_takeServiceCommand 69 = .ok (.invokevirtual 115, 3) := by decide +kernel
theorem dC_takeServiceCommand_72 : decode cC_takeServiceCommand 72 = .ok (.goto 38, 3) := by decide +kernel
theorem dC_takeServiceCommand_75 : decode cC_takeServiceCommand 75 = .ok (.aload_n 0, 1) := by decide +kernel
theorem dC_takeServiceCommand_76 : decode cC_takeServiceCommand 76 = .ok (.iconst 1, 1) := by decide +kernel
theorem dC_takeServiceCommand_77 : decode cC_takeServiceCommand 77 = .ok (.putfield 106, 3) := by decide +kernel
theorem dC_takeServiceCommand_80 : decode cC_takeServiceCommand 80 = .ok (.goto 30, 3) := by decide +kernel
theorem dC_takeServiceCommand_83 : decode cC_takeServiceCommand 83 = .ok (.aload_n 0, 1) := by decide +kernel
theorem dC_takeServiceCommand_84 : decode cC_takeServiceCommand 84 = .ok (.aload_n 0, 1) := by decide +kernel
theorem dC_takeServiceCommand_85 : decode cC_takeServiceCommand 85 = .ok (.invokevirtual 112, 3) := by decide +kernel
theorem dC_takeServiceCommand_88 : decode cC_takeServiceCommand 88 = .ok (.invokevirtual 118, 3) := by decide +kernel
theorem dC_takeServiceCommand_91 : decode cC_takeServiceCommand 91 = .ok (.goto 19, 3) := by decide +kernel
theorem dC_takeServiceCommand_94 : decode cC_takeServiceCommand 94 = .ok (.aload_n 0, 1) := by decide +kernel
theorem dC_takeServiceCommand_95 : decode cC_takeServiceCommand 95 = .ok (.iload_n 2, 1) := by decide +kernel
theorem dC_takeServiceCommand_96 : decode cC_takeServiceCommand 96 = .ok (.putfield 15, 3) := by decide +kernel
theorem dC_takeServiceCommand_99 : decode cC_takeServiceCommand 99 = .ok (.goto 11, 3) := by decide +kernel
theorem dC_takeServiceCommand_102 : decode cC_takeServiceCommand 102 = .ok (.aload_n 0, 1) := by decide +kernel
theorem dC_takeServiceCommand_103 : decode cC_takeServiceCommand 103 = .ok (.iload_n 2, 1) := by decide +kernel
theorem dC_takeServiceCommand_104 : decode cC_takeServiceCommand 104 = .ok (.invokevirtual 118, 3) := by decide +kernel
theorem dC_takeServiceCommand_107 : decode cC_takeServiceCommand 107 = .ok (.goto 3, 3) := by decide +kernel
theorem dC_takeServiceCommand_110 : decode cC_takeServiceCommand 110 = .ok (.return_, 1) := by decide +kernel
theorem dC_takeReadingCommand_0 : decode cC_takeReadingCommand 0 = .ok (.iload_n 1, 1) := by decide +kernel
theorem dC_takeReadingCommand_1 : decode cC_takeReadingCommand 1 = .ok (.bipush 6, 2) := by decide +kernel
theorem dC_takeReadingCommand_3 : decode cC_takeReadingCommand 3 = .ok (.invokestatic 38, 3) := by decide +kernel
theorem dC_takeReadingCommand_6 : decode cC_takeReadingCommand 6 = .ok (.ifCond .eq 12, 3) := by decide +kernel
theorem dC_takeReadingCommand_9 : decode cC_takeReadingCommand 9 = .ok (.aload_n 0, 1) := by decide +kernel
theorem dC_takeReadingCommand_10 : decode cC_takeReadingCommand 10 = .ok (.iload_n 1, 1) := by decide +kernel
theorem dC_takeReadingCommand_11 : decode cC_takeReadingCommand 11 = .ok (.iconst 5, 1) := by decide +kernel
theorem dC_takeReadingCommand_12 : decode cC_takeReadingCommand 12 = .ok (.invokestatic 38, 3) := by decide +kernel
theorem dC_takeReadingCommand_15 : decode cC_takeReadingCommand 15 = .ok (.putfield 103, 3) := by decide +kernel
theorem dC_takeReadingCommand_18 : decode cC_takeReadingCommand 18 = .ok (.iload_n 1, 1) := by decide +kernel
theorem dC_takeReadingCommand_19 : decode cC_takeReadingCommand 19 = .ok (.iconst 2, 1) := by decide +kernel
theorem dC_takeReadingCommand_20 : decode cC_takeReadingCommand 20 = .ok (.invokestatic 38, 3) := by decide +kernel
theorem dC_takeReadingCommand_23 : decode cC_takeReadingCommand 23 = .ok (.ifCond .eq 11, 3) := by decide +kernel
theorem dC_takeReadingCommand_26 : decode cC_takeReadingCommand 26 = .ok (.aload_n 0, 1) := by decide +kernel
theorem dC_takeReadingCommand_27 : decode cC_takeReadingCommand 27 = .ok (.iconst 1, 1) := by decide +kernel
theorem dC_takeReadingCommand_28 : decode cC_takeReadingCommand 28 = .ok (.putfield 84, 3) := by decide +kernel
theorem dC_takeReadingCommand_31 : decode cC_takeReadingCommand 31 = .ok (.goto 20, 3) := by decide +kernel
theorem dC_takeReadingCommand_34 : decode cC_takeReadingCommand 34 = .ok (.iload_n 1, 1) := by decide +kernel
theorem dC_takeReadingCommand_35 : decode cC_takeReadingCommand 35 = .ok (.iconst 1, 1) := by decide +kernel
theorem dC_takeReadingCommand_36 : decode cC_takeReadingCommand 36 = .ok (.invokestatic 38, 3) := by decide +kernel
theorem dC_takeReadingCommand_39 : decode cC_takeReadingCommand 39 = .ok (.ifCond .eq 12, 3) := by decide +kernel
theorem dC_takeReadingCommand_42 : decode cC_takeReadingCommand 42 = .ok (.aload_n 0, 1) := by decide +kernel
theorem dC_takeReadingCommand_43 : decode cC_takeReadingCommand 43 = .ok (.iload_n 1, 1) := by decide +kernel
theorem dC_takeReadingCommand_44 : decode cC_takeReadingCommand 44 = .ok (.iconst 0, 1) := by decide +kernel
theorem dC_takeReadingCommand_45 : decode cC_takeReadingCommand 45 = .ok (.invokestatic 38, 3) := by decide +kernel
theorem dC_takeReadingCommand_48 : decode cC_takeReadingCommand 48 = .ok (.putfield 90, 3) := by decide +kernel
theorem dC_takeReadingCommand_51 : decode cC_takeReadingCommand 51 = .ok (.return_, 1) := by decide +kernel
theorem dC_firstHolding_0 : decode cC_firstHolding 0 = .ok (.aload_n 0, 1) := by decide +kernel
theorem dC_firstHolding_1 : decode cC_firstHolding 1 = .ok (.invokevirtual 35, 3) := by decide +kernel
theorem dC_firstHolding_4 : decode cC_firstHolding 4 = .ok (.istore_n 1, 1) := by decide +kernel
theorem dC_firstHolding_5 : decode cC_firstHolding 5 = .ok (.iconst 1, 1) := by decide +kernel
theorem dC_firstHolding_6 : decode cC_firstHolding 6 = .ok (.istore_n 2, 1) := by decide +kernel
theorem dC_firstHolding_7 : decode cC_firstHolding 7 = .ok (.iload_n 2, 1) := by decide +kernel
theorem dC_firstHolding_8 : decode cC_firstHolding 8 = .ok (.bipush 8, 2) := by decide +kernel
theorem dC_firstHolding_10 : decode cC_firstHolding 10 = .ok (.if_icmp .gt 29, 3) := by decide +kernel
theorem dC_firstHolding_13 : decode cC_firstHolding 13 = .ok (.aload_n 0, 1) := by decide +kernel
theorem dC_firstHolding_14 : decode cC_firstHolding 14 = .ok (.getfield 15, 3) := by decide +kernel
theorem dC_firstHolding_17 : decode cC_firstHolding 17 = .ok (.iload_n 2, 1) := by decide +kernel
theorem dC_firstHolding_18 : decode cC_firstHolding 18 = .ok (.iadd, 1) := by decide +kernel
theorem dC_firstHolding_19 : decode cC_firstHolding 19 = .ok (.bipush 7, 2) := by decide +kernel
theorem dC_firstHolding_21 : decode cC_firstHolding 21 = .ok (.iand, 1) := by decide +kernel
theorem dC_firstHolding_22 : decode cC_firstHolding 22 = .ok (.istore_n 3, 1) := by decide +kernel
theorem dC_firstHolding_23 : decode cC_firstHolding 23 = .ok (.iload_n 1, 1) := by decide +kernel
theorem dC_firstHolding_24 : decode cC_firstHolding 24 = .ok (.iload_n 3, 1) := by decide +kernel
theorem dC_firstHolding_25 : decode cC_firstHolding 25 = .ok (.invokestatic 38, 3) := by decide +kernel
theorem dC_firstHolding_28 : decode cC_firstHolding 28 = .ok (.ifCond .eq 5, 3) := by decide +kernel
theorem dC_firstHolding_31 : decode cC_firstHolding 31 = .ok (.iload_n 3, 1) := by decide +kernel
theorem dC_firstHolding_32 : decode cC_firstHolding 32 = .ok (.ireturn, 1) := by decide +kernel
theorem dC_firstHolding_33 : decode cC_firstHolding 33 = .ok (.iinc 2 1, 3) := by decide +kernel
theorem dC_firstHolding_36 : decode cC_firstHolding 36 = .ok (.goto (-29), 3) := by decide +kernel
theorem dC_firstHolding_39 : decode cC_firstHolding 39 = .ok (.iconst (-1), 1) := by decide +kernel
theorem dC_firstHolding_40 : decode cC_firstHolding 40 = .ok (.ireturn, 1) := by decide +kernel
theorem dC_endService_0 : decode cC_endService 0 = .ok (.iload_n 1, 1) := by decide +kernel
theorem dC_endService_1 : decode cC_endService 1 = .ok (.iconst (-1), 1) := by decide +kernel
theorem dC_endService_2 : decode cC_endService 2 = .ok (.if_icmp .eq 17, 3) := by decide +kernel
theorem dC_endService_5 : decode cC_endService 5 = .ok (.aload_n 0, 1) := by decide +kernel
theorem dC_endService_6 : decode cC_endService 6 = .ok (.dup, 1) := by decide +kernel
theorem dC_endService_7 : decode cC_endService 7 = .ok (.getfield 93, 3) := by decide +kernel
theorem dC_endService_10 : decode cC_endService 10 = .ok (.iconst 1, 1) := by decide +kernel
theorem dC_endService_11 : decode cC_endService 11 = .ok (.iload_n 1, 1) := by decide +kernel
theorem dC_endService_12 : decode cC_endService 12 = .ok (.ishl, 1) := by decide +kernel
theorem dC_endService_13 : decode cC_endService 13 = .ok (.iconst (-1), 1) := by decide +kernel
theorem dC_endService_14 : decode cC_endService 14 = .ok (.ixor, 1) := by decide +kernel
theorem dC_endService_15 : decode cC_endService 15 = .ok (.iand, 1) := by decide +kernel
theorem dC_endService_16 : decode cC_endService 16 = .ok (.putfield 93, 3) := by decide +kernel
theorem dC_endService_19 : decode cC_endService 19 = .ok (.return_, 1) := by decide +kernel
theorem dC_endServiceAndTurn_0 : decode cC_endServiceAndTurn 0 = .ok (.aload_n 0, 1) := by decide +kernel
theorem dC_endServiceAndTurn_1 : decode cC_endServiceAndTurn 1 = .ok (.iload_n 1, 1) := by decide +kernel
theorem dC_endServiceAndTurn_2 : decode cC_endServiceAndTurn 2 = .ok (.invokevirtual 115, 3) := by decide +kernel
theorem dC_endServiceAndTurn_5 : decode cC_endServiceAndTurn 5 = .ok (.iload_n 1, 1) := by decide +kernel
theorem dC_endServiceAndTurn_6 : decode cC_endServiceAndTurn 6 = .ok (.iconst (-1), 1) := by decide +kernel
theorem dC_endServiceAndTurn_7 : decode cC_endServiceAndTurn 7 = .ok (.if_icmp .eq 8, 3) := by decide +kernel
theorem dC_endServiceAndTurn_10 : decode cC_endServiceAndTurn 10 = .ok (.aload_n 0, 1) := by decide +kernel
theorem dC_endServiceAndTurn_11 : decode cC_endServiceAndTurn 11 = .ok (.iload_n 1, 1) := by decide +kernel
theorem dC_endServiceAndTurn_12 : decode cC_endServiceAndTurn 12 = .ok (.putfield 15, 3) := by decide +kernel
theorem dC_endServiceAndTurn_15 : decode cC_endServiceAndTurn 15 = .ok (.return_, 1) := by decide +kernel
