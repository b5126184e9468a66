theorem dX0_init_0 : decode cX0_init 0 = .ok (.aload_n 0, 1) := by decide +kernel
theorem dX0_init_1 : decode cX0_init 1 = .ok (.invokespecial 3, 3) := by decide +kernel
theorem dX0_init_4 : decode cX0_init 4 = .ok (.aload_n 0, 1) := by decide +kernel
theorem dX0_init_5 : decode cX0_init 5 = .ok (.bipush 6, 2) := by decide +kernel
theorem dX0_init_7 : decode cX0_init 7 = .ok (.newarray .int, 2) := by decide +kernel
theorem dX0_init_9 : decode cX0_init 9 = .ok (.putfield 9, 3) := by decide +kernel
theorem dX0_init_12 : decode cX0_init 12 = .ok (.aload_n 0, 1) := by decide +kernel
theorem dX0_init_13 : decode cX0_init 13 = .ok (.lconst 1, 1) := by decide +kernel
theorem dX0_init_14 : decode cX0_init 14 = .ok (.putfield 15, 3) := by decide +kernel
theorem dX0_init_17 : decode cX0_init 17 = .ok (.return_, 1) := by decide +kernel
theorem dX0_found_0 : decode cX0_found 0 = .ok (.aload_n 0, 1) := by decide +kernel
theorem dX0_found_1 : decode cX0_found 1 = .ok (.iload_n 1, 1) := by decide +kernel
theorem dX0_found_2 : decode cX0_found 2 = .ok (.putfield 19, 3) := by decide +kernel
theorem dX0_found_5 : decode cX0_found 5 = .ok (.iload_n 1, 1) := by decide +kernel
theorem dX0_found_6 : decode cX0_found 6 = .ok (.iconst 1, 1) := by decide +kernel
theorem dX0_found_7 : decode cX0_found 7 = .ok (.if_icmp .lt 18, 3) := by decide +kernel
theorem dX0_found_10 : decode cX0_found 10 = .ok (.iload_n 1, 1) := by decide +kernel
theorem dX0_found_11 : decode cX0_found 11 = .ok (.iconst 5, 1) := by decide +kernel
theorem dX0_found_12 : decode cX0_found 12 = .ok (.if_icmp .gt 13, 3) := by decide +kernel
theorem dX0_found_15 : decode cX0_found 15 = .ok (.aload_n 0, 1) := by decide +kernel
theorem dX0_found_16 : decode cX0_found 16 = .ok (.getfield 9, 3) := by decide +kernel
theorem dX0_found_19 : decode cX0_found 19 = .ok (.iload_n 1, 1) := by decide +kernel
theorem dX0_found_20 : decode cX0_found 20 = .ok (.dup2, 1) := by decide +kernel
theorem dX0_found_21 : decode cX0_found 21 = .ok (.iaload, 1) := by decide +kernel
theorem dX0_found_22 : decode cX0_found 22 = .ok (.iconst 1, 1) := by decide +kernel
theorem dX0_found_23 : decode cX0_found 23 = .ok (.iadd, 1) := by decide +kernel
theorem dX0_found_24 : decode cX0_found 24 = .ok (.iastore, 1) := by decide +kernel
theorem dX0_found_25 : decode cX0_found 25 = .ok (.bipush (-3), 2) := by decide +kernel
theorem dX0_found_27 : decode cX0_found 27 = .ok (.ireturn, 1) := by decide +kernel
theorem dX0_ask_0 : decode cX0_ask 0 = .ok (.aload_n 0, 1) := by decide +kernel
theorem dX0_ask_1 : decode cX0_ask 1 = .ok (.iload_n 1, 1) := by decide +kernel
theorem dX0_ask_2 : decode cX0_ask 2 = .ok (.putfield 23, 3) := by decide +kernel
theorem dX0_ask_5 : decode cX0_ask 5 = .ok (.iconst 1, 1) := by decide +kernel
theorem dX0_ask_6 : decode cX0_ask 6 = .ok (.ireturn, 1) := by decide +kernel
theorem dX0_tell_0 : decode cX0_tell 0 = .ok (.lload_n 1, 1) := by decide +kernel
theorem dX0_tell_1 : decode cX0_tell 1 = .ok (.lstore 5, 2) := by decide +kernel
theorem dX0_tell_3 : decode cX0_tell 3 = .ok (.lload_n 3, 1) := by decide +kernel
theorem dX0_tell_4 : decode cX0_tell 4 = .ok (.lstore 7, 2) := by decide +kernel
theorem dX0_tell_6 : decode cX0_tell 6 = .ok (.iconst 0, 1) := by decide +kernel
theorem dX0_tell_7 : decode cX0_tell 7 = .ok (.istore 9, 2) := by decide +kernel
theorem dX0_tell_9 : decode cX0_tell 9 = .ok (.iload 9, 2) := by decide +kernel
theorem dX0_tell_11 : decode cX0_tell 11 = .ok (.bipush 100, 2) := by decide +kernel
theorem dX0_tell_13 : decode cX0_tell 13 = .ok (.if_icmp .ge 31, 3) := by decide +kernel
theorem dX0_tell_16 : decode cX0_tell 16 = .ok (.lload 7, 2) := by decide +kernel
theorem dX0_tell_18 : decode cX0_tell 18 = .ok (.lconst 0, 1) := by decide +kernel
theorem dX0_tell_19 : decode cX0_tell 19 = .ok (.lcmp, 1) := by decide +kernel
theorem dX0_tell_20 : decode cX0_tell 20 = .ok (.ifCond .eq 24, 3) := by decide +kernel
theorem dX0_tell_23 : decode cX0_tell 23 = .ok (.lload 5, 2) := by decide +kernel
theorem dX0_tell_25 : decode cX0_tell 25 = .ok (.lload 7, 2) := by decide +kernel
theorem dX0_tell_27 : decode cX0_tell 27 = .ok (.lrem, 1) := by decide +kernel
theorem dX0_tell_28 : decode cX0_tell 28 = .ok (.lstore 10, 2) := by decide +kernel
theorem dX0_tell_30 : decode cX0_tell 30 = .ok (.lload 7, 2) := by decide +kernel
theorem dX0_tell_32 : decode cX0_tell 32 = .ok (.lstore 5, 2) := by decide +kernel
theorem dX0_tell_34 : decode cX0_tell 34 = .ok (.lload 10, 2) := by decide +kernel
theorem dX0_tell_36 : decode cX0_tell 36 = .ok (.lstore 7, 2) := by decide +kernel
theorem dX0_tell_38 : decode cX0_tell 38 = .ok (.iinc 9 1, 3) := by decide +kernel
theorem dX0_tell_41 : decode cX0_tell 41 = .ok (.goto (-32), 3) := by decide +kernel
theorem dX0_tell_44 : decode cX0_tell 44 = .ok (.aload_n 0, 1) := by decide +kernel
theorem dX0_tell_45 : decode cX0_tell 45 = .ok (.lload 5, 2) := by decide +kernel
theorem dX0_tell_47 : decode cX0_tell 47 = .ok (.lconst 0, 1) := by decide +kernel
theorem dX0_tell_48 : decode cX0_tell 48 = .ok (.lcmp, 1) := by decide +kernel
theorem dX0_tell_49 : decode cX0_tell 49 = .ok (.ifCond .ne 7, 3) := by decide +kernel
theorem dX0_tell_52 : decode cX0_tell 52 = .ok (.lconst 0, 1) := by decide +kernel
theorem dX0_tell_53 : decode cX0_tell 53 = .ok (.goto 7, 3) := by decide +kernel
theorem dX0_tell_56 : decode cX0_tell 56 = .ok (.lload_n 1, 1) := by decide +kernel
theorem dX0_tell_57 : decode cX0_tell 57 = .ok (.lload 5, 2) := by decide +kernel
theorem dX0_tell_59 : decode cX0_tell 59 = .ok (.ldiv, 1) := by decide +kernel
theorem dX0_tell_60 : decode cX0_tell 60 = .ok (.putfield 26, 3) := by decide +kernel
theorem dX0_tell_63 : decode cX0_tell 63 = .ok (.aload_n 0, 1) := by decide +kernel
theorem dX0_tell_64 : decode cX0_tell 64 = .ok (.lload 5, 2) := by decide +kernel
theorem dX0_tell_66 : decode cX0_tell 66 = .ok (.lconst 0, 1) := by decide +kernel
theorem dX0_tell_67 : decode cX0_tell 67 = .ok (.lcmp, 1) := by decide +kernel
theorem dX0_tell_68 : decode cX0_tell 68 = .ok (.ifCond .ne 7, 3) := by decide +kernel
theorem dX0_tell_71 : decode cX0_tell 71 = .ok (.lconst 1, 1) := by decide +kernel
theorem dX0_tell_72 : decode cX0_tell 72 = .ok (.goto 7, 3) := by decide +kernel
theorem dX0_tell_75 : decode cX0_tell 75 = .ok (.lload_n 3, 1) := by decide +kernel
theorem dX0_tell_76 : decode cX0_tell 76 = .ok (.lload 5, 2) := by decide +kernel
theorem dX0_tell_78 : decode cX0_tell 78 = .ok (.ldiv, 1) := by decide +kernel
theorem dX0_tell_79 : decode cX0_tell 79 = .ok (.putfield 15, 3) := by decide +kernel
theorem dX0_tell_82 : decode cX0_tell 82 = .ok (.iconst 1, 1) := by decide +kernel
theorem dX0_tell_83 : decode cX0_tell 83 = .ok (.ireturn, 1) := by decide +kernel
theorem dX1_init_0 : decode cX1_init 0 = .ok (.aload_n 0, 1) := by decide +kernel
theorem dX1_init_1 : decode cX1_init 1 = .ok (.invokespecial 3, 3) := by decide +kernel
theorem dX1_init_4 : decode cX1_init 4 = .ok (.aload_n 0, 1) := by decide +kernel
theorem dX1_init_5 : decode cX1_init 5 = .ok (.bipush 80, 2) := by decide +kernel
theorem dX1_init_7 : decode cX1_init 7 = .ok (.newarray .int, 2) := by decide +kernel
theorem dX1_init_9 : decode cX1_init 9 = .ok (.putfield 9, 3) := by decide +kernel
theorem dX1_init_12 : decode cX1_init 12 = .ok (.return_, 1) := by decide +kernel
theorem dX1_read_0 : decode cX1_read 0 = .ok (.aload_n 0, 1) := by decide +kernel
theorem dX1_read_1 : decode cX1_read 1 = .ok (.iconst 0, 1) := by decide +kernel
theorem dX1_read_2 : decode cX1_read 2 = .ok (.putfield 15, 3) := by decide +kernel
theorem dX1_read_5 : decode cX1_read 5 = .ok (.iconst 0, 1) := by decide +kernel
theorem dX1_read_6 : decode cX1_read 6 = .ok (.istore_n 2, 1) := by decide +kernel
theorem dX1_read_7 : decode cX1_read 7 = .ok (.iconst 0, 1) := by decide +kernel
theorem dX1_read_8 : decode cX1_read 8 = .ok (.istore_n 3, 1) := by decide +kernel
theorem dX1_read_9 : decode cX1_read 9 = .ok (.iload_n 3, 1) := by decide +kernel
theorem dX1_read_10 : decode cX1_read 10 = .ok (.aload_n 1, 1) := by decide +kernel
theorem dX1_read_11 : decode cX1_read 11 = .ok (.getfield 19, 3) := by decide +kernel
theorem dX1_read_14 : decode cX1_read 14 = .ok (.if_icmp .ge 66, 3) := by decide +kernel
theorem dX1_read_17 : decode cX1_read 17 = .ok (.aload_n 1, 1) := by decide +kernel
theorem dX1_read_18 : decode cX1_read 18 = .ok (.iload_n 3, 1) := by decide +kernel
theorem dX1_read_19 : decode cX1_read 19 = .ok (.invokevirtual 24, 3) := by decide +kernel
theorem dX1_read_22 : decode cX1_read 22 = .ok (.istore 4, 2) := by decide +kernel
theorem dX1_read_24 : decode cX1_read 24 = .ok (.iload 4, 2) := by decide +kernel
theorem dX1_read_26 : decode cX1_read 26 = .ok (.bipush 119, 2) := by decide +kernel
theorem dX1_read_28 : decode cX1_read 28 = .ok (.if_icmp .ne 16, 3) := by decide +kernel
theorem dX1_read_31 : decode cX1_read 31 = .ok (.aload_n 0, 1) := by decide +kernel
theorem dX1_read_32 : decode cX1_read 32 = .ok (.dup, 1) := by decide +kernel
theorem dX1_read_33 : decode cX1_read 33 = .ok (.getfield 15, 3) := by decide +kernel
theorem dX1_read_36 : decode cX1_read 36 = .ok (.iconst 1, 1) := by decide +kernel
theorem dX1_read_37 : decode cX1_read 37 = .ok (.iadd, 1) := by decide +kernel
theorem dX1_read_38 : decode cX1_read 38 = .ok (.putfield 15, 3) := by decide +kernel
theorem dX1_read_41 : decode cX1_read 41 = .ok (.goto 33, 3) := by decide +kernel
theorem dX1_read_44 : decode cX1_read 44 = .ok (.iload 4, 2) := by decide +kernel
theorem dX1_read_46 : decode cX1_read 46 = .ok (.bipush 32, 2) := by decide +kernel
theorem dX1_read_48 : decode cX1_read 48 = .ok (.if_icmp .eq 26, 3) := by decide +kernel
theorem dX1_read_51 : decode cX1_read 51 = .ok (.iload_n 2, 1) := by decide +kernel
theorem dX1_read_52 : decode cX1_read 52 = .ok (.aload_n 0, 1) := by decide +kernel
theorem dX1_read_53 : decode cX1_read 53 = .ok (.getfield 9, 3) := by decide +kernel
theorem dX1_read_56 : decode cX1_read 56 = .ok (.arraylength, 1) := by decide +kernel
theorem dX1_read_57 : decode cX1_read 57 = .ok (.if_icmp .ge 17, 3) := by decide +kernel
theorem dX1_read_60 : decode cX1_read 60 = .ok (.aload_n 0, 1) := by decide +kernel
theorem dX1_read_61 : decode cX1_read 61 = .ok (.getfield 9, 3) := by decide +kernel
theorem dX1_read_64 : decode cX1_read 64 = .ok (.iload_n 2, 1) := by decide +kernel
theorem dX1_read_65 : decode cX1_read 65 = .ok (.iload 4, 2) := by decide +kernel
theorem dX1_read_67 : decode cX1_read 67 = .ok (.bipush 48, 2) := by decide +kernel
theorem dX1_read_69 : decode cX1_read 69 = .ok (.isub, 1) := by decide +kernel
theorem dX1_read_70 : decode cX1_read 70 = .ok (.iastore, 1) := by decide +kernel
theorem dX1_read_71 : decode cX1_read 71 = .ok (.iinc 2 1, 3) := by decide +kernel
theorem dX1_read_74 : decode cX1_read 74 = .ok (.iinc 3 1, 3) := by decide +kernel
theorem dX1_read_77 : decode cX1_read 77 = .ok (.goto (-68), 3) := by decide +kernel
theorem dX1_read_80 : decode cX1_read 80 = .ok (.return_, 1) := by decide +kernel
theorem dX1_usualOf_0 : decode cX1_usualOf 0 = .ok (.iload_n 1, 1) := by decide +kernel
theorem dX1_usualOf_1 : decode cX1_usualOf 1 = .ok (.ifCond .lt 25, 3) := by decide +kernel
theorem dX1_usualOf_4 : decode cX1_usualOf 4 = .ok (.iload_n 1, 1) := by decide +kernel
theorem dX1_usualOf_5 : decode cX1_usualOf 5 = .ok (.aload_n 0, 1) := by decide +kernel
theorem dX1_usualOf_6 : decode cX1_usualOf 6 = .ok (.getfield 15, 3) := by decide +kernel
theorem dX1_usualOf_9 : decode cX1_usualOf 9 = .ok (.if_icmp .ge 17, 3) := by decide +kernel
theorem dX1_usualOf_12 : decode cX1_usualOf 12 = .ok (.iload_n 2, 1) := by decide +kernel
theorem dX1_usualOf_13 : decode cX1_usualOf 13 = .ok (.ifCond .lt 13, 3) := by decide +kernel
theorem dX1_usualOf_16 : decode cX1_usualOf 16 = .ok (.iload_n 2, 1) := by decide +kernel
theorem dX1_usualOf_17 : decode cX1_usualOf 17 = .ok (.bipush 10, 2) := by decide +kernel
theorem dX1_usualOf_19 : decode cX1_usualOf 19 = .ok (.if_icmp .ge 7, 3) := by decide +kernel
theorem dX1_usualOf_22 : decode cX1_usualOf 22 = .ok (.iconst 1, 1) := by decide +kernel
theorem dX1_usualOf_23 : decode cX1_usualOf 23 = .ok (.goto 4, 3) := by decide +kernel
theorem dX1_usualOf_26 : decode cX1_usualOf 26 = .ok (.iconst 0, 1) := by decide +kernel
theorem dX1_usualOf_27 : decode cX1_usualOf 27 = .ok (.istore_n 3, 1) := by decide +kernel
theorem dX1_usualOf_28 : decode cX1_usualOf 28 = .ok (.iload_n 3, 1) := by decide +kernel
theorem dX1_usualOf_29 : decode cX1_usualOf 29 = .ok (.ifCond .eq 17, 3) := by decide +kernel
theorem dX1_usualOf_32 : decode cX1_usualOf 32 = .ok (.aload_n 0, 1) := by decide +kernel
theorem dX1_usualOf_33 : decode cX1_usualOf 33 = .ok (.getfield 9, 3) := by decide +kernel
theorem dX1_usualOf_36 : decode cX1_usualOf 36 = .ok (.iload_n 1, 1) := by decide +kernel
theorem dX1_usualOf_37 : decode cX1_usualOf 37 = .ok (.bipush 10, 2) := by decide +kernel
theorem dX1_usualOf_39 : decode cX1_usualOf 39 = .ok (.imul, 1) := by decide +kernel
theorem dX1_usualOf_40 : decode cX1_usualOf 40 = .ok (.iload_n 2, 1) := by decide +kernel
theorem dX1_usualOf_41 : decode cX1_usualOf 41 = .ok (.iadd, 1) := by decide +kernel
theorem dX1_usualOf_42 : decode cX1_usualOf 42 = .ok (.iaload, 1) := by decide +kernel
theorem dX1_usualOf_43 : decode cX1_usualOf 43 = .ok (.goto 4, 3) := by decide +kernel
theorem dX1_usualOf_46 : decode cX1_usualOf 46 = .ok (.iconst 0, 1) := by decide +kernel
theorem dX1_usualOf_47 : decode cX1_usualOf 47 = .ok (.ireturn, 1) := by decide +kernel
theorem dX1_usualSet_0 : decode cX1_usualSet 0 = .ok (.iconst 0, 1) := by decide +kernel
theorem dX1_usualSet_1 : decode cX1_usualSet 1 = .ok (.istore_n 3, 1) := by decide +kernel
theorem dX1_usualSet_2 : decode cX1_usualSet 2 = .ok (.iconst 0, 1) := by decide +kernel
theorem dX1_usualSet_3 : decode cX1_usualSet 3 = .ok (.istore 4, 2) := by decide +kernel
theorem dX1_usualSet_5 : decode cX1_usualSet 5 = .ok (.iload 4, 2) := by decide +kernel
theorem dX1_usualSet_7 : decode cX1_usualSet 7 = .ok (.bipush 10, 2) := by decide +kernel
theorem dX1_usualSet_9 : decode cX1_usualSet 9 = .ok (.if_icmp .ge 27, 3) := by decide +kernel
theorem dX1_usualSet_12 : decode cX1_usualSet 12 = .ok (.aload_n 0, 1) := by decide +kernel
theorem dX1_usualSet_13 : decode cX1_usualSet 13 = .ok (.iload_n 1, 1) := by decide +kernel
theorem dX1_usualSet_14 : decode cX1_usualSet 14 = .ok (.iload 4, 2) := by decide +kernel
theorem dX1_usualSet_16 : decode cX1_usualSet 16 = .ok (.invokevirtual 28, 3) := by decide +kernel
theorem dX1_usualSet_19 : decode cX1_usualSet 19 = .ok (.iload_n 2, 1) := by decide +kernel
theorem dX1_usualSet_20 : decode cX1_usualSet 20 = .ok (.if_icmp .lt 10, 3) := by decide +kernel
theorem dX1_usualSet_23 : decode cX1_usualSet 23 = .ok (.iload_n 3, 1) := by decide +kernel
theorem dX1_usualSet_24 : decode cX1_usualSet 24 = .ok (.iconst 1, 1) := by decide +kernel
theorem dX1_usualSet_25 : decode cX1_usualSet 25 = .ok (.iload 4, 2) := by decide +kernel
theorem dX1_usualSet_27 : decode cX1_usualSet 27 = .ok (.ishl, 1) := by decide +kernel
theorem dX1_usualSet_28 : decode cX1_usualSet 28 = .ok (.ior, 1) := by decide +kernel
theorem dX1_usualSet_29 : decode cX1_usualSet 29 = .ok (.istore_n 3, 1) := by decide +kernel
theorem dX1_usualSet_30 : decode cX1_usualSet 30 = .ok (.iinc 4 1, 3) := by decide +kernel
theorem dX1_usualSet_33 : decode cX1_usualSet 33 = .ok (.goto (-28), 3) := by decide +kernel
theorem dX1_usualSet_36 : decode cX1_usualSet 36 = .ok (.iload_n 3, 1) := by decide +kernel
theorem dX1_usualSet_37 : decode cX1_usualSet 37 = .ok (.ireturn, 1) := by decide +kernel
theorem dX1_usualInAll_0 : decode cX1_usualInAll 0 = .ok (.iconst 0, 1) := by decide +kernel
theorem dX1_usualInAll_1 : decode cX1_usualInAll 1 = .ok (.istore_n 2, 1) := by decide +kernel
theorem dX1_usualInAll_2 : decode cX1_usualInAll 2 = .ok (.iconst 0, 1) := by decide +kernel
theorem dX1_usualInAll_3 : decode cX1_usualInAll 3 = .ok (.istore_n 3, 1) := by decide +kernel
theorem dX1_usualInAll_4 : decode cX1_usualInAll 4 = .ok (.iload_n 3, 1) := by decide +kernel
theorem dX1_usualInAll_5 : decode cX1_usualInAll 5 = .ok (.aload_n 0, 1) := by decide +kernel
theorem dX1_usualInAll_6 : decode cX1_usualInAll 6 = .ok (.getfield 15, 3) := by decide +kernel
theorem dX1_usualInAll_9 : decode cX1_usualInAll 9 = .ok (.if_icmp .ge 42, 3) := by decide +kernel
theorem dX1_usualInAll_12 : decode cX1_usualInAll 12 = .ok (.iconst 0, 1) := by decide +kernel
theorem dX1_usualInAll_13 : decode cX1_usualInAll 13 = .ok (.istore 4, 2) := by decide +kernel
theorem dX1_usualInAll_15 : decode cX1_usualInAll 15 = .ok (.iload 4, 2) := by decide +kernel
theorem dX1_usualInAll_17 : decode cX1_usualInAll 17 = .ok (.aload_n 1, 1) := by decide +kernel
theorem dX1_usualInAll_18 : decode cX1_usualInAll 18 = .ok (.getfield 32, 3) := by decide +kernel
theorem dX1_usualInAll_21 : decode cX1_usualInAll 21 = .ok (.if_icmp .ge 24, 3) := by decide +kernel
theorem dX1_usualInAll_24 : decode cX1_usualInAll 24 = .ok (.iload_n 2, 1) := by decide +kernel
theorem dX1_usualInAll_25 : decode cX1_usualInAll 25 = .ok (.aload_n 0, 1) := by decide +kernel
theorem dX1_usualInAll_26 : decode cX1_usualInAll 26 = .ok (.iload_n 3, 1) := by decide +kernel
theorem dX1_usualInAll_27 : decode cX1_usualInAll 27 = .ok (.aload_n 1, 1) := by decide +kernel
theorem dX1_usualInAll_28 : decode cX1_usualInAll 28 = .ok (.getfield 35, 3) := by decide +kernel
theorem dX1_usualInAll_31 : decode cX1_usualInAll 31 = .ok (.iload 4, 2) := by decide +kernel
theorem dX1_usualInAll_33 : decode cX1_usualInAll 33 = .ok (.iaload, 1) := by decide +kernel
theorem dX1_usualInAll_34 : decode cX1_usualInAll 34 = .ok (.invokevirtual 28, 3) := by decide +kernel
theorem dX1_usualInAll_37 : decode cX1_usualInAll 37 = .ok (.iadd, 1) := by decide +kernel
theorem dX1_usualInAll_38 : decode cX1_usualInAll 38 = .ok (.istore_n 2, 1) := by decide +kernel
theorem dX1_usualInAll_39 : decode cX1_usualInAll 39 = .ok (.iinc 4 1, 3) := by decide +kernel
theorem dX1_usualInAll_42 : decode cX1_usualInAll 42 = .ok (.goto (-27), 3) := by decide +kernel
theorem dX1_usualInAll_45 : decode cX1_usualInAll 45 = .ok (.iinc 3 1, 3) := by decide +kernel
theorem dX1_usualInAll_48 : decode cX1_usualInAll 48 = .ok (.goto (-44), 3) := by decide +kernel
theorem dX1_usualInAll_51 : decode cX1_usualInAll 51 = .ok (.iload_n 2, 1) := by decide +kernel
theorem dX1_usualInAll_52 : decode cX1_usualInAll 52 = .ok (.ireturn, 1) := by decide +kernel
theorem dX1_digestOn_0 : decode cX1_digestOn 0 = .ok (.aload_n 0, 1) := by decide +kernel
theorem dX1_digestOn_1 : decode cX1_digestOn 1 = .ok (.getfield 15, 3) := by decide +kernel
theorem dX1_digestOn_4 : decode cX1_digestOn 4 = .ok (.ifCond .ne 11, 3) := by decide +kernel
theorem dX1_digestOn_7 : decode cX1_digestOn 7 = .ok (.ldc2_w 38, 3) := by decide +kernel
theorem dX1_digestOn_10 : decode cX1_digestOn 10 = .ok (.lload_n 1, 1) := by decide +kernel
theorem dX1_digestOn_11 : decode cX1_digestOn 11 = .ok (.lmul, 1) := by decide +kernel
theorem dX1_digestOn_12 : decode cX1_digestOn 12 = .ok (.lconst 1, 1) := by decide +kernel
theorem dX1_digestOn_13 : decode cX1_digestOn 13 = .ok (.lsub, 1) := by decide +kernel
theorem dX1_digestOn_14 : decode cX1_digestOn 14 = .ok (.lreturn, 1) := by decide +kernel
theorem dX1_digestOn_15 : decode cX1_digestOn 15 = .ok (.ldc2_w 38, 3) := by decide +kernel
theorem dX1_digestOn_18 : decode cX1_digestOn 18 = .ok (.lload_n 1, 1) := by decide +kernel
theorem dX1_digestOn_19 : decode cX1_digestOn 19 = .ok (.lmul, 1) := by decide +kernel
theorem dX1_digestOn_20 : decode cX1_digestOn 20 = .ok (.aload_n 0, 1) := by decide +kernel
theorem dX1_digestOn_21 : decode cX1_digestOn 21 = .ok (.getfield 15, 3) := by decide +kernel
theorem dX1_digestOn_24 : decode cX1_digestOn 24 = .ok (.i2l, 1) := by decide +kernel
theorem dX1_digestOn_25 : decode cX1_digestOn 25 = .ok (.ladd, 1) := by decide +kernel
theorem dX1_digestOn_26 : decode cX1_digestOn 26 = .ok (.lstore_n 3, 1) := by decide +kernel
theorem dX1_digestOn_27 : decode cX1_digestOn 27 = .ok (.iconst 0, 1) := by decide +kernel
theorem dX1_digestOn_28 : decode cX1_digestOn 28 = .ok (.istore 5, 2) := by decide +kernel
theorem dX1_digestOn_30 : decode cX1_digestOn 30 = .ok (.iload 5, 2) := by decide +kernel
theorem dX1_digestOn_32 : decode cX1_digestOn 32 = .ok (.aload_n 0, 1) := by decide +kernel
theorem dX1_digestOn_33 : decode cX1_digestOn 33 = .ok (.getfield 15, 3) := by decide +kernel
theorem dX1_digestOn_36 : decode cX1_digestOn 36 = .ok (.bipush 10, 2) := by decide +kernel
theorem dX1_digestOn_38 : decode cX1_digestOn 38 = .ok (.imul, 1) := by decide +kernel
theorem dX1_digestOn_39 : decode cX1_digestOn 39 = .ok (.if_icmp .ge 24, 3) := by decide +kernel
theorem dX1_digestOn_42 : decode cX1_digestOn 42 = .ok (.ldc2_w 38, 3) := by decide +kernel
theorem dX1_digestOn_45 : decode cX1_digestOn 45 = .ok (.lload_n 3, 1) := by decide +kernel
theorem dX1_digestOn_46 : decode cX1_digestOn 46 = .ok (.lmul, 1) := by decide +kernel
theorem dX1_digestOn_47 : decode cX1_digestOn 47 = .ok (.aload_n 0, 1) := by decide +kernel
theorem dX1_digestOn_48 : decode cX1_digestOn 48 = .ok (.getfield 9, 3) := by decide +kernel
theorem dX1_digestOn_51 : decode cX1_digestOn 51 = .ok (.iload 5, 2) := by decide +kernel
theorem dX1_digestOn_53 : decode cX1_digestOn 53 = .ok (.iaload, 1) := by decide +kernel
theorem dX1_digestOn_54 : decode cX1_digestOn 54 = .ok (.i2l, 1) := by decide +kernel
theorem dX1_digestOn_55 : decode cX1_digestOn 55 = .ok (.ladd, 1) := by decide +kernel
theorem dX1_digestOn_56 : decode cX1_digestOn 56 = .ok (.lstore_n 3, 1) := by decide +kernel
theorem dX1_digestOn_57 : decode cX1_digestOn 57 = .ok (.iinc 5 1, 3) := by decide +kernel
theorem dX1_digestOn_60 : decode cX1_digestOn 60 = .ok (.goto (-30), 3) := by decide +kernel
theorem dX1_digestOn_63 : decode cX1_digestOn 63 = .ok (.lload_n 3, 1) := by decide +kernel
theorem dX1_digestOn_64 : decode cX1_digestOn 64 = .ok (.lreturn, 1) := by decide +kernel
theorem dX2_init_0 : decode cX2_init 0 = .ok (.aload_n 0, 1) := by decide +kernel
theorem dX2_init_1 : decode cX2_init 1 = .ok (.invokespecial 3, 3) := by decide +kernel
theorem dX2_init_4 : decode cX2_init 4 = .ok (.aload_n 0, 1) := by decide +kernel
theorem dX2_init_5 : decode cX2_init 5 = .ok (.bipush 6, 2) := by decide +kernel
theorem dX2_init_7 : decode cX2_init 7 = .ok (.newarray .int, 2) := by decide +kernel
theorem dX2_init_9 : decode cX2_init 9 = .ok (.putfield 9, 3) := by decide +kernel
theorem dX2_init_12 : decode cX2_init 12 = .ok (.return_, 1) := by decide +kernel
theorem dX2_take_0 : decode cX2_take 0 = .ok (.aload_n 0, 1) := by decide +kernel
theorem dX2_take_1 : decode cX2_take 1 = .ok (.iconst 0, 1) := by decide +kernel
theorem dX2_take_2 : decode cX2_take 2 = .ok (.putfield 15, 3) := by decide +kernel
theorem dX2_take_5 : decode cX2_take 5 = .ok (.iconst 0, 1) := by decide +kernel
theorem dX2_take_6 : decode cX2_take 6 = .ok (.istore_n 2, 1) := by decide +kernel
theorem dX2_take_7 : decode cX2_take 7 = .ok (.iload_n 2, 1) := by decide +kernel
theorem dX2_take_8 : decode cX2_take 8 = .ok (.aload_n 1, 1) := by decide +kernel
theorem dX2_take_9 : decode cX2_take 9 = .ok (.getfield 19, 3) := by decide +kernel
theorem dX2_take_12 : decode cX2_take 12 = .ok (.if_icmp .ge 24, 3) := by decide +kernel
theorem dX2_take_15 : decode cX2_take 15 = .ok (.iload_n 2, 1) := by decide +kernel
theorem dX2_take_16 : decode cX2_take 16 = .ok (.bipush 6, 2) := by decide +kernel
theorem dX2_take_18 : decode cX2_take 18 = .ok (.if_icmp .ge 18, 3) := by decide +kernel
theorem dX2_take_21 : decode cX2_take 21 = .ok (.aload_n 0, 1) := by decide +kernel
theorem dX2_take_22 : decode cX2_take 22 = .ok (.aload_n 1, 1) := by decide +kernel
theorem dX2_take_23 : decode cX2_take 23 = .ok (.iload_n 2, 1) := by decide +kernel
theorem dX2_take_24 : decode cX2_take 24 = .ok (.invokevirtual 22, 3) := by decide +kernel
theorem dX2_take_27 : decode cX2_take 27 = .ok (.invokevirtual 26, 3) := by decide +kernel
theorem dX2_take_30 : decode cX2_take 30 = .ok (.iinc 2 1, 3) := by decide +kernel
theorem dX2_take_33 : decode cX2_take 33 = .ok (.goto (-26), 3) := by decide +kernel
theorem dX2_take_36 : decode cX2_take 36 = .ok (.return_, 1) := by decide +kernel
theorem dX2_takeSet_0 : decode cX2_takeSet 0 = .ok (.aload_n 0, 1) := by decide +kernel
theorem dX2_takeSet_1 : decode cX2_takeSet 1 = .ok (.iconst 0, 1) := by decide +kernel
theorem dX2_takeSet_2 : decode cX2_takeSet 2 = .ok (.putfield 15, 3) := by decide +kernel
theorem dX2_takeSet_5 : decode cX2_takeSet 5 = .ok (.iconst 0, 1) := by decide +kernel
theorem dX2_takeSet_6 : decode cX2_takeSet 6 = .ok (.istore_n 2, 1) := by decide +kernel
theorem dX2_takeSet_7 : decode cX2_takeSet 7 = .ok (.iload_n 2, 1) := by decide +kernel
theorem dX2_takeSet_8 : decode cX2_takeSet 8 = .ok (.bipush 10, 2) := by decide +kernel
theorem dX2_takeSet_10 : decode cX2_takeSet 10 = .ok (.if_icmp .ge 22, 3) := by decide +kernel
theorem dX2_takeSet_13 : decode cX2_takeSet 13 = .ok (.iload_n 1, 1) := by decide +kernel
theorem dX2_takeSet_14 : decode cX2_takeSet 14 = .ok (.iload_n 2, 1) := by decide +kernel
theorem dX2_takeSet_15 : decode cX2_takeSet 15 = .ok (.ishr, 1) := by decide +kernel
theorem dX2_takeSet_16 : decode cX2_takeSet 16 = .ok (.iconst 1, 1) := by decide +kernel
theorem dX2_takeSet_17 : decode cX2_takeSet 17 = .ok (.iand, 1) := by decide +kernel
theorem dX2_takeSet_18 : decode cX2_takeSet 18 = .ok (.ifCond .eq 8, 3) := by decide +kernel
theorem dX2_takeSet_21 : decode cX2_takeSet 21 = .ok (.aload_n 0, 1) := by decide +kernel
theorem dX2_takeSet_22 : decode cX2_takeSet 22 = .ok (.iload_n 2, 1) := by decide +kernel
theorem dX2_takeSet_23 : decode cX2_takeSet 23 = .ok (.invokevirtual 26, 3) := by decide +kernel
theorem dX2_takeSet_26 : decode cX2_takeSet 26 = .ok (.iinc 2 1, 3) := by decide +kernel
theorem dX2_takeSet_29 : decode cX2_takeSet 29 = .ok (.goto (-22), 3) := by decide +kernel
theorem dX2_takeSet_32 : decode cX2_takeSet 32 = .ok (.return_, 1) := by decide +kernel
theorem dX2_drawBy_0 : decode cX2_drawBy 0 = .ok (.aload_n 0, 1) := by decide +kernel
theorem dX2_drawBy_1 : decode cX2_drawBy 1 = .ok (.iconst 0, 1) := by decide +kernel
theorem dX2_drawBy_2 : decode cX2_drawBy 2 = .ok (.putfield 15, 3) := by decide +kernel
theorem dX2_drawBy_5 : decode cX2_drawBy 5 = .ok (.aload_n 1, 1) := by decide +kernel
theorem dX2_drawBy_6 : decode cX2_drawBy 6 = .ok (.invokevirtual 30, 3) := by decide +kernel
theorem dX2_drawBy_9 : decode cX2_drawBy 9 = .ok (.istore_n 3, 1) := by decide +kernel
theorem dX2_drawBy_10 : decode cX2_drawBy 10 = .ok (.iconst 0, 1) := by decide +kernel
theorem dX2_drawBy_11 : decode cX2_drawBy 11 = .ok (.istore 4, 2) := by decide +kernel
theorem dX2_drawBy_13 : decode cX2_drawBy 13 = .ok (.iload_n 3, 1) := by decide +kernel
theorem dX2_drawBy_14 : decode cX2_drawBy 14 = .ok (.ifCond .le 44, 3) := by decide +kernel
theorem dX2_drawBy_17 : decode cX2_drawBy 17 = .ok (.aload_n 1, 1) := by decide +kernel
theorem dX2_drawBy_18 : decode cX2_drawBy 18 = .ok (.getfield 36, 3) := by decide +kernel
theorem dX2_drawBy_21 : decode cX2_drawBy 21 = .ok (.iload_n 2, 1) := by decide +kernel
theorem dX2_drawBy_22 : decode cX2_drawBy 22 = .ok (.iload 4, 2) := by decide +kernel
theorem dX2_drawBy_24 : decode cX2_drawBy 24 = .ok (.invokestatic 40, 3) := by decide +kernel
theorem dX2_drawBy_27 : decode cX2_drawBy 27 = .ok (.istore 5, 2) := by decide +kernel
theorem dX2_drawBy_29 : decode cX2_drawBy 29 = .ok (.iload 5, 2) := by decide +kernel
theorem dX2_drawBy_31 : decode cX2_drawBy 31 = .ok (.bipush (-9), 2) := by decide +kernel
theorem dX2_drawBy_33 : decode cX2_drawBy 33 = .ok (.if_icmp .ne 4, 3) := by decide +kernel
theorem dX2_drawBy_36 : decode cX2_drawBy 36 = .ok (.return_, 1) := by decide +kernel
theorem dX2_drawBy_37 : decode cX2_drawBy 37 = .ok (.aload_n 0, 1) := by decide +kernel
theorem dX2_drawBy_38 : decode cX2_drawBy 38 = .ok (.iload 5, 2) := by decide +kernel
theorem dX2_drawBy_40 : decode cX2_drawBy 40 = .ok (.invokevirtual 26, 3) := by decide +kernel
theorem dX2_drawBy_43 : decode cX2_drawBy 43 = .ok (.iload 4, 2) := by decide +kernel
theorem dX2_drawBy_45 : decode cX2_drawBy 45 = .ok (.iconst 1, 1) := by decide +kernel
theorem dX2_drawBy_46 : decode cX2_drawBy 46 = .ok (.iload 5, 2) := by decide +kernel
theorem dX2_drawBy_48 : decode cX2_drawBy 48 = .ok (.ishl, 1) := by decide +kernel
theorem dX2_drawBy_49 : decode cX2_drawBy 49 = .ok (.ior, 1) := by decide +kernel
theorem dX2_drawBy_50 : decode cX2_drawBy 50 = .ok (.istore 4, 2) := by decide +kernel
theorem dX2_drawBy_52 : decode cX2_drawBy 52 = .ok (.iinc 3 (-1), 3) := by decide +kernel
theorem dX2_drawBy_55 : decode cX2_drawBy 55 = .ok (.goto (-42), 3) := by decide +kernel
theorem dX2_drawBy_58 : decode cX2_drawBy 58 = .ok (.return_, 1) := by decide +kernel
theorem dX2_add_0 : decode cX2_add 0 = .ok (.aload_n 0, 1) := by decide +kernel
theorem dX2_add_1 : decode cX2_add 1 = .ok (.getfield 15, 3) := by decide +kernel
theorem dX2_add_4 : decode cX2_add 4 = .ok (.ifCond .lt 35, 3) := by decide +kernel
theorem dX2_add_7 : decode cX2_add 7 = .ok (.aload_n 0, 1) := by decide +kernel
theorem dX2_add_8 : decode cX2_add 8 = .ok (.getfield 15, 3) := by decide +kernel
theorem dX2_add_11 : decode cX2_add 11 = .ok (.aload_n 0, 1) := by decide +kernel
theorem dX2_add_12 : decode cX2_add 12 = .ok (.getfield 9, 3) := by decide +kernel
theorem dX2_add_15 : decode cX2_add 15 = .ok (.arraylength, 1) := by decide +kernel
theorem dX2_add_16 : decode cX2_add 16 = .ok (.if_icmp .ge 23, 3) := by decide +kernel
theorem dX2_add_19 : decode cX2_add 19 = .ok (.aload_n 0, 1) := by decide +kernel
theorem dX2_add_20 : decode cX2_add 20 = .ok (.getfield 9, 3) := by decide +kernel
theorem dX2_add_23 : decode cX2_add 23 = .ok (.aload_n 0, 1) := by decide +kernel
theorem dX2_add_24 : decode cX2_add 24 = .ok (.getfield 15, 3) := by decide +kernel
theorem dX2_add_27 : decode cX2_add 27 = .ok (.iload_n 1, 1) := by decide +kernel
theorem dX2_add_28 : decode cX2_add 28 = .ok (.iastore, 1) := by decide +kernel
theorem dX2_add_29 : decode cX2_add 29 = .ok (.aload_n 0, 1) := by decide +kernel
theorem dX2_add_30 : decode cX2_add 30 = .ok (.dup, 1) := by decide +kernel
theorem dX2_add_31 : decode cX2_add 31 = .ok (.getfield 15, 3) := by decide +kernel
theorem dX2_add_34 : decode cX2_add 34 = .ok (.iconst 1, 1) := by decide +kernel
theorem dX2_add_35 : decode cX2_add 35 = .ok (.iadd, 1) := by decide +kernel
theorem dX2_add_36 : decode cX2_add 36 = .ok (.putfield 15, 3) := by decide +kernel
theorem dX2_add_39 : decode cX2_add 39 = .ok (.return_, 1) := by decide +kernel
theorem dX2_mostUsual_0 : decode cX2_mostUsual 0 = .ok (.bipush (-9), 2) := by decide +kernel
theorem dX2_mostUsual_2 : decode cX2_mostUsual 2 = .ok (.istore_n 3, 1) := by decide +kernel
theorem dX2_mostUsual_3 : decode cX2_mostUsual 3 = .ok (.iconst 0, 1) := by decide +kernel
theorem dX2_mostUsual_4 : decode cX2_mostUsual 4 = .ok (.istore 4, 2) := by decide +kernel
theorem dX2_mostUsual_6 : decode cX2_mostUsual 6 = .ok (.iconst 0, 1) := by decide +kernel
theorem dX2_mostUsual_7 : decode cX2_mostUsual 7 = .ok (.istore 5, 2) := by decide +kernel
theorem dX2_mostUsual_9 : decode cX2_mostUsual 9 = .ok (.iload 5, 2) := by decide +kernel
theorem dX2_mostUsual_11 : decode cX2_mostUsual 11 = .ok (.bipush 10, 2) := by decide +kernel
theorem dX2_mostUsual_13 : decode cX2_mostUsual 13 = .ok (.if_icmp .ge 41, 3) := by decide +kernel
theorem dX2_mostUsual_16 : decode cX2_mostUsual 16 = .ok (.aload_n 0, 1) := by decide +kernel
theorem dX2_mostUsual_17 : decode cX2_mostUsual 17 = .ok (.iload_n 1, 1) := by decide +kernel
theorem dX2_mostUsual_18 : decode cX2_mostUsual 18 = .ok (.iload 5, 2) := by decide +kernel
theorem dX2_mostUsual_20 : decode cX2_mostUsual 20 = .ok (.invokevirtual 44, 3) := by decide +kernel
theorem dX2_mostUsual_23 : decode cX2_mostUsual 23 = .ok (.istore 6, 2) := by decide +kernel
theorem dX2_mostUsual_25 : decode cX2_mostUsual 25 = .ok (.iload 6, 2) := by decide +kernel
theorem dX2_mostUsual_27 : decode cX2_mostUsual 27 = .ok (.iload 4, 2) := by decide +kernel
theorem dX2_mostUsual_29 : decode cX2_mostUsual 29 = .ok (.if_icmp .le 19, 3) := by decide +kernel
theorem dX2_mostUsual_32 : decode cX2_mostUsual 32 = .ok (.iload_n 2, 1) := by decide +kernel
theorem dX2_mostUsual_33 : decode cX2_mostUsual 33 = .ok (.iload 5, 2) := by decide +kernel
theorem dX2_mostUsual_35 : decode cX2_mostUsual 35 = .ok (.ishr, 1) := by decide +kernel
theorem dX2_mostUsual_36 : decode cX2_mostUsual 36 = .ok (.iconst 1, 1) := by decide +kernel
theorem dX2_mostUsual_37 : decode cX2_mostUsual 37 = .ok (.iand, 1) := by decide +kernel
theorem dX2_mostUsual_38 : decode cX2_mostUsual 38 = .ok (.ifCond .ne 10, 3) := by decide +kernel
theorem dX2_mostUsual_41 : decode cX2_mostUsual 41 = .ok (.iload 6, 2) := by decide +kernel
theorem dX2_mostUsual_43 : decode cX2_mostUsual 43 = .ok (.istore 4, 2) := by decide +kernel
theorem dX2_mostUsual_45 : decode cX2_mostUsual 45 = .ok (.iload 5, 2) := by decide +kernel
theorem dX2_mostUsual_47 : decode cX2_mostUsual 47 = .ok (.istore_n 3, 1) := by decide +kernel
theorem dX2_mostUsual_48 : decode cX2_mostUsual 48 = .ok (.iinc 5 1, 3) := by decide +kernel
theorem dX2_mostUsual_51 : decode cX2_mostUsual 51 = .ok (.goto (-42), 3) := by decide +kernel
theorem dX2_mostUsual_54 : decode cX2_mostUsual 54 = .ok (.iload_n 3, 1) := by decide +kernel
theorem dX2_mostUsual_55 : decode cX2_mostUsual 55 = .ok (.ireturn, 1) := by decide +kernel
theorem dX2_set_0 : decode cX2_set 0 = .ok (.iconst 0, 1) := by decide +kernel
theorem dX2_set_1 : decode cX2_set 1 = .ok (.istore_n 1, 1) := by decide +kernel
theorem dX2_set_2 : decode cX2_set 2 = .ok (.iconst 0, 1) := by decide +kernel
theorem dX2_set_3 : decode cX2_set 3 = .ok (.istore_n 2, 1) := by decide +kernel
theorem dX2_set_4 : decode cX2_set 4 = .ok (.iload_n 2, 1) := by decide +kernel
theorem dX2_set_5 : decode cX2_set 5 = .ok (.aload_n 0, 1) := by decide +kernel
theorem dX2_set_6 : decode cX2_set 6 = .ok (.getfield 15, 3) := by decide +kernel
theorem dX2_set_9 : decode cX2_set 9 = .ok (.if_icmp .ge 20, 3) := by decide +kernel
theorem dX2_set_12 : decode cX2_set 12 = .ok (.iload_n 1, 1) := by decide +kernel
theorem dX2_set_13 : decode cX2_set 13 = .ok (.iconst 1, 1) := by decide +kernel
theorem dX2_set_14 : decode cX2_set 14 = .ok (.aload_n 0, 1) := by decide +kernel
theorem dX2_set_15 : decode cX2_set 15 = .ok (.getfield 9, 3) := by decide +kernel
theorem dX2_set_18 : decode cX2_set 18 = .ok (.iload_n 2, 1) := by decide +kernel
theorem dX2_set_19 : decode cX2_set 19 = .ok (.iaload, 1) := by decide +kernel
theorem dX2_set_20 : decode cX2_set 20 = .ok (.ishl, 1) := by decide +kernel
theorem dX2_set_21 : decode cX2_set 21 = .ok (.ior, 1) := by decide +kernel
theorem dX2_set_22 : decode cX2_set 22 = .ok (.istore_n 1, 1) := by decide +kernel
theorem dX2_set_23 : decode cX2_set 23 = .ok (.iinc 2 1, 3) := by decide +kernel
theorem dX2_set_26 : decode cX2_set 26 = .ok (.goto (-22), 3) := by decide +kernel
theorem dX2_set_29 : decode cX2_set 29 = .ok (.iload_n 1, 1) := by decide +kernel
theorem dX2_set_30 : decode cX2_set 30 = .ok (.ireturn, 1) := by decide +kernel
theorem dX3_init_0 : decode cX3_init 0 = .ok (.aload_n 0, 1) := by decide +kernel
theorem dX3_init_1 : decode cX3_init 1 = .ok (.invokespecial 1, 3) := by decide +kernel
theorem dX3_init_4 : decode cX3_init 4 = .ok (.aload_n 0, 1) := by decide +kernel
theorem dX3_init_5 : decode cX3_init 5 = .ok (.new 7, 3) := by decide +kernel
theorem dX3_init_8 : decode cX3_init 8 = .ok (.dup, 1) := by decide +kernel
theorem dX3_init_9 : decode cX3_init 9 = .ok (.invokespecial 9, 3) := by decide +kernel
theorem dX3_init_12 : decode cX3_init 12 = .ok (.putfield 10, 3) := by decide +kernel
theorem dX3_init_15 : decode cX3_init 15 = .ok (.return_, 1) := by decide +kernel
theorem dX3_write_0 : decode cX3_write 0 = .ok (.aload_n 0, 1) := by decide +kernel
theorem dX3_write_1 : decode cX3_write 1 = .ok (.iload_n 1, 1) := by decide +kernel
theorem dX3_write_2 : decode cX3_write 2 = .ok (.putfield 16, 3) := by decide +kernel
theorem dX3_write_5 : decode cX3_write 5 = .ok (.aload_n 0, 1) := by decide +kernel
theorem dX3_write_6 : decode cX3_write 6 = .ok (.iload_n 2, 1) := by decide +kernel
theorem dX3_write_7 : decode cX3_write 7 = .ok (.putfield 20, 3) := by decide +kernel
theorem dX3_write_10 : decode cX3_write 10 = .ok (.aload_n 0, 1) := by decide +kernel
theorem dX3_write_11 : decode cX3_write 11 = .ok (.iload_n 3, 1) := by decide +kernel
theorem dX3_write_12 : decode cX3_write 12 = .ok (.putfield 24, 3) := by decide +kernel
theorem dX3_write_15 : decode cX3_write 15 = .ok (.aload_n 0, 1) := by decide +kernel
theorem dX3_write_16 : decode cX3_write 16 = .ok (.getfield 10, 3) := by decide +kernel
theorem dX3_write_19 : decode cX3_write 19 = .ok (.aload 4, 2) := by decide +kernel
theorem dX3_write_21 : decode cX3_write 21 = .ok (.invokevirtual 27, 3) := by decide +kernel
theorem dX3_write_24 : decode cX3_write 24 = .ok (.aload_n 0, 1) := by decide +kernel
theorem dX3_write_25 : decode cX3_write 25 = .ok (.aload_n 0, 1) := by decide +kernel
theorem dX3_write_26 : decode cX3_write 26 = .ok (.getfield 10, 3) := by decide +kernel
theorem dX3_write_29 : decode cX3_write 29 = .ok (.invokevirtual 31, 3) := by decide +kernel
theorem dX3_write_32 : decode cX3_write 32 = .ok (.putfield 35, 3) := by decide +kernel
theorem dX3_write_35 : decode cX3_write 35 = .ok (.aload_n 0, 1) := by decide +kernel
theorem dX3_write_36 : decode cX3_write 36 = .ok (.iload 5, 2) := by decide +kernel
theorem dX3_write_38 : decode cX3_write 38 = .ok (.putfield 37, 3) := by decide +kernel
theorem dX3_write_41 : decode cX3_write 41 = .ok (.return_, 1) := by decide +kernel
theorem dX3_isOf_0 : decode cX3_isOf 0 = .ok (.aload_n 0, 1) := by decide +kernel
theorem dX3_isOf_1 : decode cX3_isOf 1 = .ok (.getfield 20, 3) := by decide +kernel
theorem dX3_isOf_4 : decode cX3_isOf 4 = .ok (.iload_n 1, 1) := by decide +kernel
theorem dX3_isOf_5 : decode cX3_isOf 5 = .ok (.if_icmp .ne 15, 3) := by decide +kernel
theorem dX3_isOf_8 : decode cX3_isOf 8 = .ok (.aload_n 0, 1) := by decide +kernel
theorem dX3_isOf_9 : decode cX3_isOf 9 = .ok (.getfield 16, 3) := by decide +kernel
theorem dX3_isOf_12 : decode cX3_isOf 12 = .ok (.iload_n 2, 1) := by decide +kernel
theorem dX3_isOf_13 : decode cX3_isOf 13 = .ok (.if_icmp .ne 7, 3) := by decide +kernel
theorem dX3_isOf_16 : decode cX3_isOf 16 = .ok (.iconst 1, 1) := by decide +kernel
theorem dX3_isOf_17 : decode cX3_isOf 17 = .ok (.goto 4, 3) := by decide +kernel
theorem dX3_isOf_20 : decode cX3_isOf 20 = .ok (.iconst 0, 1) := by decide +kernel
theorem dX3_isOf_21 : decode cX3_isOf 21 = .ok (.ireturn, 1) := by decide +kernel
theorem dX3_unlike_0 : decode cX3_unlike 0 = .ok (.aload_n 0, 1) := by decide +kernel
theorem dX3_unlike_1 : decode cX3_unlike 1 = .ok (.getfield 35, 3) := by decide +kernel
theorem dX3_unlike_4 : decode cX3_unlike 4 = .ok (.iload_n 1, 1) := by decide +kernel
theorem dX3_unlike_5 : decode cX3_unlike 5 = .ok (.ixor, 1) := by decide +kernel
theorem dX3_unlike_6 : decode cX3_unlike 6 = .ok (.invokestatic 40, 3) := by decide +kernel
theorem dX3_unlike_9 : decode cX3_unlike 9 = .ok (.ireturn, 1) := by decide +kernel
theorem dX3_tells_0 : decode cX3_tells 0 = .ok (.iload_n 1, 1) := by decide +kernel
theorem dX3_tells_1 : decode cX3_tells 1 = .ok (.tableswitch 59 0 3 #[31, 44, 49, 54], 31) := by decide +kernel
theorem dX3_tells_32 : decode cX3_tells 32 = .ok (.aload_n 0, 1) := by decide +kernel
theorem dX3_tells_33 : decode cX3_tells 33 = .ok (.getfield 16, 3) := by decide +kernel
theorem dX3_tells_36 : decode cX3_tells 36 = .ok (.ifCond .eq 7, 3) := by decide +kernel
theorem dX3_tells_39 : decode cX3_tells 39 = .ok (.iconst 1, 1) := by decide +kernel
theorem dX3_tells_40 : decode cX3_tells 40 = .ok (.goto 4, 3) := by decide +kernel
theorem dX3_tells_43 : decode cX3_tells 43 = .ok (.iconst 0, 1) := by decide +kernel
theorem dX3_tells_44 : decode cX3_tells 44 = .ok (.ireturn, 1) := by decide +kernel
theorem dX3_tells_45 : decode cX3_tells 45 = .ok (.aload_n 0, 1) := by decide +kernel
theorem dX3_tells_46 : decode cX3_tells 46 = .ok (.getfield 20, 3) := by decide +kernel
theorem dX3_tells_49 : decode cX3_tells 49 = .ok (.ireturn, 1) := by decide +kernel
theorem dX3_tells_50 : decode cX3_tells 50 = .ok (.aload_n 0, 1) := by decide +kernel
theorem dX3_tells_51 : decode cX3_tells 51 = .ok (.getfield 24, 3) := by decide +kernel
theorem dX3_tells_54 : decode cX3_tells 54 = .ok (.ireturn, 1) := by decide +kernel
theorem dX3_tells_55 : decode cX3_tells 55 = .ok (.aload_n 0, 1) := by decide +kernel
theorem dX3_tells_56 : decode cX3_tells 56 = .ok (.getfield 35, 3) := by decide +kernel
theorem dX3_tells_59 : decode cX3_tells 59 = .ok (.ireturn, 1) := by decide +kernel
theorem dX3_tells_60 : decode cX3_tells 60 = .ok (.aload_n 0, 1) := by decide +kernel
theorem dX3_tells_61 : decode cX3_tells 61 = .ok (.getfield 37, 3) := by decide +kernel
theorem dX3_tells_64 : decode cX3_tells 64 = .ok (.ireturn, 1) := by decide +kernel
theorem dX4_init_0 : decode cX4_init 0 = .ok (.aload_n 0, 1) := by decide +kernel
theorem dX4_init_1 : decode cX4_init 1 = .ok (.invokespecial 3, 3) := by decide +kernel
theorem dX4_init_4 : decode cX4_init 4 = .ok (.aload_n 0, 1) := by decide +kernel
theorem dX4_init_5 : decode cX4_init 5 = .ok (.bipush 8, 2) := by decide +kernel
theorem dX4_init_7 : decode cX4_init 7 = .ok (.newarray .int, 2) := by decide +kernel
theorem dX4_init_9 : decode cX4_init 9 = .ok (.putfield 9, 3) := by decide +kernel
theorem dX4_init_12 : decode cX4_init 12 = .ok (.aload_n 0, 1) := by decide +kernel
theorem dX4_init_13 : decode cX4_init 13 = .ok (.aload_n 1, 1) := by decide +kernel
theorem dX4_init_14 : decode cX4_init 14 = .ok (.putfield 15, 3) := by decide +kernel
theorem dX4_init_17 : decode cX4_init 17 = .ok (.return_, 1) := by decide +kernel
theorem dX4_become_0 : decode cX4_become 0 = .ok (.aload_n 0, 1) := by decide +kernel
theorem dX4_become_1 : decode cX4_become 1 = .ok (.iload_n 1, 1) := by decide +kernel
theorem dX4_become_2 : decode cX4_become 2 = .ok (.putfield 19, 3) := by decide +kernel
theorem dX4_become_5 : decode cX4_become 5 = .ok (.aload_n 0, 1) := by decide +kernel
theorem dX4_become_6 : decode cX4_become 6 = .ok (.iload_n 2, 1) := by decide +kernel
theorem dX4_become_7 : decode cX4_become 7 = .ok (.putfield 23, 3) := by decide +kernel
theorem dX4_become_10 : decode cX4_become 10 = .ok (.aload_n 0, 1) := by decide +kernel
theorem dX4_become_11 : decode cX4_become 11 = .ok (.iload_n 3, 1) := by decide +kernel
theorem dX4_become_12 : decode cX4_become 12 = .ok (.putfield 26, 3) := by decide +kernel
theorem dX4_become_15 : decode cX4_become 15 = .ok (.aload_n 0, 1) := by decide +kernel
theorem dX4_become_16 : decode cX4_become 16 = .ok (.iload 4, 2) := by decide +kernel
theorem dX4_become_18 : decode cX4_become 18 = .ok (.putfield 29, 3) := by decide +kernel
theorem dX4_become_21 : decode cX4_become 21 = .ok (.aload_n 0, 1) := by decide +kernel
theorem dX4_become_22 : decode cX4_become 22 = .ok (.aload 5, 2) := by decide +kernel
theorem dX4_become_24 : decode cX4_become 24 = .ok (.putfield 15, 3) := by decide +kernel
theorem dX4_become_27 : decode cX4_become 27 = .ok (.return_, 1) := by decide +kernel
theorem dX4_becomeLike_0 : decode cX4_becomeLike 0 = .ok (.aload_n 0, 1) := by decide +kernel
theorem dX4_becomeLike_1 : decode cX4_becomeLike 1 = .ok (.iload_n 2, 1) := by decide +kernel
theorem dX4_becomeLike_2 : decode cX4_becomeLike 2 = .ok (.aload_n 1, 1) := by decide +kernel
theorem dX4_becomeLike_3 : decode cX4_becomeLike 3 = .ok (.getfield 23, 3) := by decide +kernel
theorem dX4_becomeLike_6 : decode cX4_becomeLike 6 = .ok (.aload_n 1, 1) := by decide +kernel
theorem dX4_becomeLike_7 : decode cX4_becomeLike 7 = .ok (.getfield 26, 3) := by decide +kernel
theorem dX4_becomeLike_10 : decode cX4_becomeLike 10 = .ok (.aload_n 1, 1) := by decide +kernel
theorem dX4_becomeLike_11 : decode cX4_becomeLike 11 = .ok (.getfield 29, 3) := by decide +kernel
theorem dX4_becomeLike_14 : decode cX4_becomeLike 14 = .ok (.aload_n 1, 1) := by decide +kernel
theorem dX4_becomeLike_15 : decode cX4_becomeLike 15 = .ok (.getfield 15, 3) := by decide +kernel
theorem dX4_becomeLike_18 : decode cX4_becomeLike 18 = .ok (.invokevirtual 32, 3) := by decide +kernel
theorem dX4_becomeLike_21 : decode cX4_becomeLike 21 = .ok (.return_, 1) := by decide +kernel
theorem dX4_is_0 : decode cX4_is 0 = .ok (.aload_n 0, 1) := by decide +kernel
theorem dX4_is_1 : decode cX4_is 1 = .ok (.getfield 19, 3) := by decide +kernel
theorem dX4_is_4 : decode cX4_is 4 = .ok (.iload_n 1, 1) := by decide +kernel
theorem dX4_is_5 : decode cX4_is 5 = .ok (.if_icmp .eq 16, 3) := by decide +kernel
theorem dX4_is_8 : decode cX4_is 8 = .ok (.aload_n 0, 1) := by decide +kernel
theorem dX4_is_9 : decode cX4_is 9 = .ok (.getfield 19, 3) := by decide +kernel
theorem dX4_is_12 : decode cX4_is 12 = .ok (.iconst 4, 1) := by decide +kernel
theorem dX4_is_13 : decode cX4_is 13 = .ok (.if_icmp .ne 12, 3) := by decide +kernel
theorem dX4_is_16 : decode cX4_is 16 = .ok (.iload_n 1, 1) := by decide +kernel
theorem dX4_is_17 : decode cX4_is 17 = .ok (.iconst 1, 1) := by decide +kernel
theorem dX4_is_18 : decode cX4_is 18 = .ok (.if_icmp .ne 7, 3) := by decide +kernel
theorem dX4_is_21 : decode cX4_is 21 = .ok (.iconst 1, 1) := by decide +kernel
theorem dX4_is_22 : decode cX4_is 22 = .ok (.goto 4, 3) := by decide +kernel
theorem dX4_is_25 : decode cX4_is 25 = .ok (.iconst 0, 1) := by decide +kernel
theorem dX4_is_26 : decode cX4_is 26 = .ok (.ireturn, 1) := by decide +kernel
theorem dX4_drawsAtMost_0 : decode cX4_drawsAtMost 0 = .ok (.aload_n 0, 1) := by decide +kernel
theorem dX4_drawsAtMost_1 : decode cX4_drawsAtMost 1 = .ok (.iconst 1, 1) := by decide +kernel
theorem dX4_drawsAtMost_2 : decode cX4_drawsAtMost 2 = .ok (.invokevirtual 36, 3) := by decide +kernel
theorem dX4_drawsAtMost_5 : decode cX4_drawsAtMost 5 = .ok (.ifCond .eq 16, 3) := by decide +kernel
theorem dX4_drawsAtMost_8 : decode cX4_drawsAtMost 8 = .ok (.iconst 1, 1) := by decide +kernel
theorem dX4_drawsAtMost_9 : decode cX4_drawsAtMost 9 = .ok (.aload_n 0, 1) := by decide +kernel
theorem dX4_drawsAtMost_10 : decode cX4_drawsAtMost 10 = .ok (.getfield 26, 3) := by decide +kernel
theorem dX4_drawsAtMost_13 : decode cX4_drawsAtMost 13 = .ok (.iconst 1, 1) := by decide +kernel
theorem dX4_drawsAtMost_14 : decode cX4_drawsAtMost 14 = .ok (.isub, 1) := by decide +kernel
theorem dX4_drawsAtMost_15 : decode cX4_drawsAtMost 15 = .ok (.invokestatic 40, 3) := by decide +kernel
theorem dX4_drawsAtMost_18 : decode cX4_drawsAtMost 18 = .ok (.goto 7, 3) := by decide +kernel
theorem dX4_drawsAtMost_21 : decode cX4_drawsAtMost 21 = .ok (.aload_n 0, 1) := by decide +kernel
theorem dX4_drawsAtMost_22 : decode cX4_drawsAtMost 22 = .ok (.getfield 26, 3) := by decide +kernel
theorem dX4_drawsAtMost_25 : decode cX4_drawsAtMost 25 = .ok (.ireturn, 1) := by decide +kernel
theorem dX4_tells_0 : decode cX4_tells 0 = .ok (.iload_n 1, 1) := by decide +kernel
theorem dX4_tells_1 : decode cX4_tells 1 = .ok (.tableswitch 42 0 2 #[27, 32, 37], 27) := by decide +kernel
theorem dX4_tells_28 : decode cX4_tells 28 = .ok (.aload_n 0, 1) := by decide +kernel
theorem dX4_tells_29 : decode cX4_tells 29 = .ok (.getfield 19, 3) := by decide +kernel
theorem dX4_tells_32 : decode cX4_tells 32 = .ok (.ireturn, 1) := by decide +kernel
theorem dX4_tells_33 : decode cX4_tells 33 = .ok (.aload_n 0, 1) := by decide +kernel
theorem dX4_tells_34 : decode cX4_tells 34 = .ok (.getfield 23, 3) := by decide +kernel
theorem dX4_tells_37 : decode cX4_tells 37 = .ok (.ireturn, 1) := by decide +kernel
theorem dX4_tells_38 : decode cX4_tells 38 = .ok (.aload_n 0, 1) := by decide +kernel
theorem dX4_tells_39 : decode cX4_tells 39 = .ok (.getfield 26, 3) := by decide +kernel
theorem dX4_tells_42 : decode cX4_tells 42 = .ok (.ireturn, 1) := by decide +kernel
theorem dX4_tells_43 : decode cX4_tells 43 = .ok (.aload_n 0, 1) := by decide +kernel
theorem dX4_tells_44 : decode cX4_tells 44 = .ok (.getfield 29, 3) := by decide +kernel
theorem dX4_tells_47 : decode cX4_tells 47 = .ok (.ireturn, 1) := by decide +kernel
theorem dX4_asNumber_0 : decode cX4_asNumber 0 = .ok (.sipush 1000, 3) := by decide +kernel
theorem dX4_asNumber_3 : decode cX4_asNumber 3 = .ok (.aload_n 0, 1) := by decide +kernel
theorem dX4_asNumber_4 : decode cX4_asNumber 4 = .ok (.getfield 19, 3) := by decide +kernel
theorem dX4_asNumber_7 : decode cX4_asNumber 7 = .ok (.imul, 1) := by decide +kernel
theorem dX4_asNumber_8 : decode cX4_asNumber 8 = .ok (.bipush 100, 2) := by decide +kernel
theorem dX4_asNumber_10 : decode cX4_asNumber 10 = .ok (.aload_n 0, 1) := by decide +kernel
theorem dX4_asNumber_11 : decode cX4_asNumber 11 = .ok (.getfield 23, 3) := by decide +kernel
theorem dX4_asNumber_14 : decode cX4_asNumber 14 = .ok (.imul, 1) := by decide +kernel
theorem dX4_asNumber_15 : decode cX4_asNumber 15 = .ok (.iadd, 1) := by decide +kernel
theorem dX4_asNumber_16 : decode cX4_asNumber 16 = .ok (.bipush 10, 2) := by decide +kernel
theorem dX4_asNumber_18 : decode cX4_asNumber 18 = .ok (.aload_n 0, 1) := by decide +kernel
theorem dX4_asNumber_19 : decode cX4_asNumber 19 = .ok (.getfield 26, 3) := by decide +kernel
theorem dX4_asNumber_22 : decode cX4_asNumber 22 = .ok (.imul, 1) := by decide +kernel
theorem dX4_asNumber_23 : decode cX4_asNumber 23 = .ok (.iadd, 1) := by decide +kernel
theorem dX4_asNumber_24 : decode cX4_asNumber 24 = .ok (.aload_n 0, 1) := by decide +kernel
theorem dX4_asNumber_25 : decode cX4_asNumber 25 = .ok (.getfield 29, 3) := by decide +kernel
theorem dX4_asNumber_28 : decode cX4_asNumber 28 = .ok (.iadd, 1) := by decide +kernel
theorem dX4_asNumber_29 : decode cX4_asNumber 29 = .ok (.ireturn, 1) := by decide +kernel
theorem dX5_init_0 : decode cX5_init 0 = .ok (.aload_n 0, 1) := by decide +kernel
theorem dX5_init_1 : decode cX5_init 1 = .ok (.invokespecial 3, 3) := by decide +kernel
theorem dX5_init_4 : decode cX5_init 4 = .ok (.aload_n 0, 1) := by decide +kernel
theorem dX5_init_5 : decode cX5_init 5 = .ok (.sipush 4096, 3) := by decide +kernel
theorem dX5_init_8 : decode cX5_init 8 = .ok (.newarray .int, 2) := by decide +kernel
theorem dX5_init_10 : decode cX5_init 10 = .ok (.putfield 9, 3) := by decide +kernel
theorem dX5_init_13 : decode cX5_init 13 = .ok (.aload_n 0, 1) := by decide +kernel
theorem dX5_init_14 : decode cX5_init 14 = .ok (.bipush 8, 2) := by decide +kernel
theorem dX5_init_16 : decode cX5_init 16 = .ok (.newarray .int, 2) := by decide +kernel
theorem dX5_init_18 : decode cX5_init 18 = .ok (.putfield 15, 3) := by decide +kernel
theorem dX5_init_21 : decode cX5_init 21 = .ok (.aload_n 0, 1) := by decide +kernel
theorem dX5_init_22 : decode cX5_init 22 = .ok (.bipush 8, 2) := by decide +kernel
theorem dX5_init_24 : decode cX5_init 24 = .ok (.newarray .int, 2) := by decide +kernel
theorem dX5_init_26 : decode cX5_init 26 = .ok (.putfield 18, 3) := by decide +kernel
theorem dX5_init_29 : decode cX5_init 29 = .ok (.aload_n 0, 1) := by decide +kernel
theorem dX5_init_30 : decode cX5_init 30 = .ok (.bipush 8, 2) := by decide +kernel
theorem dX5_init_32 : decode cX5_init 32 = .ok (.newarray .long, 2) := by decide +kernel
theorem dX5_init_34 : decode cX5_init 34 = .ok (.putfield 21, 3) := by decide +kernel
theorem dX5_init_37 : decode cX5_init 37 = .ok (.aload_n 0, 1) := by decide +kernel
theorem dX5_init_38 : decode cX5_init 38 = .ok (.bipush 8, 2) := by decide +kernel
theorem dX5_init_40 : decode cX5_init 40 = .ok (.newarray .long, 2) := by decide +kernel
theorem dX5_init_42 : decode cX5_init 42 = .ok (.putfield 25, 3) := by decide +kernel
theorem dX5_init_45 : decode cX5_init 45 = .ok (.return_, 1) := by decide +kernel
theorem dX5_seat_0 : decode cX5_seat 0 = .ok (.aload_n 0, 1) := by decide +kernel
theorem dX5_seat_1 : decode cX5_seat 1 = .ok (.iload_n 2, 1) := by decide +kernel
theorem dX5_seat_2 : decode cX5_seat 2 = .ok (.bipush 8, 2) := by decide +kernel
theorem dX5_seat_4 : decode cX5_seat 4 = .ok (.invokestatic 28, 3) := by decide +kernel
theorem dX5_seat_7 : decode cX5_seat 7 = .ok (.putfield 34, 3) := by decide +kernel
theorem dX5_seat_10 : decode cX5_seat 10 = .ok (.aload_n 0, 1) := by decide +kernel
theorem dX5_seat_11 : decode cX5_seat 11 = .ok (.aload_n 1, 1) := by decide +kernel
theorem dX5_seat_12 : decode cX5_seat 12 = .ok (.getfield 38, 3) := by decide +kernel
theorem dX5_seat_15 : decode cX5_seat 15 = .ok (.bipush 8, 2) := by decide +kernel
theorem dX5_seat_17 : decode cX5_seat 17 = .ok (.invokestatic 28, 3) := by decide +kernel
theorem dX5_seat_20 : decode cX5_seat 20 = .ok (.putfield 43, 3) := by decide +kernel
theorem dX5_seat_23 : decode cX5_seat 23 = .ok (.iconst 0, 1) := by decide +kernel
theorem dX5_seat_24 : decode cX5_seat 24 = .ok (.istore_n 3, 1) := by decide +kernel
theorem dX5_seat_25 : decode cX5_seat 25 = .ok (.iload_n 3, 1) := by decide +kernel
theorem dX5_seat_26 : decode cX5_seat 26 = .ok (.aload_n 0, 1) := by decide +kernel
theorem dX5_seat_27 : decode cX5_seat 27 = .ok (.getfield 43, 3) := by decide +kernel
theorem dX5_seat_30 : decode cX5_seat 30 = .ok (.if_icmp .ge 20, 3) := by decide +kernel
theorem dX5_seat_33 : decode cX5_seat 33 = .ok (.aload_n 0, 1) := by decide +kernel
theorem dX5_seat_34 : decode cX5_seat 34 = .ok (.getfield 15, 3) := by decide +kernel
theorem dX5_seat_37 : decode cX5_seat 37 = .ok (.iload_n 3, 1) := by decide +kernel
theorem dX5_seat_38 : decode cX5_seat 38 = .ok (.aload_n 1, 1) := by decide +kernel
theorem dX5_seat_39 : decode cX5_seat 39 = .ok (.iload_n 3, 1) := by decide +kernel
theorem dX5_seat_40 : decode cX5_seat 40 = .ok (.invokevirtual 44, 3) := by decide +kernel
theorem dX5_seat_43 : decode cX5_seat 43 = .ok (.iastore, 1) := by decide +kernel
theorem dX5_seat_44 : decode cX5_seat 44 = .ok (.iinc 3 1, 3) := by decide +kernel
theorem dX5_seat_47 : decode cX5_seat 47 = .ok (.goto (-22), 3) := by decide +kernel
theorem dX5_seat_50 : decode cX5_seat 50 = .ok (.return_, 1) := by decide +kernel
theorem dX5_learn_0 : decode cX5_learn 0 = .ok (.iload_n 1, 1) := by decide +kernel
theorem dX5_learn_1 : decode cX5_learn 1 = .ok (.bipush 8, 2) := by decide +kernel
theorem dX5_learn_3 : decode cX5_learn 3 = .ok (.imul, 1) := by decide +kernel
theorem dX5_learn_4 : decode cX5_learn 4 = .ok (.iload_n 2, 1) := by decide +kernel
theorem dX5_learn_5 : decode cX5_learn 5 = .ok (.iadd, 1) := by decide +kernel
theorem dX5_learn_6 : decode cX5_learn 6 = .ok (.bipush 8, 2) := by decide +kernel
theorem dX5_learn_8 : decode cX5_learn 8 = .ok (.imul, 1) := by decide +kernel
theorem dX5_learn_9 : decode cX5_learn 9 = .ok (.bipush 8, 2) := by decide +kernel
theorem dX5_learn_11 : decode cX5_learn 11 = .ok (.imul, 1) := by decide +kernel
theorem dX5_learn_12 : decode cX5_learn 12 = .ok (.iload_n 3, 1) := by decide +kernel
theorem dX5_learn_13 : decode cX5_learn 13 = .ok (.bipush 8, 2) := by decide +kernel
theorem dX5_learn_15 : decode cX5_learn 15 = .ok (.imul, 1) := by decide +kernel
theorem dX5_learn_16 : decode cX5_learn 16 = .ok (.iadd, 1) := by decide +kernel
theorem dX5_learn_17 : decode cX5_learn 17 = .ok (.istore 5, 2) := by decide +kernel
theorem dX5_learn_19 : decode cX5_learn 19 = .ok (.iload 5, 2) := by decide +kernel
theorem dX5_learn_21 : decode cX5_learn 21 = .ok (.ifCond .lt 16, 3) := by decide +kernel
theorem dX5_learn_24 : decode cX5_learn 24 = .ok (.iload 5, 2) := by decide +kernel
theorem dX5_learn_26 : decode cX5_learn 26 = .ok (.bipush 8, 2) := by decide +kernel
theorem dX5_learn_28 : decode cX5_learn 28 = .ok (.iadd, 1) := by decide +kernel
theorem dX5_learn_29 : decode cX5_learn 29 = .ok (.aload_n 0, 1) := by decide +kernel
theorem dX5_learn_30 : decode cX5_learn 30 = .ok (.getfield 9, 3) := by decide +kernel
theorem dX5_learn_33 : decode cX5_learn 33 = .ok (.arraylength, 1) := by decide +kernel
theorem dX5_learn_34 : decode cX5_learn 34 = .ok (.if_icmp .le 4, 3) := by decide +kernel
theorem dX5_learn_37 : decode cX5_learn 37 = .ok (.return_, 1) := by decide +kernel
theorem dX5_learn_38 : decode cX5_learn 38 = .ok (.iconst 0, 1) := by decide +kernel
theorem dX5_learn_39 : decode cX5_learn 39 = .ok (.istore 6, 2) := by decide +kernel
theorem dX5_learn_41 : decode cX5_learn 41 = .ok (.iload 6, 2) := by decide +kernel
theorem dX5_learn_43 : decode cX5_learn 43 = .ok (.aload_n 0, 1) := by decide +kernel
theorem dX5_learn_44 : decode cX5_learn 44 = .ok (.getfield 34, 3) := by decide +kernel
theorem dX5_learn_47 : decode cX5_learn 47 = .ok (.if_icmp .ge 26, 3) := by decide +kernel
theorem dX5_learn_50 : decode cX5_learn 50 = .ok (.aload_n 0, 1) := by decide +kernel
theorem dX5_learn_51 : decode cX5_learn 51 = .ok (.getfield 9, 3) := by decide +kernel
theorem dX5_learn_54 : decode cX5_learn 54 = .ok (.iload 5, 2) := by decide +kernel
theorem dX5_learn_56 : decode cX5_learn 56 = .ok (.iload 6, 2) := by decide +kernel
theorem dX5_learn_58 : decode cX5_learn 58 = .ok (.iadd, 1) := by decide +kernel
theorem dX5_learn_59 : decode cX5_learn 59 = .ok (.aload 4, 2) := by decide +kernel
theorem dX5_learn_61 : decode cX5_learn 61 = .ok (.iload 6, 2) := by decide +kernel
theorem dX5_learn_63 : decode cX5_learn 63 = .ok (.invokevirtual 48, 3) := by decide +kernel
theorem dX5_learn_66 : decode cX5_learn 66 = .ok (.iastore, 1) := by decide +kernel
theorem dX5_learn_67 : decode cX5_learn 67 = .ok (.iinc 6 1, 3) := by decide +kernel
theorem dX5_learn_70 : decode cX5_learn 70 = .ok (.goto (-29), 3) := by decide +kernel
theorem dX5_learn_73 : decode cX5_learn 73 = .ok (.return_, 1) := by decide +kernel
theorem dX5_whole_0 : decode cX5_whole 0 = .ok (.lconst 1, 1) := by decide +kernel
theorem dX5_whole_1 : decode cX5_whole 1 = .ok (.lstore_n 1, 1) := by decide +kernel
theorem dX5_whole_2 : decode cX5_whole 2 = .ok (.iconst 0, 1) := by decide +kernel
theorem dX5_whole_3 : decode cX5_whole 3 = .ok (.istore_n 3, 1) := by decide +kernel
theorem dX5_whole_4 : decode cX5_whole 4 = .ok (.iload_n 3, 1) := by decide +kernel
theorem dX5_whole_5 : decode cX5_whole 5 = .ok (.aload_n 0, 1) := by decide +kernel
theorem dX5_whole_6 : decode cX5_whole 6 = .ok (.getfield 43, 3) := by decide +kernel
theorem dX5_whole_9 : decode cX5_whole 9 = .ok (.iconst 2, 1) := by decide +kernel
theorem dX5_whole_10 : decode cX5_whole 10 = .ok (.idiv, 1) := by decide +kernel
theorem dX5_whole_11 : decode cX5_whole 11 = .ok (.if_icmp .ge 15, 3) := by decide +kernel
theorem dX5_whole_14 : decode cX5_whole 14 = .ok (.lload_n 1, 1) := by decide +kernel
theorem dX5_whole_15 : decode cX5_whole 15 = .ok (.ldc2_w 51, 3) := by decide +kernel
theorem dX5_whole_18 : decode cX5_whole 18 = .ok (.lmul, 1) := by decide +kernel
theorem dX5_whole_19 : decode cX5_whole 19 = .ok (.lstore_n 1, 1) := by decide +kernel
theorem dX5_whole_20 : decode cX5_whole 20 = .ok (.iinc 3 1, 3) := by decide +kernel
theorem dX5_whole_23 : decode cX5_whole 23 = .ok (.goto (-19), 3) := by decide +kernel
theorem dX5_whole_26 : decode cX5_whole 26 = .ok (.lload_n 1, 1) := by decide +kernel
theorem dX5_whole_27 : decode cX5_whole 27 = .ok (.lreturn, 1) := by decide +kernel
theorem dX5_begin_0 : decode cX5_begin 0 = .ok (.iconst 0, 1) := by decide +kernel
theorem dX5_begin_1 : decode cX5_begin 1 = .ok (.istore_n 2, 1) := by decide +kernel
theorem dX5_begin_2 : decode cX5_begin 2 = .ok (.iload_n 2, 1) := by decide +kernel
theorem dX5_begin_3 : decode cX5_begin 3 = .ok (.aload_n 0, 1) := by decide +kernel
theorem dX5_begin_4 : decode cX5_begin 4 = .ok (.getfield 34, 3) := by decide +kernel
theorem dX5_begin_7 : decode cX5_begin 7 = .ok (.if_icmp .ge 25, 3) := by decide +kernel
theorem dX5_begin_10 : decode cX5_begin 10 = .ok (.aload_n 0, 1) := by decide +kernel
theorem dX5_begin_11 : decode cX5_begin 11 = .ok (.getfield 21, 3) := by decide +kernel
theorem dX5_begin_14 : decode cX5_begin 14 = .ok (.iload_n 2, 1) := by decide +kernel
theorem dX5_begin_15 : decode cX5_begin 15 = .ok (.iload_n 2, 1) := by decide +kernel
theorem dX5_begin_16 : decode cX5_begin 16 = .ok (.iload_n 1, 1) := by decide +kernel
theorem dX5_begin_17 : decode cX5_begin 17 = .ok (.if_icmp .ne 7, 3) := by decide +kernel
theorem dX5_begin_20 : decode cX5_begin 20 = .ok (.lconst 1, 1) := by decide +kernel
theorem dX5_begin_21 : decode cX5_begin 21 = .ok (.goto 4, 3) := by decide +kernel
theorem dX5_begin_24 : decode cX5_begin 24 = .ok (.lconst 0, 1) := by decide +kernel
theorem dX5_begin_25 : decode cX5_begin 25 = .ok (.lastore, 1) := by decide +kernel
theorem dX5_begin_26 : decode cX5_begin 26 = .ok (.iinc 2 1, 3) := by decide +kernel
theorem dX5_begin_29 : decode cX5_begin 29 = .ok (.goto (-27), 3) := by decide +kernel
theorem dX5_begin_32 : decode cX5_begin 32 = .ok (.return_, 1) := by decide +kernel
theorem dX5_beginWithAll_0 : decode cX5_beginWithAll 0 = .ok (.iconst 0, 1) := by decide +kernel
theorem dX5_beginWithAll_1 : decode cX5_beginWithAll 1 = .ok (.istore_n 1, 1) := by decide +kernel
theorem dX5_beginWithAll_2 : decode cX5_beginWithAll 2 = .ok (.iload_n 1, 1) := by decide +kernel
theorem dX5_beginWithAll_3 : decode cX5_beginWithAll 3 = .ok (.bipush 8, 2) := by decide +kernel
theorem dX5_beginWithAll_5 : decode cX5_beginWithAll 5 = .ok (.if_icmp .ge 16, 3) := by decide +kernel
theorem dX5_beginWithAll_8 : decode cX5_beginWithAll 8 = .ok (.aload_n 0, 1) := by decide +kernel
theorem dX5_beginWithAll_9 : decode cX5_beginWithAll 9 = .ok (.getfield 21, 3) := by decide +kernel
theorem dX5_beginWithAll_12 : decode cX5_beginWithAll 12 = .ok (.iload_n 1, 1) := by decide +kernel
theorem dX5_beginWithAll_13 : decode cX5_beginWithAll 13 = .ok (.lconst 1, 1) := by decide +kernel
theorem dX5_beginWithAll_14 : decode cX5_beginWithAll 14 = .ok (.lastore, 1) := by decide +kernel
theorem dX5_beginWithAll_15 : decode cX5_beginWithAll 15 = .ok (.iinc 1 1, 3) := by decide +kernel
theorem dX5_beginWithAll_18 : decode cX5_beginWithAll 18 = .ok (.goto (-16), 3) := by decide +kernel
theorem dX5_beginWithAll_21 : decode cX5_beginWithAll 21 = .ok (.return_, 1) := by decide +kernel
theorem dX5_stepBase_0 : decode cX5_stepBase 0 = .ok (.aload_n 0, 1) := by decide +kernel
theorem dX5_stepBase_1 : decode cX5_stepBase 1 = .ok (.getfield 43, 3) := by decide +kernel
theorem dX5_stepBase_4 : decode cX5_stepBase 4 = .ok (.iconst 1, 1) := by decide +kernel
theorem dX5_stepBase_5 : decode cX5_stepBase 5 = .ok (.if_icmp .ge 5, 3) := by decide +kernel
theorem dX5_stepBase_8 : decode cX5_stepBase 8 = .ok (.iconst 0, 1) := by decide +kernel
theorem dX5_stepBase_9 : decode cX5_stepBase 9 = .ok (.ireturn, 1) := by decide +kernel
theorem dX5_stepBase_10 : decode cX5_stepBase 10 = .ok (.aload_n 0, 1) := by decide +kernel
theorem dX5_stepBase_11 : decode cX5_stepBase 11 = .ok (.getfield 15, 3) := by decide +kernel
theorem dX5_stepBase_14 : decode cX5_stepBase 14 = .ok (.iload_n 1, 1) := by decide +kernel
theorem dX5_stepBase_15 : decode cX5_stepBase 15 = .ok (.iconst 2, 1) := by decide +kernel
theorem dX5_stepBase_16 : decode cX5_stepBase 16 = .ok (.iload_n 2, 1) := by decide +kernel
theorem dX5_stepBase_17 : decode cX5_stepBase 17 = .ok (.imul, 1) := by decide +kernel
theorem dX5_stepBase_18 : decode cX5_stepBase 18 = .ok (.iadd, 1) := by decide +kernel
theorem dX5_stepBase_19 : decode cX5_stepBase 19 = .ok (.aload_n 0, 1) := by decide +kernel
theorem dX5_stepBase_20 : decode cX5_stepBase 20 = .ok (.getfield 43, 3) := by decide +kernel
theorem dX5_stepBase_23 : decode cX5_stepBase 23 = .ok (.irem, 1) := by decide +kernel
theorem dX5_stepBase_24 : decode cX5_stepBase 24 = .ok (.iaload, 1) := by decide +kernel
theorem dX5_stepBase_25 : decode cX5_stepBase 25 = .ok (.istore_n 3, 1) := by decide +kernel
theorem dX5_stepBase_26 : decode cX5_stepBase 26 = .ok (.aload_n 0, 1) := by decide +kernel
theorem dX5_stepBase_27 : decode cX5_stepBase 27 = .ok (.getfield 15, 3) := by decide +kernel
theorem dX5_stepBase_30 : decode cX5_stepBase 30 = .ok (.iload_n 1, 1) := by decide +kernel
theorem dX5_stepBase_31 : decode cX5_stepBase 31 = .ok (.iconst 2, 1) := by decide +kernel
theorem dX5_stepBase_32 : decode cX5_stepBase 32 = .ok (.iload_n 2, 1) := by decide +kernel
theorem dX5_stepBase_33 : decode cX5_stepBase 33 = .ok (.imul, 1) := by decide +kernel
theorem dX5_stepBase_34 : decode cX5_stepBase 34 = .ok (.iadd, 1) := by decide +kernel
theorem dX5_stepBase_35 : decode cX5_stepBase 35 = .ok (.iconst 1, 1) := by decide +kernel
theorem dX5_stepBase_36 : decode cX5_stepBase 36 = .ok (.iadd, 1) := by decide +kernel
theorem dX5_stepBase_37 : decode cX5_stepBase 37 = .ok (.aload_n 0, 1) := by decide +kernel
theorem dX5_stepBase_38 : decode cX5_stepBase 38 = .ok (.getfield 43, 3) := by decide +kernel
theorem dX5_stepBase_41 : decode cX5_stepBase 41 = .ok (.irem, 1) := by decide +kernel
theorem dX5_stepBase_42 : decode cX5_stepBase 42 = .ok (.iaload, 1) := by decide +kernel
theorem dX5_stepBase_43 : decode cX5_stepBase 43 = .ok (.istore 4, 2) := by decide +kernel
theorem dX5_stepBase_45 : decode cX5_stepBase 45 = .ok (.iload_n 3, 1) := by decide +kernel
theorem dX5_stepBase_46 : decode cX5_stepBase 46 = .ok (.bipush 8, 2) := by decide +kernel
theorem dX5_stepBase_48 : decode cX5_stepBase 48 = .ok (.imul, 1) := by decide +kernel
theorem dX5_stepBase_49 : decode cX5_stepBase 49 = .ok (.iload 4, 2) := by decide +kernel
theorem dX5_stepBase_51 : decode cX5_stepBase 51 = .ok (.iadd, 1) := by decide +kernel
theorem dX5_stepBase_52 : decode cX5_stepBase 52 = .ok (.bipush 8, 2) := by decide +kernel
theorem dX5_stepBase_54 : decode cX5_stepBase 54 = .ok (.imul, 1) := by decide +kernel
theorem dX5_stepBase_55 : decode cX5_stepBase 55 = .ok (.bipush 8, 2) := by decide +kernel
theorem dX5_stepBase_57 : decode cX5_stepBase 57 = .ok (.imul, 1) := by decide +kernel
theorem dX5_stepBase_58 : decode cX5_stepBase 58 = .ok (.ireturn, 1) := by decide +kernel
theorem dX5_pass_0 : decode cX5_pass 0 = .ok (.iconst 0, 1) := by decide +kernel
theorem dX5_pass_1 : decode cX5_pass 1 = .ok (.istore_n 2, 1) := by decide +kernel
theorem dX5_pass_2 : decode cX5_pass 2 = .ok (.iload_n 2, 1) := by decide +kernel
theorem dX5_pass_3 : decode cX5_pass 3 = .ok (.aload_n 0, 1) := by decide +kernel
theorem dX5_pass_4 : decode cX5_pass 4 = .ok (.getfield 34, 3) := by decide +kernel
theorem dX5_pass_7 : decode cX5_pass 7 = .ok (.if_icmp .ge 16, 3) := by decide +kernel
theorem dX5_pass_10 : decode cX5_pass 10 = .ok (.aload_n 0, 1) := by decide +kernel
theorem dX5_pass_11 : decode cX5_pass 11 = .ok (.getfield 25, 3) := by decide +kernel
theorem dX5_pass_14 : decode cX5_pass 14 = .ok (.iload_n 2, 1) := by decide +kernel
theorem dX5_pass_15 : decode cX5_pass 15 = .ok (.lconst 0, 1) := by decide +kernel
theorem dX5_pass_16 : decode cX5_pass 16 = .ok (.lastore, 1) := by decide +kernel
theorem dX5_pass_17 : decode cX5_pass 17 = .ok (.iinc 2 1, 3) := by decide +kernel
theorem dX5_pass_20 : decode cX5_pass 20 = .ok (.goto (-18), 3) := by decide +kernel
theorem dX5_pass_23 : decode cX5_pass 23 = .ok (.iconst 0, 1) := by decide +kernel
theorem dX5_pass_24 : decode cX5_pass 24 = .ok (.istore_n 2, 1) := by decide +kernel
theorem dX5_pass_25 : decode cX5_pass 25 = .ok (.iload_n 2, 1) := by decide +kernel
theorem dX5_pass_26 : decode cX5_pass 26 = .ok (.aload_n 0, 1) := by decide +kernel
theorem dX5_pass_27 : decode cX5_pass 27 = .ok (.getfield 34, 3) := by decide +kernel
theorem dX5_pass_30 : decode cX5_pass 30 = .ok (.if_icmp .ge 66, 3) := by decide +kernel
theorem dX5_pass_33 : decode cX5_pass 33 = .ok (.iconst 0, 1) := by decide +kernel
theorem dX5_pass_34 : decode cX5_pass 34 = .ok (.istore_n 3, 1) := by decide +kernel
theorem dX5_pass_35 : decode cX5_pass 35 = .ok (.iload_n 3, 1) := by decide +kernel
theorem dX5_pass_36 : decode cX5_pass 36 = .ok (.aload_n 0, 1) := by decide +kernel
theorem dX5_pass_37 : decode cX5_pass 37 = .ok (.getfield 34, 3) := by decide +kernel
theorem dX5_pass_40 : decode cX5_pass 40 = .ok (.if_icmp .ge 50, 3) := by decide +kernel
theorem dX5_pass_43 : decode cX5_pass 43 = .ok (.aload_n 0, 1) := by decide +kernel
theorem dX5_pass_44 : decode cX5_pass 44 = .ok (.getfield 21, 3) := by decide +kernel
theorem dX5_pass_47 : decode cX5_pass 47 = .ok (.iload_n 2, 1) := by decide +kernel
theorem dX5_pass_48 : decode cX5_pass 48 = .ok (.laload, 1) := by decide +kernel
theorem dX5_pass_49 : decode cX5_pass 49 = .ok (.lconst 0, 1) := by decide +kernel
theorem dX5_pass_50 : decode cX5_pass 50 = .ok (.lcmp, 1) := by decide +kernel
theorem dX5_pass_51 : decode cX5_pass 51 = .ok (.ifCond .eq 39, 3) := by decide +kernel
theorem dX5_pass_54 : decode cX5_pass 54 = .ok (.aload_n 0, 1) := by decide +kernel
theorem dX5_pass_55 : decode cX5_pass 55 = .ok (.getfield 25, 3) := by decide +kernel
theorem dX5_pass_58 : decode cX5_pass 58 = .ok (.iload_n 3, 1) := by decide +kernel
theorem dX5_pass_59 : decode cX5_pass 59 = .ok (.dup2, 1) := by decide +kernel
theorem dX5_pass_60 : decode cX5_pass 60 = .ok (.laload, 1) := by decide +kernel
theorem dX5_pass_61 : decode cX5_pass 61 = .ok (.aload_n 0, 1) := by decide +kernel
theorem dX5_pass_62 : decode cX5_pass 62 = .ok (.getfield 21, 3) := by decide +kernel
theorem dX5_pass_65 : decode cX5_pass 65 = .ok (.iload_n 2, 1) := by decide +kernel
theorem dX5_pass_66 : decode cX5_pass 66 = .ok (.laload, 1) := by decide +kernel
theorem dX5_pass_67 : decode cX5_pass 67 = .ok (.aload_n 0, 1) := by decide +kernel
theorem dX5_pass_68 : decode cX5_pass 68 = .ok (.getfield 9, 3) := by decide +kernel
theorem dX5_pass_71 : decode cX5_pass 71 = .ok (.iload_n 1, 1) := by decide +kernel
theorem dX5_pass_72 : decode cX5_pass 72 = .ok (.iload_n 2, 1) := by decide +kernel
theorem dX5_pass_73 : decode cX5_pass 73 = .ok (.bipush 8, 2) := by decide +kernel
theorem dX5_pass_75 : decode cX5_pass 75 = .ok (.imul, 1) := by decide +kernel
theorem dX5_pass_76 : decode cX5_pass 76 = .ok (.iadd, 1) := by decide +kernel
theorem dX5_pass_77 : decode cX5_pass 77 = .ok (.iload_n 3, 1) := by decide +kernel
theorem dX5_pass_78 : decode cX5_pass 78 = .ok (.iadd, 1) := by decide +kernel
theorem dX5_pass_79 : decode cX5_pass 79 = .ok (.iaload, 1) := by decide +kernel
theorem dX5_pass_80 : decode cX5_pass 80 = .ok (.i2l, 1) := by decide +kernel
theorem dX5_pass_81 : decode cX5_pass 81 = .ok (.lmul, 1) := by decide +kernel
theorem dX5_pass_82 : decode cX5_pass 82 = .ok (.ladd, 1) := by decide +kernel
theorem dX5_pass_83 : decode cX5_pass 83 = .ok (.lastore, 1) := by decide +kernel
theorem dX5_pass_84 : decode cX5_pass 84 = .ok (.iinc 3 1, 3) := by decide +kernel
theorem dX5_pass_87 : decode cX5_pass 87 = .ok (.goto (-52), 3) := by decide +kernel
theorem dX5_pass_90 : decode cX5_pass 90 = .ok (.iinc 2 1, 3) := by decide +kernel
theorem dX5_pass_93 : decode cX5_pass 93 = .ok (.goto (-68), 3) := by decide +kernel
theorem dX5_pass_96 : decode cX5_pass 96 = .ok (.iconst 0, 1) := by decide +kernel
theorem dX5_pass_97 : decode cX5_pass 97 = .ok (.istore_n 2, 1) := by decide +kernel
theorem dX5_pass_98 : decode cX5_pass 98 = .ok (.iload_n 2, 1) := by decide +kernel
theorem dX5_pass_99 : decode cX5_pass 99 = .ok (.aload_n 0, 1) := by decide +kernel
theorem dX5_pass_100 : decode cX5_pass 100 = .ok (.getfield 34, 3) := by decide +kernel
theorem dX5_pass_103 : decode cX5_pass 103 = .ok (.if_icmp .ge 21, 3) := by decide +kernel
theorem dX5_pass_106 : decode cX5_pass 106 = .ok (.aload_n 0, 1) := by decide +kernel
theorem dX5_pass_107 : decode cX5_pass 107 = .ok (.getfield 21, 3) := by decide +kernel
theorem dX5_pass_110 : decode cX5_pass 110 = .ok (.iload_n 2, 1) := by decide +kernel
theorem dX5_pass_111 : decode cX5_pass 111 = .ok (.aload_n 0, 1) := by decide +kernel
theorem dX5_pass_112 : decode cX5_pass 112 = .ok (.getfield 25, 3) := by decide +kernel
theorem dX5_pass_115 : decode cX5_pass 115 = .ok (.iload_n 2, 1) := by decide +kernel
theorem dX5_pass_116 : decode cX5_pass 116 = .ok (.laload, 1) := by decide +kernel
theorem dX5_pass_117 : decode cX5_pass 117 = .ok (.lastore, 1) := by decide +kernel
theorem dX5_pass_118 : decode cX5_pass 118 = .ok (.iinc 2 1, 3) := by decide +kernel
theorem dX5_pass_121 : decode cX5_pass 121 = .ok (.goto (-23), 3) := by decide +kernel
theorem dX5_pass_124 : decode cX5_pass 124 = .ok (.return_, 1) := by decide +kernel
theorem dX5_passFrom_0 : decode cX5_passFrom 0 = .ok (.iconst 0, 1) := by decide +kernel
theorem dX5_passFrom_1 : decode cX5_passFrom 1 = .ok (.istore_n 2, 1) := by decide +kernel
theorem dX5_passFrom_2 : decode cX5_passFrom 2 = .ok (.iload_n 2, 1) := by decide +kernel
theorem dX5_passFrom_3 : decode cX5_passFrom 3 = .ok (.aload_n 0, 1) := by decide +kernel
theorem dX5_passFrom_4 : decode cX5_passFrom 4 = .ok (.getfield 43, 3) := by decide +kernel
theorem dX5_passFrom_7 : decode cX5_passFrom 7 = .ok (.iconst 2, 1) := by decide +kernel
theorem dX5_passFrom_8 : decode cX5_passFrom 8 = .ok (.idiv, 1) := by decide +kernel
theorem dX5_passFrom_9 : decode cX5_passFrom 9 = .ok (.if_icmp .ge 19, 3) := by decide +kernel
theorem dX5_passFrom_12 : decode cX5_passFrom 12 = .ok (.aload_n 0, 1) := by decide +kernel
theorem dX5_passFrom_13 : decode cX5_passFrom 13 = .ok (.aload_n 0, 1) := by decide +kernel
theorem dX5_passFrom_14 : decode cX5_passFrom 14 = .ok (.iload_n 1, 1) := by decide +kernel
theorem dX5_passFrom_15 : decode cX5_passFrom 15 = .ok (.iload_n 2, 1) := by decide +kernel
theorem dX5_passFrom_16 : decode cX5_passFrom 16 = .ok (.invokevirtual 53, 3) := by decide +kernel
theorem dX5_passFrom_19 : decode cX5_passFrom 19 = .ok (.invokevirtual 56, 3) := by decide +kernel
theorem dX5_passFrom_22 : decode cX5_passFrom 22 = .ok (.iinc 2 1, 3) := by decide +kernel
theorem dX5_passFrom_25 : decode cX5_passFrom 25 = .ok (.goto (-23), 3) := by decide +kernel
theorem dX5_passFrom_28 : decode cX5_passFrom 28 = .ok (.return_, 1) := by decide +kernel
theorem dX5_reach_0 : decode cX5_reach 0 = .ok (.aload_n 0, 1) := by decide +kernel
theorem dX5_reach_1 : decode cX5_reach 1 = .ok (.iload_n 2, 1) := by decide +kernel
theorem dX5_reach_2 : decode cX5_reach 2 = .ok (.invokevirtual 60, 3) := by decide +kernel
theorem dX5_reach_5 : decode cX5_reach 5 = .ok (.aload_n 0, 1) := by decide +kernel
theorem dX5_reach_6 : decode cX5_reach 6 = .ok (.getfield 43, 3) := by decide +kernel
theorem dX5_reach_9 : decode cX5_reach 9 = .ok (.iconst 2, 1) := by decide +kernel
theorem dX5_reach_10 : decode cX5_reach 10 = .ok (.idiv, 1) := by decide +kernel
theorem dX5_reach_11 : decode cX5_reach 11 = .ok (.iconst 1, 1) := by decide +kernel
theorem dX5_reach_12 : decode cX5_reach 12 = .ok (.isub, 1) := by decide +kernel
theorem dX5_reach_13 : decode cX5_reach 13 = .ok (.istore 4, 2) := by decide +kernel
theorem dX5_reach_15 : decode cX5_reach 15 = .ok (.iconst 0, 1) := by decide +kernel
theorem dX5_reach_16 : decode cX5_reach 16 = .ok (.istore 5, 2) := by decide +kernel
theorem dX5_reach_18 : decode cX5_reach 18 = .ok (.iload 5, 2) := by decide +kernel
theorem dX5_reach_20 : decode cX5_reach 20 = .ok (.iload 4, 2) := by decide +kernel
theorem dX5_reach_22 : decode cX5_reach 22 = .ok (.if_icmp .ge 20, 3) := by decide +kernel
theorem dX5_reach_25 : decode cX5_reach 25 = .ok (.aload_n 0, 1) := by decide +kernel
theorem dX5_reach_26 : decode cX5_reach 26 = .ok (.aload_n 0, 1) := by decide +kernel
theorem dX5_reach_27 : decode cX5_reach 27 = .ok (.iload_n 1, 1) := by decide +kernel
theorem dX5_reach_28 : decode cX5_reach 28 = .ok (.iload 5, 2) := by decide +kernel
theorem dX5_reach_30 : decode cX5_reach 30 = .ok (.invokevirtual 53, 3) := by decide +kernel
theorem dX5_reach_33 : decode cX5_reach 33 = .ok (.invokevirtual 56, 3) := by decide +kernel
theorem dX5_reach_36 : decode cX5_reach 36 = .ok (.iinc 5 1, 3) := by decide +kernel
theorem dX5_reach_39 : decode cX5_reach 39 = .ok (.goto (-21), 3) := by decide +kernel
theorem dX5_reach_42 : decode cX5_reach 42 = .ok (.aload_n 0, 1) := by decide +kernel
theorem dX5_reach_43 : decode cX5_reach 43 = .ok (.iload_n 1, 1) := by decide +kernel
theorem dX5_reach_44 : decode cX5_reach 44 = .ok (.iload 4, 2) := by decide +kernel
theorem dX5_reach_46 : decode cX5_reach 46 = .ok (.invokevirtual 53, 3) := by decide +kernel
theorem dX5_reach_49 : decode cX5_reach 49 = .ok (.istore 5, 2) := by decide +kernel
theorem dX5_reach_51 : decode cX5_reach 51 = .ok (.lconst 0, 1) := by decide +kernel
theorem dX5_reach_52 : decode cX5_reach 52 = .ok (.lstore 6, 2) := by decide +kernel
theorem dX5_reach_54 : decode cX5_reach 54 = .ok (.iconst 0, 1) := by decide +kernel
theorem dX5_reach_55 : decode cX5_reach 55 = .ok (.istore 8, 2) := by decide +kernel
theorem dX5_reach_57 : decode cX5_reach 57 = .ok (.iload 8, 2) := by decide +kernel
theorem dX5_reach_59 : decode cX5_reach 59 = .ok (.aload_n 0, 1) := by decide +kernel
theorem dX5_reach_60 : decode cX5_reach 60 = .ok (.getfield 34, 3) := by decide +kernel
theorem dX5_reach_63 : decode cX5_reach 63 = .ok (.if_icmp .ge 38, 3) := by decide +kernel
theorem dX5_reach_66 : decode cX5_reach 66 = .ok (.lload 6, 2) := by decide +kernel
theorem dX5_reach_68 : decode cX5_reach 68 = .ok (.aload_n 0, 1) := by decide +kernel
theorem dX5_reach_69 : decode cX5_reach 69 = .ok (.getfield 21, 3) := by decide +kernel
theorem dX5_reach_72 : decode cX5_reach 72 = .ok (.iload 8, 2) := by decide +kernel
theorem dX5_reach_74 : decode cX5_reach 74 = .ok (.laload, 1) := by decide +kernel
theorem dX5_reach_75 : decode cX5_reach 75 = .ok (.aload_n 0, 1) := by decide +kernel
theorem dX5_reach_76 : decode cX5_reach 76 = .ok (.getfield 9, 3) := by decide +kernel
theorem dX5_reach_79 : decode cX5_reach 79 = .ok (.iload 5, 2) := by decide +kernel
theorem dX5_reach_81 : decode cX5_reach 81 = .ok (.iload 8, 2) := by decide +kernel
theorem dX5_reach_83 : decode cX5_reach 83 = .ok (.bipush 8, 2) := by decide +kernel
theorem dX5_reach_85 : decode cX5_reach 85 = .ok (.imul, 1) := by decide +kernel
theorem dX5_reach_86 : decode cX5_reach 86 = .ok (.iadd, 1) := by decide +kernel
theorem dX5_reach_87 : decode cX5_reach 87 = .ok (.iload_n 3, 1) := by decide +kernel
theorem dX5_reach_88 : decode cX5_reach 88 = .ok (.iadd, 1) := by decide +kernel
theorem dX5_reach_89 : decode cX5_reach 89 = .ok (.iaload, 1) := by decide +kernel
theorem dX5_reach_90 : decode cX5_reach 90 = .ok (.i2l, 1) := by decide +kernel
theorem dX5_reach_91 : decode cX5_reach 91 = .ok (.lmul, 1) := by decide +kernel
theorem dX5_reach_92 : decode cX5_reach 92 = .ok (.ladd, 1) := by decide +kernel
theorem dX5_reach_93 : decode cX5_reach 93 = .ok (.lstore 6, 2) := by decide +kernel
theorem dX5_reach_95 : decode cX5_reach 95 = .ok (.iinc 8 1, 3) := by decide +kernel
theorem dX5_reach_98 : decode cX5_reach 98 = .ok (.goto (-41), 3) := by decide +kernel
theorem dX5_reach_101 : decode cX5_reach 101 = .ok (.lload 6, 2) := by decide +kernel
theorem dX5_reach_103 : decode cX5_reach 103 = .ok (.lreturn, 1) := by decide +kernel
theorem dX5_reachOffAt_0 : decode cX5_reachOffAt 0 = .ok (.aload_n 0, 1) := by decide +kernel
theorem dX5_reachOffAt_1 : decode cX5_reachOffAt 1 = .ok (.iload_n 1, 1) := by decide +kernel
theorem dX5_reachOffAt_2 : decode cX5_reachOffAt 2 = .ok (.invokevirtual 60, 3) := by decide +kernel
theorem dX5_reachOffAt_5 : decode cX5_reachOffAt 5 = .ok (.iconst 0, 1) := by decide +kernel
theorem dX5_reachOffAt_6 : decode cX5_reachOffAt 6 = .ok (.istore 4, 2) := by decide +kernel
theorem dX5_reachOffAt_8 : decode cX5_reachOffAt 8 = .ok (.iload 4, 2) := by decide +kernel
theorem dX5_reachOffAt_10 : decode cX5_reachOffAt 10 = .ok (.aload_n 0, 1) := by decide +kernel
theorem dX5_reachOffAt_11 : decode cX5_reachOffAt 11 = .ok (.getfield 43, 3) := by decide +kernel
theorem dX5_reachOffAt_14 : decode cX5_reachOffAt 14 = .ok (.iconst 2, 1) := by decide +kernel
theorem dX5_reachOffAt_15 : decode cX5_reachOffAt 15 = .ok (.idiv, 1) := by decide +kernel
theorem dX5_reachOffAt_16 : decode cX5_reachOffAt 16 = .ok (.if_icmp .ge 81, 3) := by decide +kernel
theorem dX5_reachOffAt_19 : decode cX5_reachOffAt 19 = .ok (.aload_n 0, 1) := by decide +kernel
theorem dX5_reachOffAt_20 : decode cX5_reachOffAt 20 = .ok (.aload_n 0, 1) := by decide +kernel
theorem dX5_reachOffAt_21 : decode cX5_reachOffAt 21 = .ok (.iconst 0, 1) := by decide +kernel
theorem dX5_reachOffAt_22 : decode cX5_reachOffAt 22 = .ok (.iload 4, 2) := by decide +kernel
theorem dX5_reachOffAt_24 : decode cX5_reachOffAt 24 = .ok (.invokevirtual 53, 3) := by decide +kernel
theorem dX5_reachOffAt_27 : decode cX5_reachOffAt 27 = .ok (.invokevirtual 56, 3) := by decide +kernel
theorem dX5_reachOffAt_30 : decode cX5_reachOffAt 30 = .ok (.iconst 0, 1) := by decide +kernel
theorem dX5_reachOffAt_31 : decode cX5_reachOffAt 31 = .ok (.istore 5, 2) := by decide +kernel
theorem dX5_reachOffAt_33 : decode cX5_reachOffAt 33 = .ok (.iload 5, 2) := by decide +kernel
theorem dX5_reachOffAt_35 : decode cX5_reachOffAt 35 = .ok (.aload_n 0, 1) := by decide +kernel
theorem dX5_reachOffAt_36 : decode cX5_reachOffAt 36 = .ok (.getfield 34, 3) := by decide +kernel
theorem dX5_reachOffAt_39 : decode cX5_reachOffAt 39 = .ok (.if_icmp .ge 52, 3) := by decide +kernel
theorem dX5_reachOffAt_42 : decode cX5_reachOffAt 42 = .ok (.iload 4, 2) := by decide +kernel
theorem dX5_reachOffAt_44 : decode cX5_reachOffAt 44 = .ok (.iload_n 3, 1) := by decide +kernel
theorem dX5_reachOffAt_45 : decode cX5_reachOffAt 45 = .ok (.if_icmp .gt 46, 3) := by decide +kernel
theorem dX5_reachOffAt_48 : decode cX5_reachOffAt 48 = .ok (.iload 5, 2) := by decide +kernel
theorem dX5_reachOffAt_50 : decode cX5_reachOffAt 50 = .ok (.iload_n 1, 1) := by decide +kernel
theorem dX5_reachOffAt_51 : decode cX5_reachOffAt 51 = .ok (.if_icmp .ne 7, 3) := by decide +kernel
theorem dX5_reachOffAt_54 : decode cX5_reachOffAt 54 = .ok (.iconst 1, 1) := by decide +kernel
theorem dX5_reachOffAt_55 : decode cX5_reachOffAt 55 = .ok (.goto 4, 3) := by decide +kernel
theorem dX5_reachOffAt_58 : decode cX5_reachOffAt 58 = .ok (.iconst 0, 1) := by decide +kernel
theorem dX5_reachOffAt_59 : decode cX5_reachOffAt 59 = .ok (.istore 6, 2) := by decide +kernel
theorem dX5_reachOffAt_61 : decode cX5_reachOffAt 61 = .ok (.iload 6, 2) := by decide +kernel
theorem dX5_reachOffAt_63 : decode cX5_reachOffAt 63 = .ok (.iload 4, 2) := by decide +kernel
theorem dX5_reachOffAt_65 : decode cX5_reachOffAt 65 = .ok (.iload_n 3, 1) := by decide +kernel
theorem dX5_reachOffAt_66 : decode cX5_reachOffAt 66 = .ok (.if_icmp .ne 7, 3) := by decide +kernel
theorem dX5_reachOffAt_69 : decode cX5_reachOffAt 69 = .ok (.iconst 1, 1) := by decide +kernel
theorem dX5_reachOffAt_70 : decode cX5_reachOffAt 70 = .ok (.goto 4, 3) := by decide +kernel
theorem dX5_reachOffAt_73 : decode cX5_reachOffAt 73 = .ok (.iconst 0, 1) := by decide +kernel
theorem dX5_reachOffAt_74 : decode cX5_reachOffAt 74 = .ok (.if_icmp .ne 11, 3) := by decide +kernel
theorem dX5_reachOffAt_77 : decode cX5_reachOffAt 77 = .ok (.aload_n 0, 1) := by decide +kernel
theorem dX5_reachOffAt_78 : decode cX5_reachOffAt 78 = .ok (.getfield 21, 3) := by decide +kernel
theorem dX5_reachOffAt_81 : decode cX5_reachOffAt 81 = .ok (.iload 5, 2) := by decide +kernel
theorem dX5_reachOffAt_83 : decode cX5_reachOffAt 83 = .ok (.lconst 0, 1) := by decide +kernel
theorem dX5_reachOffAt_84 : decode cX5_reachOffAt 84 = .ok (.lastore, 1) := by decide +kernel
theorem dX5_reachOffAt_85 : decode cX5_reachOffAt 85 = .ok (.iinc 5 1, 3) := by decide +kernel
theorem dX5_reachOffAt_88 : decode cX5_reachOffAt 88 = .ok (.goto (-55), 3) := by decide +kernel
theorem dX5_reachOffAt_91 : decode cX5_reachOffAt 91 = .ok (.iinc 4 1, 3) := by decide +kernel
theorem dX5_reachOffAt_94 : decode cX5_reachOffAt 94 = .ok (.goto (-86), 3) := by decide +kernel
theorem dX5_reachOffAt_97 : decode cX5_reachOffAt 97 = .ok (.aload_n 0, 1) := by decide +kernel
theorem dX5_reachOffAt_98 : decode cX5_reachOffAt 98 = .ok (.getfield 21, 3) := by decide +kernel
theorem dX5_reachOffAt_101 : decode cX5_reachOffAt 101 = .ok (.iload_n 2, 1) := by decide +kernel
theorem dX5_reachOffAt_102 : decode cX5_reachOffAt 102 = .ok (.laload, 1) := by decide +kernel
theorem dX5_reachOffAt_103 : decode cX5_reachOffAt 103 = .ok (.lreturn, 1) := by decide +kernel
theorem dX5_keptBy_0 : decode cX5_keptBy 0 = .ok (.lconst 0, 1) := by decide +kernel
theorem dX5_keptBy_1 : decode cX5_keptBy 1 = .ok (.lstore_n 2, 1) := by decide +kernel
theorem dX5_keptBy_2 : decode cX5_keptBy 2 = .ok (.iconst 0, 1) := by decide +kernel
theorem dX5_keptBy_3 : decode cX5_keptBy 3 = .ok (.istore 4, 2) := by decide +kernel
theorem dX5_keptBy_5 : decode cX5_keptBy 5 = .ok (.iload 4, 2) := by decide +kernel
theorem dX5_keptBy_7 : decode cX5_keptBy 7 = .ok (.aload_n 0, 1) := by decide +kernel
theorem dX5_keptBy_8 : decode cX5_keptBy 8 = .ok (.getfield 43, 3) := by decide +kernel
theorem dX5_keptBy_11 : decode cX5_keptBy 11 = .ok (.if_icmp .ge 30, 3) := by decide +kernel
theorem dX5_keptBy_14 : decode cX5_keptBy 14 = .ok (.lload_n 2, 1) := by decide +kernel
theorem dX5_keptBy_15 : decode cX5_keptBy 15 = .ok (.aload_n 0, 1) := by decide +kernel
theorem dX5_keptBy_16 : decode cX5_keptBy 16 = .ok (.iload 4, 2) := by decide +kernel
theorem dX5_keptBy_18 : decode cX5_keptBy 18 = .ok (.aload_n 1, 1) := by decide +kernel
theorem dX5_keptBy_19 : decode cX5_keptBy 19 = .ok (.iload 4, 2) := by decide +kernel
theorem dX5_keptBy_21 : decode cX5_keptBy 21 = .ok (.invokevirtual 44, 3) := by decide +kernel
theorem dX5_keptBy_24 : decode cX5_keptBy 24 = .ok (.aload_n 1, 1) := by decide +kernel
theorem dX5_keptBy_25 : decode cX5_keptBy 25 = .ok (.iload 4, 2) := by decide +kernel
theorem dX5_keptBy_27 : decode cX5_keptBy 27 = .ok (.invokevirtual 44, 3) := by decide +kernel
theorem dX5_keptBy_30 : decode cX5_keptBy 30 = .ok (.invokevirtual 63, 3) := by decide +kernel
theorem dX5_keptBy_33 : decode cX5_keptBy 33 = .ok (.ladd, 1) := by decide +kernel
theorem dX5_keptBy_34 : decode cX5_keptBy 34 = .ok (.lstore_n 2, 1) := by decide +kernel
theorem dX5_keptBy_35 : decode cX5_keptBy 35 = .ok (.iinc 4 1, 3) := by decide +kernel
theorem dX5_keptBy_38 : decode cX5_keptBy 38 = .ok (.goto (-33), 3) := by decide +kernel
theorem dX5_keptBy_41 : decode cX5_keptBy 41 = .ok (.lload_n 2, 1) := by decide +kernel
theorem dX5_keptBy_42 : decode cX5_keptBy 42 = .ok (.lreturn, 1) := by decide +kernel
theorem dX5_seatBest_0 : decode cX5_seatBest 0 = .ok (.aload_n 0, 1) := by decide +kernel
theorem dX5_seatBest_1 : decode cX5_seatBest 1 = .ok (.invokevirtual 67, 3) := by decide +kernel
theorem dX5_seatBest_4 : decode cX5_seatBest 4 = .ok (.aload_n 0, 1) := by decide +kernel
theorem dX5_seatBest_5 : decode cX5_seatBest 5 = .ok (.ldc2_w 70, 3) := by decide +kernel
theorem dX5_seatBest_8 : decode cX5_seatBest 8 = .ok (.putfield 72, 3) := by decide +kernel
theorem dX5_seatBest_11 : decode cX5_seatBest 11 = .ok (.iconst 0, 1) := by decide +kernel
theorem dX5_seatBest_12 : decode cX5_seatBest 12 = .ok (.istore_n 2, 1) := by decide +kernel
theorem dX5_seatBest_13 : decode cX5_seatBest 13 = .ok (.iconst 1, 1) := by decide +kernel
theorem dX5_seatBest_14 : decode cX5_seatBest 14 = .ok (.istore_n 3, 1) := by decide +kernel
theorem dX5_seatBest_15 : decode cX5_seatBest 15 = .ok (.iconst 0, 1) := by decide +kernel
theorem dX5_seatBest_16 : decode cX5_seatBest 16 = .ok (.istore 4, 2) := by decide +kernel
theorem dX5_seatBest_18 : decode cX5_seatBest 18 = .ok (.iload 4, 2) := by decide +kernel
theorem dX5_seatBest_20 : decode cX5_seatBest 20 = .ok (.sipush 720, 3) := by decide +kernel
theorem dX5_seatBest_23 : decode cX5_seatBest 23 = .ok (.if_icmp .ge 79, 3) := by decide +kernel
theorem dX5_seatBest_26 : decode cX5_seatBest 26 = .ok (.iload_n 3, 1) := by decide +kernel
theorem dX5_seatBest_27 : decode cX5_seatBest 27 = .ok (.ifCond .eq 75, 3) := by decide +kernel
theorem dX5_seatBest_30 : decode cX5_seatBest 30 = .ok (.aload_n 0, 1) := by decide +kernel
theorem dX5_seatBest_31 : decode cX5_seatBest 31 = .ok (.aload_n 1, 1) := by decide +kernel
theorem dX5_seatBest_32 : decode cX5_seatBest 32 = .ok (.invokevirtual 76, 3) := by decide +kernel
theorem dX5_seatBest_35 : decode cX5_seatBest 35 = .ok (.lstore 5, 2) := by decide +kernel
theorem dX5_seatBest_37 : decode cX5_seatBest 37 = .ok (.lload 5, 2) := by decide +kernel
theorem dX5_seatBest_39 : decode cX5_seatBest 39 = .ok (.aload_n 0, 1) := by decide +kernel
theorem dX5_seatBest_40 : decode cX5_seatBest 40 = .ok (.getfield 72, 3) := by decide +kernel
theorem dX5_seatBest_43 : decode cX5_seatBest 43 = .ok (.lcmp, 1) := by decide +kernel
theorem dX5_seatBest_44 : decode cX5_seatBest 44 = .ok (.ifCond .le 26, 3) := by decide +kernel
theorem dX5_seatBest_47 : decode cX5_seatBest 47 = .ok (.aload_n 0, 1) := by decide +kernel
theorem dX5_seatBest_48 : decode cX5_seatBest 48 = .ok (.lload 5, 2) := by decide +kernel
theorem dX5_seatBest_50 : decode cX5_seatBest 50 = .ok (.putfield 72, 3) := by decide +kernel
theorem dX5_seatBest_53 : decode cX5_seatBest 53 = .ok (.iconst 0, 1) := by decide +kernel
theorem dX5_seatBest_54 : decode cX5_seatBest 54 = .ok (.istore_n 2, 1) := by decide +kernel
theorem dX5_seatBest_55 : decode cX5_seatBest 55 = .ok (.aload_n 0, 1) := by decide +kernel
theorem dX5_seatBest_56 : decode cX5_seatBest 56 = .ok (.getfield 15, 3) := by decide +kernel
theorem dX5_seatBest_59 : decode cX5_seatBest 59 = .ok (.iconst 0, 1) := by decide +kernel
theorem dX5_seatBest_60 : decode cX5_seatBest 60 = .ok (.aload_n 0, 1) := by decide +kernel
theorem dX5_seatBest_61 : decode cX5_seatBest 61 = .ok (.getfield 18, 3) := by decide +kernel
theorem dX5_seatBest_64 : decode cX5_seatBest 64 = .ok (.iconst 0, 1) := by decide +kernel
theorem dX5_seatBest_65 : decode cX5_seatBest 65 = .ok (.bipush 8, 2) := by decide +kernel
theorem dX5_seatBest_67 : decode cX5_seatBest 67 = .ok (.invokestatic 80, 3) := by decide +kernel
theorem dX5_seatBest_70 : decode cX5_seatBest 70 = .ok (.lload 5, 2) := by decide +kernel
theorem dX5_seatBest_72 : decode cX5_seatBest 72 = .ok (.aload_n 0, 1) := by decide +kernel
theorem dX5_seatBest_73 : decode cX5_seatBest 73 = .ok (.getfield 72, 3) := by decide +kernel
theorem dX5_seatBest_76 : decode cX5_seatBest 76 = .ok (.lcmp, 1) := by decide +kernel
theorem dX5_seatBest_77 : decode cX5_seatBest 77 = .ok (.ifCond .ne 6, 3) := by decide +kernel
theorem dX5_seatBest_80 : decode cX5_seatBest 80 = .ok (.iinc 2 1, 3) := by decide +kernel
theorem dX5_seatBest_83 : decode cX5_seatBest 83 = .ok (.aload_n 0, 1) := by decide +kernel
theorem dX5_seatBest_84 : decode cX5_seatBest 84 = .ok (.getfield 15, 3) := by decide +kernel
theorem dX5_seatBest_87 : decode cX5_seatBest 87 = .ok (.iconst 1, 1) := by decide +kernel
theorem dX5_seatBest_88 : decode cX5_seatBest 88 = .ok (.aload_n 0, 1) := by decide +kernel
theorem dX5_seatBest_89 : decode cX5_seatBest 89 = .ok (.getfield 43, 3) := by decide +kernel
theorem dX5_seatBest_92 : decode cX5_seatBest 92 = .ok (.invokestatic 86, 3) := by decide +kernel
theorem dX5_seatBest_95 : decode cX5_seatBest 95 = .ok (.istore_n 3, 1) := by decide +kernel
theorem dX5_seatBest_96 : decode cX5_seatBest 96 = .ok (.iinc 4 1, 3) := by decide +kernel
theorem dX5_seatBest_99 : decode cX5_seatBest 99 = .ok (.goto (-81), 3) := by decide +kernel
theorem dX5_seatBest_102 : decode cX5_seatBest 102 = .ok (.iload_n 2, 1) := by decide +kernel
theorem dX5_seatBest_103 : decode cX5_seatBest 103 = .ok (.ireturn, 1) := by decide +kernel
theorem dX5_sortOthers_0 : decode cX5_sortOthers 0 = .ok (.iconst 2, 1) := by decide +kernel
theorem dX5_sortOthers_1 : decode cX5_sortOthers 1 = .ok (.istore_n 1, 1) := by decide +kernel
theorem dX5_sortOthers_2 : decode cX5_sortOthers 2 = .ok (.iload_n 1, 1) := by decide +kernel
theorem dX5_sortOthers_3 : decode cX5_sortOthers 3 = .ok (.aload_n 0, 1) := by decide +kernel
theorem dX5_sortOthers_4 : decode cX5_sortOthers 4 = .ok (.getfield 43, 3) := by decide +kernel
theorem dX5_sortOthers_7 : decode cX5_sortOthers 7 = .ok (.if_icmp .ge 50, 3) := by decide +kernel
theorem dX5_sortOthers_10 : decode cX5_sortOthers 10 = .ok (.iload_n 1, 1) := by decide +kernel
theorem dX5_sortOthers_11 : decode cX5_sortOthers 11 = .ok (.istore_n 2, 1) := by decide +kernel
theorem dX5_sortOthers_12 : decode cX5_sortOthers 12 = .ok (.iload_n 2, 1) := by decide +kernel
theorem dX5_sortOthers_13 : decode cX5_sortOthers 13 = .ok (.iconst 1, 1) := by decide +kernel
theorem dX5_sortOthers_14 : decode cX5_sortOthers 14 = .ok (.if_icmp .le 37, 3) := by decide +kernel
theorem dX5_sortOthers_17 : decode cX5_sortOthers 17 = .ok (.aload_n 0, 1) := by decide +kernel
theorem dX5_sortOthers_18 : decode cX5_sortOthers 18 = .ok (.getfield 15, 3) := by decide +kernel
theorem dX5_sortOthers_21 : decode cX5_sortOthers 21 = .ok (.iload_n 2, 1) := by decide +kernel
theorem dX5_sortOthers_22 : decode cX5_sortOthers 22 = .ok (.iaload, 1) := by decide +kernel
theorem dX5_sortOthers_23 : decode cX5_sortOthers 23 = .ok (.aload_n 0, 1) := by decide +kernel
theorem dX5_sortOthers_24 : decode cX5_sortOthers 24 = .ok (.getfield 15, 3) := by decide +kernel
theorem dX5_sortOthers_27 : decode cX5_sortOthers 27 = .ok (.iload_n 2, 1) := by decide +kernel
theorem dX5_sortOthers_28 : decode cX5_sortOthers 28 = .ok (.iconst 1, 1) := by decide +kernel
theorem dX5_sortOthers_29 : decode cX5_sortOthers 29 = .ok (.isub, 1) := by decide +kernel
theorem dX5_sortOthers_30 : decode cX5_sortOthers 30 = .ok (.iaload, 1) := by decide +kernel
theorem dX5_sortOthers_31 : decode cX5_sortOthers 31 = .ok (.if_icmp .ge 20, 3) := by decide +kernel
theorem dX5_sortOthers_34 : decode cX5_sortOthers 34 = .ok (.aload_n 0, 1) := by decide +kernel
theorem dX5_sortOthers_35 : decode cX5_sortOthers 35 = .ok (.getfield 15, 3) := by decide +kernel
theorem dX5_sortOthers_38 : decode cX5_sortOthers 38 = .ok (.iload_n 2, 1) := by decide +kernel
theorem dX5_sortOthers_39 : decode cX5_sortOthers 39 = .ok (.iload_n 2, 1) := by decide +kernel
theorem dX5_sortOthers_40 : decode cX5_sortOthers 40 = .ok (.iconst 1, 1) := by decide +kernel
theorem dX5_sortOthers_41 : decode cX5_sortOthers 41 = .ok (.isub, 1) := by decide +kernel
theorem dX5_sortOthers_42 : decode cX5_sortOthers 42 = .ok (.invokestatic 90, 3) := by decide +kernel
theorem dX5_sortOthers_45 : decode cX5_sortOthers 45 = .ok (.iinc 2 (-1), 3) := by decide +kernel
theorem dX5_sortOthers_48 : decode cX5_sortOthers 48 = .ok (.goto (-36), 3) := by decide +kernel
theorem dX5_sortOthers_51 : decode cX5_sortOthers 51 = .ok (.iinc 1 1, 3) := by decide +kernel
theorem dX5_sortOthers_54 : decode cX5_sortOthers 54 = .ok (.goto (-52), 3) := by decide +kernel
theorem dX5_sortOthers_57 : decode cX5_sortOthers 57 = .ok (.return_, 1) := by decide +kernel
theorem dX6_init_0 : decode cX6_init 0 = .ok (.aload_n 0, 1) := by decide +kernel
theorem dX6_init_1 : decode cX6_init 1 = .ok (.invokespecial 3, 3) := by decide +kernel
theorem dX6_init_4 : decode cX6_init 4 = .ok (.aload_n 0, 1) := by decide +kernel
theorem dX6_init_5 : decode cX6_init 5 = .ok (.bipush 8, 2) := by decide +kernel
theorem dX6_init_7 : decode cX6_init 7 = .ok (.newarray .int, 2) := by decide +kernel
theorem dX6_init_9 : decode cX6_init 9 = .ok (.putfield 9, 3) := by decide +kernel
theorem dX6_init_12 : decode cX6_init 12 = .ok (.aload_n 0, 1) := by decide +kernel
theorem dX6_init_13 : decode cX6_init 13 = .ok (.bipush 8, 2) := by decide +kernel
theorem dX6_init_15 : decode cX6_init 15 = .ok (.newarray .int, 2) := by decide +kernel
theorem dX6_init_17 : decode cX6_init 17 = .ok (.putfield 15, 3) := by decide +kernel
theorem dX6_init_20 : decode cX6_init 20 = .ok (.return_, 1) := by decide +kernel
theorem dX6_get_0 : decode cX6_get 0 = .ok (.iload_n 1, 1) := by decide +kernel
theorem dX6_get_1 : decode cX6_get 1 = .ok (.ifCond .lt 20, 3) := by decide +kernel
theorem dX6_get_4 : decode cX6_get 4 = .ok (.iload_n 1, 1) := by decide +kernel
theorem dX6_get_5 : decode cX6_get 5 = .ok (.aload_n 0, 1) := by decide +kernel
theorem dX6_get_6 : decode cX6_get 6 = .ok (.getfield 18, 3) := by decide +kernel
theorem dX6_get_9 : decode cX6_get 9 = .ok (.if_icmp .ge 12, 3) := by decide +kernel
theorem dX6_get_12 : decode cX6_get 12 = .ok (.aload_n 0, 1) := by decide +kernel
theorem dX6_get_13 : decode cX6_get 13 = .ok (.getfield 15, 3) := by decide +kernel
theorem dX6_get_16 : decode cX6_get 16 = .ok (.iload_n 1, 1) := by decide +kernel
theorem dX6_get_17 : decode cX6_get 17 = .ok (.iaload, 1) := by decide +kernel
theorem dX6_get_18 : decode cX6_get 18 = .ok (.goto 4, 3) := by decide +kernel
theorem dX6_get_21 : decode cX6_get 21 = .ok (.iconst 0, 1) := by decide +kernel
theorem dX6_get_22 : decode cX6_get 22 = .ok (.ireturn, 1) := by decide +kernel
theorem dX6_reckon_0 : decode cX6_reckon 0 = .ok (.aload_n 0, 1) := by decide +kernel
theorem dX6_reckon_1 : decode cX6_reckon 1 = .ok (.aload_n 1, 1) := by decide +kernel
theorem dX6_reckon_2 : decode cX6_reckon 2 = .ok (.getfield 22, 3) := by decide +kernel
theorem dX6_reckon_5 : decode cX6_reckon 5 = .ok (.getfield 28, 3) := by decide +kernel
theorem dX6_reckon_8 : decode cX6_reckon 8 = .ok (.putfield 18, 3) := by decide +kernel
theorem dX6_reckon_11 : decode cX6_reckon 11 = .ok (.iconst 0, 1) := by decide +kernel
theorem dX6_reckon_12 : decode cX6_reckon 12 = .ok (.istore 4, 2) := by decide +kernel
theorem dX6_reckon_14 : decode cX6_reckon 14 = .ok (.iconst 0, 1) := by decide +kernel
theorem dX6_reckon_15 : decode cX6_reckon 15 = .ok (.istore 5, 2) := by decide +kernel
theorem dX6_reckon_17 : decode cX6_reckon 17 = .ok (.iconst 0, 1) := by decide +kernel
theorem dX6_reckon_18 : decode cX6_reckon 18 = .ok (.istore 6, 2) := by decide +kernel
theorem dX6_reckon_20 : decode cX6_reckon 20 = .ok (.iload 6, 2) := by decide +kernel
theorem dX6_reckon_22 : decode cX6_reckon 22 = .ok (.aload_n 0, 1) := by decide +kernel
theorem dX6_reckon_23 : decode cX6_reckon 23 = .ok (.getfield 18, 3) := by decide +kernel
theorem dX6_reckon_26 : decode cX6_reckon 26 = .ok (.if_icmp .ge 58, 3) := by decide +kernel
theorem dX6_reckon_29 : decode cX6_reckon 29 = .ok (.aload_n 0, 1) := by decide +kernel
theorem dX6_reckon_30 : decode cX6_reckon 30 = .ok (.getfield 9, 3) := by decide +kernel
theorem dX6_reckon_33 : decode cX6_reckon 33 = .ok (.iload 6, 2) := by decide +kernel
theorem dX6_reckon_35 : decode cX6_reckon 35 = .ok (.aload_n 0, 1) := by decide +kernel
theorem dX6_reckon_36 : decode cX6_reckon 36 = .ok (.aload_n 1, 1) := by decide +kernel
theorem dX6_reckon_37 : decode cX6_reckon 37 = .ok (.aload_n 2, 1) := by decide +kernel
theorem dX6_reckon_38 : decode cX6_reckon 38 = .ok (.aload_n 3, 1) := by decide +kernel
theorem dX6_reckon_39 : decode cX6_reckon 39 = .ok (.iload 6, 2) := by decide +kernel
theorem dX6_reckon_41 : decode cX6_reckon 41 = .ok (.invokevirtual 31, 3) := by decide +kernel
theorem dX6_reckon_44 : decode cX6_reckon 44 = .ok (.iastore, 1) := by decide +kernel
theorem dX6_reckon_45 : decode cX6_reckon 45 = .ok (.iload 4, 2) := by decide +kernel
theorem dX6_reckon_47 : decode cX6_reckon 47 = .ok (.aload_n 0, 1) := by decide +kernel
theorem dX6_reckon_48 : decode cX6_reckon 48 = .ok (.getfield 9, 3) := by decide +kernel
theorem dX6_reckon_51 : decode cX6_reckon 51 = .ok (.iload 6, 2) := by decide +kernel
theorem dX6_reckon_53 : decode cX6_reckon 53 = .ok (.iaload, 1) := by decide +kernel
theorem dX6_reckon_54 : decode cX6_reckon 54 = .ok (.iadd, 1) := by decide +kernel
theorem dX6_reckon_55 : decode cX6_reckon 55 = .ok (.istore 4, 2) := by decide +kernel
theorem dX6_reckon_57 : decode cX6_reckon 57 = .ok (.aload_n 0, 1) := by decide +kernel
theorem dX6_reckon_58 : decode cX6_reckon 58 = .ok (.getfield 9, 3) := by decide +kernel
theorem dX6_reckon_61 : decode cX6_reckon 61 = .ok (.iload 6, 2) := by decide +kernel
theorem dX6_reckon_63 : decode cX6_reckon 63 = .ok (.iaload, 1) := by decide +kernel
theorem dX6_reckon_64 : decode cX6_reckon 64 = .ok (.aload_n 0, 1) := by decide +kernel
theorem dX6_reckon_65 : decode cX6_reckon 65 = .ok (.getfield 9, 3) := by decide +kernel
theorem dX6_reckon_68 : decode cX6_reckon 68 = .ok (.iload 5, 2) := by decide +kernel
theorem dX6_reckon_70 : decode cX6_reckon 70 = .ok (.iaload, 1) := by decide +kernel
theorem dX6_reckon_71 : decode cX6_reckon 71 = .ok (.if_icmp .le 7, 3) := by decide +kernel
theorem dX6_reckon_74 : decode cX6_reckon 74 = .ok (.iload 6, 2) := by decide +kernel
theorem dX6_reckon_76 : decode cX6_reckon 76 = .ok (.istore 5, 2) := by decide +kernel
theorem dX6_reckon_78 : decode cX6_reckon 78 = .ok (.iinc 6 1, 3) := by decide +kernel
theorem dX6_reckon_81 : decode cX6_reckon 81 = .ok (.goto (-61), 3) := by decide +kernel
theorem dX6_reckon_84 : decode cX6_reckon 84 = .ok (.aload_n 0, 1) := by decide +kernel
theorem dX6_reckon_85 : decode cX6_reckon 85 = .ok (.iload 4, 2) := by decide +kernel
theorem dX6_reckon_87 : decode cX6_reckon 87 = .ok (.ifCond .ne 10, 3) := by decide +kernel
theorem dX6_reckon_90 : decode cX6_reckon 90 = .ok (.aload_n 1, 1) := by decide +kernel
theorem dX6_reckon_91 : decode cX6_reckon 91 = .ok (.getfield 35, 3) := by decide +kernel
theorem dX6_reckon_94 : decode cX6_reckon 94 = .ok (.goto 5, 3) := by decide +kernel
theorem dX6_reckon_97 : decode cX6_reckon 97 = .ok (.iload 5, 2) := by decide +kernel
theorem dX6_reckon_99 : decode cX6_reckon 99 = .ok (.putfield 38, 3) := by decide +kernel
theorem dX6_reckon_102 : decode cX6_reckon 102 = .ok (.aload_n 0, 1) := by decide +kernel
theorem dX6_reckon_103 : decode cX6_reckon 103 = .ok (.iload 4, 2) := by decide +kernel
theorem dX6_reckon_105 : decode cX6_reckon 105 = .ok (.invokevirtual 41, 3) := by decide +kernel
theorem dX6_reckon_108 : decode cX6_reckon 108 = .ok (.return_, 1) := by decide +kernel
theorem dX6_share_0 : decode cX6_share 0 = .ok (.bipush 24, 2) := by decide +kernel
theorem dX6_share_2 : decode cX6_share 2 = .ok (.istore_n 2, 1) := by decide +kernel
theorem dX6_share_3 : decode cX6_share 3 = .ok (.iconst 0, 1) := by decide +kernel
theorem dX6_share_4 : decode cX6_share 4 = .ok (.istore_n 3, 1) := by decide +kernel
theorem dX6_share_5 : decode cX6_share 5 = .ok (.iload_n 3, 1) := by decide +kernel
theorem dX6_share_6 : decode cX6_share 6 = .ok (.aload_n 0, 1) := by decide +kernel
theorem dX6_share_7 : decode cX6_share 7 = .ok (.getfield 18, 3) := by decide +kernel
theorem dX6_share_10 : decode cX6_share 10 = .ok (.if_icmp .ge 43, 3) := by decide +kernel
theorem dX6_share_13 : decode cX6_share 13 = .ok (.aload_n 0, 1) := by decide +kernel
theorem dX6_share_14 : decode cX6_share 14 = .ok (.getfield 15, 3) := by decide +kernel
theorem dX6_share_17 : decode cX6_share 17 = .ok (.iload_n 3, 1) := by decide +kernel
theorem dX6_share_18 : decode cX6_share 18 = .ok (.iload_n 1, 1) := by decide +kernel
theorem dX6_share_19 : decode cX6_share 19 = .ok (.ifCond .ne 7, 3) := by decide +kernel
theorem dX6_share_22 : decode cX6_share 22 = .ok (.iconst 0, 1) := by decide +kernel
theorem dX6_share_23 : decode cX6_share 23 = .ok (.goto 14, 3) := by decide +kernel
theorem dX6_share_26 : decode cX6_share 26 = .ok (.bipush 24, 2) := by decide +kernel
theorem dX6_share_28 : decode cX6_share 28 = .ok (.aload_n 0, 1) := by decide +kernel
theorem dX6_share_29 : decode cX6_share 29 = .ok (.getfield 9, 3) := by decide +kernel
theorem dX6_share_32 : decode cX6_share 32 = .ok (.iload_n 3, 1) := by decide +kernel
theorem dX6_share_33 : decode cX6_share 33 = .ok (.iaload, 1) := by decide +kernel
theorem dX6_share_34 : decode cX6_share 34 = .ok (.imul, 1) := by decide +kernel
theorem dX6_share_35 : decode cX6_share 35 = .ok (.iload_n 1, 1) := by decide +kernel
theorem dX6_share_36 : decode cX6_share 36 = .ok (.idiv, 1) := by decide +kernel
theorem dX6_share_37 : decode cX6_share 37 = .ok (.iastore, 1) := by decide +kernel
theorem dX6_share_38 : decode cX6_share 38 = .ok (.iload_n 2, 1) := by decide +kernel
theorem dX6_share_39 : decode cX6_share 39 = .ok (.aload_n 0, 1) := by decide +kernel
theorem dX6_share_40 : decode cX6_share 40 = .ok (.getfield 15, 3) := by decide +kernel
theorem dX6_share_43 : decode cX6_share 43 = .ok (.iload_n 3, 1) := by decide +kernel
theorem dX6_share_44 : decode cX6_share 44 = .ok (.iaload, 1) := by decide +kernel
theorem dX6_share_45 : decode cX6_share 45 = .ok (.isub, 1) := by decide +kernel
theorem dX6_share_46 : decode cX6_share 46 = .ok (.istore_n 2, 1) := by decide +kernel
theorem dX6_share_47 : decode cX6_share 47 = .ok (.iinc 3 1, 3) := by decide +kernel
theorem dX6_share_50 : decode cX6_share 50 = .ok (.goto (-45), 3) := by decide +kernel
theorem dX6_share_53 : decode cX6_share 53 = .ok (.aload_n 0, 1) := by decide +kernel
theorem dX6_share_54 : decode cX6_share 54 = .ok (.getfield 38, 3) := by decide +kernel
theorem dX6_share_57 : decode cX6_share 57 = .ok (.ifCond .lt 27, 3) := by decide +kernel
theorem dX6_share_60 : decode cX6_share 60 = .ok (.aload_n 0, 1) := by decide +kernel
theorem dX6_share_61 : decode cX6_share 61 = .ok (.getfield 38, 3) := by decide +kernel
theorem dX6_share_64 : decode cX6_share 64 = .ok (.aload_n 0, 1) := by decide +kernel
theorem dX6_share_65 : decode cX6_share 65 = .ok (.getfield 18, 3) := by decide +kernel
theorem dX6_share_68 : decode cX6_share 68 = .ok (.if_icmp .ge 16, 3) := by decide +kernel
theorem dX6_share_71 : decode cX6_share 71 = .ok (.aload_n 0, 1) := by decide +kernel
theorem dX6_share_72 : decode cX6_share 72 = .ok (.getfield 15, 3) := by decide +kernel
theorem dX6_share_75 : decode cX6_share 75 = .ok (.aload_n 0, 1) := by decide +kernel
theorem dX6_share_76 : decode cX6_share 76 = .ok (.getfield 38, 3) := by decide +kernel
theorem dX6_share_79 : decode cX6_share 79 = .ok (.dup2, 1) := by decide +kernel
theorem dX6_share_80 : decode cX6_share 80 = .ok (.iaload, 1) := by decide +kernel
theorem dX6_share_81 : decode cX6_share 81 = .ok (.iload_n 2, 1) := by decide +kernel
theorem dX6_share_82 : decode cX6_share 82 = .ok (.iadd, 1) := by decide +kernel
theorem dX6_share_83 : decode cX6_share 83 = .ok (.iastore, 1) := by decide +kernel
theorem dX6_share_84 : decode cX6_share 84 = .ok (.return_, 1) := by decide +kernel
theorem dX6_sumOf_0 : decode cX6_sumOf 0 = .ok (.aload_n 1, 1) := by decide +kernel
theorem dX6_sumOf_1 : decode cX6_sumOf 1 = .ok (.getfield 45, 3) := by decide +kernel
theorem dX6_sumOf_4 : decode cX6_sumOf 4 = .ok (.iconst 2, 1) := by decide +kernel
theorem dX6_sumOf_5 : decode cX6_sumOf 5 = .ok (.if_icmp .ne 17, 3) := by decide +kernel
theorem dX6_sumOf_8 : decode cX6_sumOf 8 = .ok (.iload 4, 2) := by decide +kernel
theorem dX6_sumOf_10 : decode cX6_sumOf 10 = .ok (.aload_n 1, 1) := by decide +kernel
theorem dX6_sumOf_11 : decode cX6_sumOf 11 = .ok (.getfield 35, 3) := by decide +kernel
theorem dX6_sumOf_14 : decode cX6_sumOf 14 = .ok (.if_icmp .ne 8, 3) := by decide +kernel
theorem dX6_sumOf_17 : decode cX6_sumOf 17 = .ok (.bipush 9, 2) := by decide +kernel
theorem dX6_sumOf_19 : decode cX6_sumOf 19 = .ok (.goto 4, 3) := by decide +kernel
theorem dX6_sumOf_22 : decode cX6_sumOf 22 = .ok (.iconst 0, 1) := by decide +kernel
theorem dX6_sumOf_23 : decode cX6_sumOf 23 = .ok (.istore 5, 2) := by decide +kernel
theorem dX6_sumOf_25 : decode cX6_sumOf 25 = .ok (.aload_n 1, 1) := by decide +kernel
theorem dX6_sumOf_26 : decode cX6_sumOf 26 = .ok (.getfield 45, 3) := by decide +kernel
theorem dX6_sumOf_29 : decode cX6_sumOf 29 = .ok (.iconst 3, 1) := by decide +kernel
theorem dX6_sumOf_30 : decode cX6_sumOf 30 = .ok (.if_icmp .ne 14, 3) := by decide +kernel
theorem dX6_sumOf_33 : decode cX6_sumOf 33 = .ok (.iconst 1, 1) := by decide +kernel
theorem dX6_sumOf_34 : decode cX6_sumOf 34 = .ok (.aload_n 2, 1) := by decide +kernel
theorem dX6_sumOf_35 : decode cX6_sumOf 35 = .ok (.getfield 48, 3) := by decide +kernel
theorem dX6_sumOf_38 : decode cX6_sumOf 38 = .ok (.invokestatic 53, 3) := by decide +kernel
theorem dX6_sumOf_41 : decode cX6_sumOf 41 = .ok (.goto 7, 3) := by decide +kernel
theorem dX6_sumOf_44 : decode cX6_sumOf 44 = .ok (.aload_n 2, 1) := by decide +kernel
theorem dX6_sumOf_45 : decode cX6_sumOf 45 = .ok (.getfield 48, 3) := by decide +kernel
theorem dX6_sumOf_48 : decode cX6_sumOf 48 = .ok (.istore 6, 2) := by decide +kernel
theorem dX6_sumOf_50 : decode cX6_sumOf 50 = .ok (.iconst 0, 1) := by decide +kernel
theorem dX6_sumOf_51 : decode cX6_sumOf 51 = .ok (.istore 7, 2) := by decide +kernel
theorem dX6_sumOf_53 : decode cX6_sumOf 53 = .ok (.iload 7, 2) := by decide +kernel
theorem dX6_sumOf_55 : decode cX6_sumOf 55 = .ok (.iload 6, 2) := by decide +kernel
theorem dX6_sumOf_57 : decode cX6_sumOf 57 = .ok (.if_icmp .ge 50, 3) := by decide +kernel
theorem dX6_sumOf_60 : decode cX6_sumOf 60 = .ok (.aload_n 2, 1) := by decide +kernel
theorem dX6_sumOf_61 : decode cX6_sumOf 61 = .ok (.getfield 59, 3) := by decide +kernel
theorem dX6_sumOf_64 : decode cX6_sumOf 64 = .ok (.iload 7, 2) := by decide +kernel
theorem dX6_sumOf_66 : decode cX6_sumOf 66 = .ok (.iaload, 1) := by decide +kernel
theorem dX6_sumOf_67 : decode cX6_sumOf 67 = .ok (.istore 8, 2) := by decide +kernel
theorem dX6_sumOf_69 : decode cX6_sumOf 69 = .ok (.iload 5, 2) := by decide +kernel
theorem dX6_sumOf_71 : decode cX6_sumOf 71 = .ok (.aload_n 1, 1) := by decide +kernel
theorem dX6_sumOf_72 : decode cX6_sumOf 72 = .ok (.getfield 22, 3) := by decide +kernel
theorem dX6_sumOf_75 : decode cX6_sumOf 75 = .ok (.iload 4, 2) := by decide +kernel
theorem dX6_sumOf_77 : decode cX6_sumOf 77 = .ok (.aload_n 1, 1) := by decide +kernel
theorem dX6_sumOf_78 : decode cX6_sumOf 78 = .ok (.getfield 45, 3) := by decide +kernel
theorem dX6_sumOf_81 : decode cX6_sumOf 81 = .ok (.iconst 4, 1) := by decide +kernel
theorem dX6_sumOf_82 : decode cX6_sumOf 82 = .ok (.if_icmp .ne 11, 3) := by decide +kernel
theorem dX6_sumOf_85 : decode cX6_sumOf 85 = .ok (.bipush 9, 2) := by decide +kernel
theorem dX6_sumOf_87 : decode cX6_sumOf 87 = .ok (.iload 8, 2) := by decide +kernel
theorem dX6_sumOf_89 : decode cX6_sumOf 89 = .ok (.isub, 1) := by decide +kernel
theorem dX6_sumOf_90 : decode cX6_sumOf 90 = .ok (.goto 5, 3) := by decide +kernel
theorem dX6_sumOf_93 : decode cX6_sumOf 93 = .ok (.iload 8, 2) := by decide +kernel
theorem dX6_sumOf_95 : decode cX6_sumOf 95 = .ok (.invokevirtual 62, 3) := by decide +kernel
theorem dX6_sumOf_98 : decode cX6_sumOf 98 = .ok (.iadd, 1) := by decide +kernel
theorem dX6_sumOf_99 : decode cX6_sumOf 99 = .ok (.istore 5, 2) := by decide +kernel
theorem dX6_sumOf_101 : decode cX6_sumOf 101 = .ok (.iinc 7 1, 3) := by decide +kernel
theorem dX6_sumOf_104 : decode cX6_sumOf 104 = .ok (.goto (-51), 3) := by decide +kernel
theorem dX6_sumOf_107 : decode cX6_sumOf 107 = .ok (.aload_n 1, 1) := by decide +kernel
theorem dX6_sumOf_108 : decode cX6_sumOf 108 = .ok (.getfield 45, 3) := by decide +kernel
theorem dX6_sumOf_111 : decode cX6_sumOf 111 = .ok (.iconst 5, 1) := by decide +kernel
theorem dX6_sumOf_112 : decode cX6_sumOf 112 = .ok (.if_icmp .ne 29, 3) := by decide +kernel
theorem dX6_sumOf_115 : decode cX6_sumOf 115 = .ok (.aload_n 3, 1) := by decide +kernel
theorem dX6_sumOf_116 : decode cX6_sumOf 116 = .ok (.ifnull 25, 3) := by decide +kernel
theorem dX6_sumOf_119 : decode cX6_sumOf 119 = .ok (.iload 5, 2) := by decide +kernel
theorem dX6_sumOf_121 : decode cX6_sumOf 121 = .ok (.iconst 4, 1) := by decide +kernel
theorem dX6_sumOf_122 : decode cX6_sumOf 122 = .ok (.aload_n 3, 1) := by decide +kernel
theorem dX6_sumOf_123 : decode cX6_sumOf 123 = .ok (.getfield 65, 3) := by decide +kernel
theorem dX6_sumOf_126 : decode cX6_sumOf 126 = .ok (.iload 4, 2) := by decide +kernel
theorem dX6_sumOf_128 : decode cX6_sumOf 128 = .ok (.iaload, 1) := by decide +kernel
theorem dX6_sumOf_129 : decode cX6_sumOf 129 = .ok (.aload_n 2, 1) := by decide +kernel
theorem dX6_sumOf_130 : decode cX6_sumOf 130 = .ok (.invokevirtual 68, 3) := by decide +kernel
theorem dX6_sumOf_133 : decode cX6_sumOf 133 = .ok (.iand, 1) := by decide +kernel
theorem dX6_sumOf_134 : decode cX6_sumOf 134 = .ok (.invokestatic 72, 3) := by decide +kernel
theorem dX6_sumOf_137 : decode cX6_sumOf 137 = .ok (.imul, 1) := by decide +kernel
theorem dX6_sumOf_138 : decode cX6_sumOf 138 = .ok (.iadd, 1) := by decide +kernel
theorem dX6_sumOf_139 : decode cX6_sumOf 139 = .ok (.istore 5, 2) := by decide +kernel
theorem dX6_sumOf_141 : decode cX6_sumOf 141 = .ok (.iload 5, 2) := by decide +kernel
theorem dX6_sumOf_143 : decode cX6_sumOf 143 = .ok (.ireturn, 1) := by decide +kernel
theorem dX7_init_0 : decode cX7_init 0 = .ok (.aload_n 0, 1) := by decide +kernel
theorem dX7_init_1 : decode cX7_init 1 = .ok (.invokespecial 3, 3) := by decide +kernel
theorem dX7_init_4 : decode cX7_init 4 = .ok (.aload_n 0, 1) := by decide +kernel
theorem dX7_init_5 : decode cX7_init 5 = .ok (.iconst (-1), 1) := by decide +kernel
theorem dX7_init_6 : decode cX7_init 6 = .ok (.putfield 9, 3) := by decide +kernel
theorem dX7_init_9 : decode cX7_init 9 = .ok (.aload_n 0, 1) := by decide +kernel
theorem dX7_init_10 : decode cX7_init 10 = .ok (.iload_n 1, 1) := by decide +kernel
theorem dX7_init_11 : decode cX7_init 11 = .ok (.iconst 0, 1) := by decide +kernel
theorem dX7_init_12 : decode cX7_init 12 = .ok (.invokestatic 15, 3) := by decide +kernel
theorem dX7_init_15 : decode cX7_init 15 = .ok (.newarray .int, 2) := by decide +kernel
theorem dX7_init_17 : decode cX7_init 17 = .ok (.putfield 21, 3) := by decide +kernel
theorem dX7_init_20 : decode cX7_init 20 = .ok (.return_, 1) := by decide +kernel
theorem dX7_isMissing_0 : decode cX7_isMissing 0 = .ok (.aload_n 0, 1) := by decide +kernel
theorem dX7_isMissing_1 : decode cX7_isMissing 1 = .ok (.getfield 9, 3) := by decide +kernel
theorem dX7_isMissing_4 : decode cX7_isMissing 4 = .ok (.ifCond .ge 7, 3) := by decide +kernel
theorem dX7_isMissing_7 : decode cX7_isMissing 7 = .ok (.iconst 1, 1) := by decide +kernel
theorem dX7_isMissing_8 : decode cX7_isMissing 8 = .ok (.goto 4, 3) := by decide +kernel
theorem dX7_isMissing_11 : decode cX7_isMissing 11 = .ok (.iconst 0, 1) := by decide +kernel
theorem dX7_isMissing_12 : decode cX7_isMissing 12 = .ok (.ireturn, 1) := by decide +kernel
theorem dX7_has_0 : decode cX7_has 0 = .ok (.iload_n 1, 1) := by decide +kernel
theorem dX7_has_1 : decode cX7_has 1 = .ok (.ifCond .lt 15, 3) := by decide +kernel
theorem dX7_has_4 : decode cX7_has 4 = .ok (.iload_n 1, 1) := by decide +kernel
theorem dX7_has_5 : decode cX7_has 5 = .ok (.aload_n 0, 1) := by decide +kernel
theorem dX7_has_6 : decode cX7_has 6 = .ok (.getfield 9, 3) := by decide +kernel
theorem dX7_has_9 : decode cX7_has 9 = .ok (.if_icmp .ge 7, 3) := by decide +kernel
theorem dX7_has_12 : decode cX7_has 12 = .ok (.iconst 1, 1) := by decide +kernel
theorem dX7_has_13 : decode cX7_has 13 = .ok (.goto 4, 3) := by decide +kernel
theorem dX7_has_16 : decode cX7_has 16 = .ok (.iconst 0, 1) := by decide +kernel
theorem dX7_has_17 : decode cX7_has 17 = .ok (.ireturn, 1) := by decide +kernel
theorem dX7_hasRange_0 : decode cX7_hasRange 0 = .ok (.iload_n 1, 1) := by decide +kernel
theorem dX7_hasRange_1 : decode cX7_hasRange 1 = .ok (.ifCond .lt 29, 3) := by decide +kernel
theorem dX7_hasRange_4 : decode cX7_hasRange 4 = .ok (.iload_n 2, 1) := by decide +kernel
theorem dX7_hasRange_5 : decode cX7_hasRange 5 = .ok (.ifCond .lt 25, 3) := by decide +kernel
theorem dX7_hasRange_8 : decode cX7_hasRange 8 = .ok (.iload_n 1, 1) := by decide +kernel
theorem dX7_hasRange_9 : decode cX7_hasRange 9 = .ok (.aload_n 0, 1) := by decide +kernel
theorem dX7_hasRange_10 : decode cX7_hasRange 10 = .ok (.getfield 9, 3) := by decide +kernel
theorem dX7_hasRange_13 : decode cX7_hasRange 13 = .ok (.if_icmp .gt 17, 3) := by decide +kernel
theorem dX7_hasRange_16 : decode cX7_hasRange 16 = .ok (.iload_n 2, 1) := by decide +kernel
theorem dX7_hasRange_17 : decode cX7_hasRange 17 = .ok (.aload_n 0, 1) := by decide +kernel
theorem dX7_hasRange_18 : decode cX7_hasRange 18 = .ok (.getfield 9, 3) := by decide +kernel
theorem dX7_hasRange_21 : decode cX7_hasRange 21 = .ok (.iload_n 1, 1) := by decide +kernel
theorem dX7_hasRange_22 : decode cX7_hasRange 22 = .ok (.isub, 1) := by decide +kernel
theorem dX7_hasRange_23 : decode cX7_hasRange 23 = .ok (.if_icmp .gt 7, 3) := by decide +kernel
theorem dX7_hasRange_26 : decode cX7_hasRange 26 = .ok (.iconst 1, 1) := by decide +kernel
theorem dX7_hasRange_27 : decode cX7_hasRange 27 = .ok (.goto 4, 3) := by decide +kernel
theorem dX7_hasRange_30 : decode cX7_hasRange 30 = .ok (.iconst 0, 1) := by decide +kernel
theorem dX7_hasRange_31 : decode cX7_hasRange 31 = .ok (.ireturn, 1) := by decide +kernel
theorem dX7_get_0 : decode cX7_get 0 = .ok (.aload_n 0, 1) := by decide +kernel
theorem dX7_get_1 : decode cX7_get 1 = .ok (.iload_n 1, 1) := by decide +kernel
theorem dX7_get_2 : decode cX7_get 2 = .ok (.invokevirtual 25, 3) := by decide +kernel
theorem dX7_get_5 : decode cX7_get 5 = .ok (.ifCond .eq 12, 3) := by decide +kernel
theorem dX7_get_8 : decode cX7_get 8 = .ok (.aload_n 0, 1) := by decide +kernel
theorem dX7_get_9 : decode cX7_get 9 = .ok (.getfield 21, 3) := by decide +kernel
theorem dX7_get_12 : decode cX7_get 12 = .ok (.iload_n 1, 1) := by decide +kernel
theorem dX7_get_13 : decode cX7_get 13 = .ok (.iaload, 1) := by decide +kernel
theorem dX7_get_14 : decode cX7_get 14 = .ok (.goto 4, 3) := by decide +kernel
theorem dX7_get_17 : decode cX7_get 17 = .ok (.iconst 0, 1) := by decide +kernel
theorem dX7_get_18 : decode cX7_get 18 = .ok (.ireturn, 1) := by decide +kernel
theorem dX7_set_0 : decode cX7_set 0 = .ok (.aload_n 0, 1) := by decide +kernel
theorem dX7_set_1 : decode cX7_set 1 = .ok (.iload_n 1, 1) := by decide +kernel
theorem dX7_set_2 : decode cX7_set 2 = .ok (.invokevirtual 25, 3) := by decide +kernel
theorem dX7_set_5 : decode cX7_set 5 = .ok (.ifCond .eq 10, 3) := by decide +kernel
theorem dX7_set_8 : decode cX7_set 8 = .ok (.aload_n 0, 1) := by decide +kernel
theorem dX7_set_9 : decode cX7_set 9 = .ok (.getfield 21, 3) := by decide +kernel
theorem dX7_set_12 : decode cX7_set 12 = .ok (.iload_n 1, 1) := by decide +kernel
theorem dX7_set_13 : decode cX7_set 13 = .ok (.iload_n 2, 1) := by decide +kernel
theorem dX7_set_14 : decode cX7_set 14 = .ok (.iastore, 1) := by decide +kernel
theorem dX7_set_15 : decode cX7_set 15 = .ok (.return_, 1) := by decide +kernel
theorem dX7_renew_0 : decode cX7_renew 0 = .ok (.aload_n 0, 1) := by decide +kernel
theorem dX7_renew_1 : decode cX7_renew 1 = .ok (.iconst 0, 1) := by decide +kernel
theorem dX7_renew_2 : decode cX7_renew 2 = .ok (.iload_n 1, 1) := by decide +kernel
theorem dX7_renew_3 : decode cX7_renew 3 = .ok (.aload_n 0, 1) := by decide +kernel
theorem dX7_renew_4 : decode cX7_renew 4 = .ok (.getfield 21, 3) := by decide +kernel
theorem dX7_renew_7 : decode cX7_renew 7 = .ok (.arraylength, 1) := by decide +kernel
theorem dX7_renew_8 : decode cX7_renew 8 = .ok (.invokestatic 29, 3) := by decide +kernel
theorem dX7_renew_11 : decode cX7_renew 11 = .ok (.invokestatic 15, 3) := by decide +kernel
theorem dX7_renew_14 : decode cX7_renew 14 = .ok (.putfield 9, 3) := by decide +kernel
theorem dX7_renew_17 : decode cX7_renew 17 = .ok (.iconst 0, 1) := by decide +kernel
theorem dX7_renew_18 : decode cX7_renew 18 = .ok (.istore_n 3, 1) := by decide +kernel
theorem dX7_renew_19 : decode cX7_renew 19 = .ok (.iload_n 3, 1) := by decide +kernel
theorem dX7_renew_20 : decode cX7_renew 20 = .ok (.aload_n 0, 1) := by decide +kernel
theorem dX7_renew_21 : decode cX7_renew 21 = .ok (.getfield 9, 3) := by decide +kernel
theorem dX7_renew_24 : decode cX7_renew 24 = .ok (.if_icmp .ge 16, 3) := by decide +kernel
theorem dX7_renew_27 : decode cX7_renew 27 = .ok (.aload_n 0, 1) := by decide +kernel
theorem dX7_renew_28 : decode cX7_renew 28 = .ok (.getfield 21, 3) := by decide +kernel
theorem dX7_renew_31 : decode cX7_renew 31 = .ok (.iload_n 3, 1) := by decide +kernel
theorem dX7_renew_32 : decode cX7_renew 32 = .ok (.iload_n 2, 1) := by decide +kernel
theorem dX7_renew_33 : decode cX7_renew 33 = .ok (.iastore, 1) := by decide +kernel
theorem dX7_renew_34 : decode cX7_renew 34 = .ok (.iinc 3 1, 3) := by decide +kernel
theorem dX7_renew_37 : decode cX7_renew 37 = .ok (.goto (-18), 3) := by decide +kernel
theorem dX7_renew_40 : decode cX7_renew 40 = .ok (.return_, 1) := by decide +kernel
theorem dX7_take_0 : decode cX7_take 0 = .ok (.aload_n 0, 1) := by decide +kernel
theorem dX7_take_1 : decode cX7_take 1 = .ok (.iconst 0, 1) := by decide +kernel
theorem dX7_take_2 : decode cX7_take 2 = .ok (.iload_n 2, 1) := by decide +kernel
theorem dX7_take_3 : decode cX7_take 3 = .ok (.aload_n 1, 1) := by decide +kernel
theorem dX7_take_4 : decode cX7_take 4 = .ok (.arraylength, 1) := by decide +kernel
theorem dX7_take_5 : decode cX7_take 5 = .ok (.aload_n 0, 1) := by decide +kernel
theorem dX7_take_6 : decode cX7_take 6 = .ok (.getfield 21, 3) := by decide +kernel
theorem dX7_take_9 : decode cX7_take 9 = .ok (.arraylength, 1) := by decide +kernel
theorem dX7_take_10 : decode cX7_take 10 = .ok (.invokestatic 29, 3) := by decide +kernel
theorem dX7_take_13 : decode cX7_take 13 = .ok (.invokestatic 29, 3) := by decide +kernel
theorem dX7_take_16 : decode cX7_take 16 = .ok (.invokestatic 15, 3) := by decide +kernel
theorem dX7_take_19 : decode cX7_take 19 = .ok (.putfield 9, 3) := by decide +kernel
theorem dX7_take_22 : decode cX7_take 22 = .ok (.aload_n 1, 1) := by decide +kernel
theorem dX7_take_23 : decode cX7_take 23 = .ok (.iconst 0, 1) := by decide +kernel
theorem dX7_take_24 : decode cX7_take 24 = .ok (.aload_n 0, 1) := by decide +kernel
theorem dX7_take_25 : decode cX7_take 25 = .ok (.getfield 21, 3) := by decide +kernel
theorem dX7_take_28 : decode cX7_take 28 = .ok (.iconst 0, 1) := by decide +kernel
theorem dX7_take_29 : decode cX7_take 29 = .ok (.aload_n 0, 1) := by decide +kernel
theorem dX7_take_30 : decode cX7_take 30 = .ok (.getfield 9, 3) := by decide +kernel
theorem dX7_take_33 : decode cX7_take 33 = .ok (.invokestatic 32, 3) := by decide +kernel
theorem dX7_take_36 : decode cX7_take 36 = .ok (.return_, 1) := by decide +kernel
theorem dX7_remove_0 : decode cX7_remove 0 = .ok (.aload_n 0, 1) := by decide +kernel
theorem dX7_remove_1 : decode cX7_remove 1 = .ok (.iconst (-1), 1) := by decide +kernel
theorem dX7_remove_2 : decode cX7_remove 2 = .ok (.putfield 9, 3) := by decide +kernel
theorem dX7_remove_5 : decode cX7_remove 5 = .ok (.return_, 1) := by decide +kernel
theorem dX7_total_0 : decode cX7_total 0 = .ok (.lconst 0, 1) := by decide +kernel
theorem dX7_total_1 : decode cX7_total 1 = .ok (.lstore_n 1, 1) := by decide +kernel
theorem dX7_total_2 : decode cX7_total 2 = .ok (.iconst 0, 1) := by decide +kernel
theorem dX7_total_3 : decode cX7_total 3 = .ok (.istore_n 3, 1) := by decide +kernel
theorem dX7_total_4 : decode cX7_total 4 = .ok (.iload_n 3, 1) := by decide +kernel
theorem dX7_total_5 : decode cX7_total 5 = .ok (.aload_n 0, 1) := by decide +kernel
theorem dX7_total_6 : decode cX7_total 6 = .ok (.getfield 9, 3) := by decide +kernel
theorem dX7_total_9 : decode cX7_total 9 = .ok (.if_icmp .ge 19, 3) := by decide +kernel
theorem dX7_total_12 : decode cX7_total 12 = .ok (.lload_n 1, 1) := by decide +kernel
theorem dX7_total_13 : decode cX7_total 13 = .ok (.aload_n 0, 1) := by decide +kernel
theorem dX7_total_14 : decode cX7_total 14 = .ok (.getfield 21, 3) := by decide +kernel
theorem dX7_total_17 : decode cX7_total 17 = .ok (.iload_n 3, 1) := by decide +kernel
theorem dX7_total_18 : decode cX7_total 18 = .ok (.iaload, 1) := by decide +kernel
theorem dX7_total_19 : decode cX7_total 19 = .ok (.i2l, 1) := by decide +kernel
theorem dX7_total_20 : decode cX7_total 20 = .ok (.ladd, 1) := by decide +kernel
theorem dX7_total_21 : decode cX7_total 21 = .ok (.lstore_n 1, 1) := by decide +kernel
theorem dX7_total_22 : decode cX7_total 22 = .ok (.iinc 3 1, 3) := by decide +kernel
theorem dX7_total_25 : decode cX7_total 25 = .ok (.goto (-21), 3) := by decide +kernel
theorem dX7_total_28 : decode cX7_total 28 = .ok (.lload_n 1, 1) := by decide +kernel
theorem dX7_total_29 : decode cX7_total 29 = .ok (.lreturn, 1) := by decide +kernel
theorem dX7_placeFault_0 : decode cX7_placeFault 0 = .ok (.aload_n 0, 1) := by decide +kernel
theorem dX7_placeFault_1 : decode cX7_placeFault 1 = .ok (.invokevirtual 38, 3) := by decide +kernel
theorem dX7_placeFault_4 : decode cX7_placeFault 4 = .ok (.ifCond .eq 5, 3) := by decide +kernel
theorem dX7_placeFault_7 : decode cX7_placeFault 7 = .ok (.iconst 1, 1) := by decide +kernel
theorem dX7_placeFault_8 : decode cX7_placeFault 8 = .ok (.ireturn, 1) := by decide +kernel
theorem dX7_placeFault_9 : decode cX7_placeFault 9 = .ok (.aload_n 0, 1) := by decide +kernel
theorem dX7_placeFault_10 : decode cX7_placeFault 10 = .ok (.iload_n 1, 1) := by decide +kernel
theorem dX7_placeFault_11 : decode cX7_placeFault 11 = .ok (.invokevirtual 25, 3) := by decide +kernel
theorem dX7_placeFault_14 : decode cX7_placeFault 14 = .ok (.ifCond .eq 7, 3) := by decide +kernel
theorem dX7_placeFault_17 : decode cX7_placeFault 17 = .ok (.iconst 0, 1) := by decide +kernel
theorem dX7_placeFault_18 : decode cX7_placeFault 18 = .ok (.goto 4, 3) := by decide +kernel
theorem dX7_placeFault_21 : decode cX7_placeFault 21 = .ok (.iconst 2, 1) := by decide +kernel
theorem dX7_placeFault_22 : decode cX7_placeFault 22 = .ok (.ireturn, 1) := by decide +kernel
theorem dX7_drawnFault_0 : decode cX7_drawnFault 0 = .ok (.aload_n 0, 1) := by decide +kernel
theorem dX7_drawnFault_1 : decode cX7_drawnFault 1 = .ok (.invokevirtual 38, 3) := by decide +kernel
theorem dX7_drawnFault_4 : decode cX7_drawnFault 4 = .ok (.ifCond .eq 5, 3) := by decide +kernel
theorem dX7_drawnFault_7 : decode cX7_drawnFault 7 = .ok (.iconst 1, 1) := by decide +kernel
theorem dX7_drawnFault_8 : decode cX7_drawnFault 8 = .ok (.ireturn, 1) := by decide +kernel
theorem dX7_drawnFault_9 : decode cX7_drawnFault 9 = .ok (.aload_n 0, 1) := by decide +kernel
theorem dX7_drawnFault_10 : decode cX7_drawnFault 10 = .ok (.getfield 9, 3) := by decide +kernel
theorem dX7_drawnFault_13 : decode cX7_drawnFault 13 = .ok (.iconst 1, 1) := by decide +kernel
theorem dX7_drawnFault_14 : decode cX7_drawnFault 14 = .ok (.if_icmp .lt 12, 3) := by decide +kernel
theorem dX7_drawnFault_17 : decode cX7_drawnFault 17 = .ok (.aload_n 0, 1) := by decide +kernel
theorem dX7_drawnFault_18 : decode cX7_drawnFault 18 = .ok (.getfield 9, 3) := by decide +kernel
theorem dX7_drawnFault_21 : decode cX7_drawnFault 21 = .ok (.bipush 6, 2) := by decide +kernel
theorem dX7_drawnFault_23 : decode cX7_drawnFault 23 = .ok (.if_icmp .le 5, 3) := by decide +kernel
theorem dX7_drawnFault_26 : decode cX7_drawnFault 26 = .ok (.iconst 5, 1) := by decide +kernel
theorem dX7_drawnFault_27 : decode cX7_drawnFault 27 = .ok (.ireturn, 1) := by decide +kernel
theorem dX7_drawnFault_28 : decode cX7_drawnFault 28 = .ok (.aload_n 0, 1) := by decide +kernel
theorem dX7_drawnFault_29 : decode cX7_drawnFault 29 = .ok (.bipush 10, 2) := by decide +kernel
theorem dX7_drawnFault_31 : decode cX7_drawnFault 31 = .ok (.invokevirtual 42, 3) := by decide +kernel
theorem dX7_drawnFault_34 : decode cX7_drawnFault 34 = .ok (.ifCond .eq 7, 3) := by decide +kernel
theorem dX7_drawnFault_37 : decode cX7_drawnFault 37 = .ok (.iconst 0, 1) := by decide +kernel
theorem dX7_drawnFault_38 : decode cX7_drawnFault 38 = .ok (.goto 4, 3) := by decide +kernel
theorem dX7_drawnFault_41 : decode cX7_drawnFault 41 = .ok (.iconst 3, 1) := by decide +kernel
theorem dX7_drawnFault_42 : decode cX7_drawnFault 42 = .ok (.ireturn, 1) := by decide +kernel
theorem dX7_isUnlikeBelow_0 : decode cX7_isUnlikeBelow 0 = .ok (.iconst 0, 1) := by decide +kernel
theorem dX7_isUnlikeBelow_1 : decode cX7_isUnlikeBelow 1 = .ok (.istore_n 2, 1) := by decide +kernel
theorem dX7_isUnlikeBelow_2 : decode cX7_isUnlikeBelow 2 = .ok (.iconst 0, 1) := by decide +kernel
theorem dX7_isUnlikeBelow_3 : decode cX7_isUnlikeBelow 3 = .ok (.istore_n 3, 1) := by decide +kernel
theorem dX7_isUnlikeBelow_4 : decode cX7_isUnlikeBelow 4 = .ok (.iload_n 3, 1) := by decide +kernel
theorem dX7_isUnlikeBelow_5 : decode cX7_isUnlikeBelow 5 = .ok (.aload_n 0, 1) := by decide +kernel
theorem dX7_isUnlikeBelow_6 : decode cX7_isUnlikeBelow 6 = .ok (.getfield 9, 3) := by decide +kernel
theorem dX7_isUnlikeBelow_9 : decode cX7_isUnlikeBelow 9 = .ok (.if_icmp .ge 46, 3) := by decide +kernel
theorem dX7_isUnlikeBelow_12 : decode cX7_isUnlikeBelow 12 = .ok (.aload_n 0, 1) := by decide +kernel
theorem dX7_isUnlikeBelow_13 : decode cX7_isUnlikeBelow 13 = .ok (.getfield 21, 3) := by decide +kernel
theorem dX7_isUnlikeBelow_16 : decode cX7_isUnlikeBelow 16 = .ok (.iload_n 3, 1) := by decide +kernel
theorem dX7_isUnlikeBelow_17 : decode cX7_isUnlikeBelow 17 = .ok (.iaload, 1) := by decide +kernel
theorem dX7_isUnlikeBelow_18 : decode cX7_isUnlikeBelow 18 = .ok (.istore 4, 2) := by decide +kernel
theorem dX7_isUnlikeBelow_20 : decode cX7_isUnlikeBelow 20 = .ok (.iload 4, 2) := by decide +kernel
theorem dX7_isUnlikeBelow_22 : decode cX7_isUnlikeBelow 22 = .ok (.ifCond .lt 18, 3) := by decide +kernel
theorem dX7_isUnlikeBelow_25 : decode cX7_isUnlikeBelow 25 = .ok (.iload 4, 2) := by decide +kernel
theorem dX7_isUnlikeBelow_27 : decode cX7_isUnlikeBelow 27 = .ok (.iload_n 1, 1) := by decide +kernel
theorem dX7_isUnlikeBelow_28 : decode cX7_isUnlikeBelow 28 = .ok (.if_icmp .ge 12, 3) := by decide +kernel
theorem dX7_isUnlikeBelow_31 : decode cX7_isUnlikeBelow 31 = .ok (.iload_n 2, 1) := by decide +kernel
theorem dX7_isUnlikeBelow_32 : decode cX7_isUnlikeBelow 32 = .ok (.iload 4, 2) := by decide +kernel
theorem dX7_isUnlikeBelow_34 : decode cX7_isUnlikeBelow 34 = .ok (.ishr, 1) := by decide +kernel
theorem dX7_isUnlikeBelow_35 : decode cX7_isUnlikeBelow 35 = .ok (.iconst 1, 1) := by decide +kernel
theorem dX7_isUnlikeBelow_36 : decode cX7_isUnlikeBelow 36 = .ok (.iand, 1) := by decide +kernel
theorem dX7_isUnlikeBelow_37 : decode cX7_isUnlikeBelow 37 = .ok (.ifCond .eq 5, 3) := by decide +kernel
theorem dX7_isUnlikeBelow_40 : decode cX7_isUnlikeBelow 40 = .ok (.iconst 0, 1) := by decide +kernel
theorem dX7_isUnlikeBelow_41 : decode cX7_isUnlikeBelow 41 = .ok (.ireturn, 1) := by decide +kernel
theorem dX7_isUnlikeBelow_42 : decode cX7_isUnlikeBelow 42 = .ok (.iload_n 2, 1) := by decide +kernel
theorem dX7_isUnlikeBelow_43 : decode cX7_isUnlikeBelow 43 = .ok (.iconst 1, 1) := by decide +kernel
theorem dX7_isUnlikeBelow_44 : decode cX7_isUnlikeBelow 44 = .ok (.iload 4, 2) := by decide +kernel
theorem dX7_isUnlikeBelow_46 : decode cX7_isUnlikeBelow 46 = .ok (.ishl, 1) := by decide +kernel
theorem dX7_isUnlikeBelow_47 : decode cX7_isUnlikeBelow 47 = .ok (.ior, 1) := by decide +kernel
theorem dX7_isUnlikeBelow_48 : decode cX7_isUnlikeBelow 48 = .ok (.istore_n 2, 1) := by decide +kernel
theorem dX7_isUnlikeBelow_49 : decode cX7_isUnlikeBelow 49 = .ok (.iinc 3 1, 3) := by decide +kernel
theorem dX7_isUnlikeBelow_52 : decode cX7_isUnlikeBelow 52 = .ok (.goto (-48), 3) := by decide +kernel
theorem dX7_isUnlikeBelow_55 : decode cX7_isUnlikeBelow 55 = .ok (.iconst 1, 1) := by decide +kernel
theorem dX7_isUnlikeBelow_56 : decode cX7_isUnlikeBelow 56 = .ok (.ireturn, 1) := by decide +kernel
theorem dX7_partSet_0 : decode cX7_partSet 0 = .ok (.iconst 0, 1) := by decide +kernel
theorem dX7_partSet_1 : decode cX7_partSet 1 = .ok (.istore_n 1, 1) := by decide +kernel
theorem dX7_partSet_2 : decode cX7_partSet 2 = .ok (.iconst 0, 1) := by decide +kernel
theorem dX7_partSet_3 : decode cX7_partSet 3 = .ok (.istore_n 2, 1) := by decide +kernel
theorem dX7_partSet_4 : decode cX7_partSet 4 = .ok (.iload_n 2, 1) := by decide +kernel
theorem dX7_partSet_5 : decode cX7_partSet 5 = .ok (.aload_n 0, 1) := by decide +kernel
theorem dX7_partSet_6 : decode cX7_partSet 6 = .ok (.getfield 9, 3) := by decide +kernel
theorem dX7_partSet_9 : decode cX7_partSet 9 = .ok (.if_icmp .ge 20, 3) := by decide +kernel
theorem dX7_partSet_12 : decode cX7_partSet 12 = .ok (.iload_n 1, 1) := by decide +kernel
theorem dX7_partSet_13 : decode cX7_partSet 13 = .ok (.iconst 1, 1) := by decide +kernel
theorem dX7_partSet_14 : decode cX7_partSet 14 = .ok (.aload_n 0, 1) := by decide +kernel
theorem dX7_partSet_15 : decode cX7_partSet 15 = .ok (.getfield 21, 3) := by decide +kernel
theorem dX7_partSet_18 : decode cX7_partSet 18 = .ok (.iload_n 2, 1) := by decide +kernel
theorem dX7_partSet_19 : decode cX7_partSet 19 = .ok (.iaload, 1) := by decide +kernel
theorem dX7_partSet_20 : decode cX7_partSet 20 = .ok (.ishl, 1) := by decide +kernel
theorem dX7_partSet_21 : decode cX7_partSet 21 = .ok (.ior, 1) := by decide +kernel
theorem dX7_partSet_22 : decode cX7_partSet 22 = .ok (.istore_n 1, 1) := by decide +kernel
theorem dX7_partSet_23 : decode cX7_partSet 23 = .ok (.iinc 2 1, 3) := by decide +kernel
theorem dX7_partSet_26 : decode cX7_partSet 26 = .ok (.goto (-22), 3) := by decide +kernel
theorem dX7_partSet_29 : decode cX7_partSet 29 = .ok (.iload_n 1, 1) := by decide +kernel
theorem dX7_partSet_30 : decode cX7_partSet 30 = .ok (.ireturn, 1) := by decide +kernel
theorem dX7_boxFault_0 : decode cX7_boxFault 0 = .ok (.iconst 0, 1) := by decide +kernel
theorem dX7_boxFault_1 : decode cX7_boxFault 1 = .ok (.istore_n 1, 1) := by decide +kernel
theorem dX7_boxFault_2 : decode cX7_boxFault 2 = .ok (.bipush 10, 2) := by decide +kernel
theorem dX7_boxFault_4 : decode cX7_boxFault 4 = .ok (.istore_n 2, 1) := by decide +kernel
theorem dX7_boxFault_5 : decode cX7_boxFault 5 = .ok (.iconst 0, 1) := by decide +kernel
theorem dX7_boxFault_6 : decode cX7_boxFault 6 = .ok (.istore_n 3, 1) := by decide +kernel
theorem dX7_boxFault_7 : decode cX7_boxFault 7 = .ok (.iconst 0, 1) := by decide +kernel
theorem dX7_boxFault_8 : decode cX7_boxFault 8 = .ok (.istore 4, 2) := by decide +kernel
theorem dX7_boxFault_10 : decode cX7_boxFault 10 = .ok (.iload 4, 2) := by decide +kernel
theorem dX7_boxFault_12 : decode cX7_boxFault 12 = .ok (.aload_n 0, 1) := by decide +kernel
theorem dX7_boxFault_13 : decode cX7_boxFault 13 = .ok (.getfield 9, 3) := by decide +kernel
theorem dX7_boxFault_16 : decode cX7_boxFault 16 = .ok (.if_icmp .ge 100, 3) := by decide +kernel
theorem dX7_boxFault_19 : decode cX7_boxFault 19 = .ok (.aload_n 0, 1) := by decide +kernel
theorem dX7_boxFault_20 : decode cX7_boxFault 20 = .ok (.getfield 21, 3) := by decide +kernel
theorem dX7_boxFault_23 : decode cX7_boxFault 23 = .ok (.iload 4, 2) := by decide +kernel
theorem dX7_boxFault_25 : decode cX7_boxFault 25 = .ok (.iaload, 1) := by decide +kernel
theorem dX7_boxFault_26 : decode cX7_boxFault 26 = .ok (.istore 5, 2) := by decide +kernel
theorem dX7_boxFault_28 : decode cX7_boxFault 28 = .ok (.iload_n 2, 1) := by decide +kernel
theorem dX7_boxFault_29 : decode cX7_boxFault 29 = .ok (.bipush 10, 2) := by decide +kernel
theorem dX7_boxFault_31 : decode cX7_boxFault 31 = .ok (.if_icmp .ge 46, 3) := by decide +kernel
theorem dX7_boxFault_34 : decode cX7_boxFault 34 = .ok (.iload 5, 2) := by decide +kernel
theorem dX7_boxFault_36 : decode cX7_boxFault 36 = .ok (.bipush 48, 2) := by decide +kernel
theorem dX7_boxFault_38 : decode cX7_boxFault 38 = .ok (.if_icmp .lt 10, 3) := by decide +kernel
theorem dX7_boxFault_41 : decode cX7_boxFault 41 = .ok (.iload 5, 2) := by decide +kernel
theorem dX7_boxFault_43 : decode cX7_boxFault 43 = .ok (.bipush 57, 2) := by decide +kernel
theorem dX7_boxFault_45 : decode cX7_boxFault 45 = .ok (.if_icmp .le 6, 3) := by decide +kernel
theorem dX7_boxFault_48 : decode cX7_boxFault 48 = .ok (.iload 4, 2) := by decide +kernel
theorem dX7_boxFault_50 : decode cX7_boxFault 50 = .ok (.ireturn, 1) := by decide +kernel
theorem dX7_boxFault_51 : decode cX7_boxFault 51 = .ok (.iload_n 3, 1) := by decide +kernel
theorem dX7_boxFault_52 : decode cX7_boxFault 52 = .ok (.iload 5, 2) := by decide +kernel
theorem dX7_boxFault_54 : decode cX7_boxFault 54 = .ok (.bipush 48, 2) := by decide +kernel
theorem dX7_boxFault_56 : decode cX7_boxFault 56 = .ok (.isub, 1) := by decide +kernel
theorem dX7_boxFault_57 : decode cX7_boxFault 57 = .ok (.iadd, 1) := by decide +kernel
theorem dX7_boxFault_58 : decode cX7_boxFault 58 = .ok (.istore_n 3, 1) := by decide +kernel
theorem dX7_boxFault_59 : decode cX7_boxFault 59 = .ok (.iinc 2 1, 3) := by decide +kernel
theorem dX7_boxFault_62 : decode cX7_boxFault 62 = .ok (.iload_n 2, 1) := by decide +kernel
theorem dX7_boxFault_63 : decode cX7_boxFault 63 = .ok (.bipush 10, 2) := by decide +kernel
theorem dX7_boxFault_65 : decode cX7_boxFault 65 = .ok (.if_icmp .ne 45, 3) := by decide +kernel
theorem dX7_boxFault_68 : decode cX7_boxFault 68 = .ok (.iload_n 3, 1) := by decide +kernel
theorem dX7_boxFault_69 : decode cX7_boxFault 69 = .ok (.ifCond .ne 41, 3) := by decide +kernel
theorem dX7_boxFault_72 : decode cX7_boxFault 72 = .ok (.iload 4, 2) := by decide +kernel
theorem dX7_boxFault_74 : decode cX7_boxFault 74 = .ok (.iconst 1, 1) := by decide +kernel
theorem dX7_boxFault_75 : decode cX7_boxFault 75 = .ok (.iadd, 1) := by decide +kernel
theorem dX7_boxFault_76 : decode cX7_boxFault 76 = .ok (.ireturn, 1) := by decide +kernel
theorem dX7_boxFault_77 : decode cX7_boxFault 77 = .ok (.iload 5, 2) := by decide +kernel
theorem dX7_boxFault_79 : decode cX7_boxFault 79 = .ok (.bipush 119, 2) := by decide +kernel
theorem dX7_boxFault_81 : decode cX7_boxFault 81 = .ok (.if_icmp .ne 19, 3) := by decide +kernel
theorem dX7_boxFault_84 : decode cX7_boxFault 84 = .ok (.iload_n 1, 1) := by decide +kernel
theorem dX7_boxFault_85 : decode cX7_boxFault 85 = .ok (.bipush 8, 2) := by decide +kernel
theorem dX7_boxFault_87 : decode cX7_boxFault 87 = .ok (.if_icmp .ge 13, 3) := by decide +kernel
theorem dX7_boxFault_90 : decode cX7_boxFault 90 = .ok (.iinc 1 1, 3) := by decide +kernel
theorem dX7_boxFault_93 : decode cX7_boxFault 93 = .ok (.iconst 0, 1) := by decide +kernel
theorem dX7_boxFault_94 : decode cX7_boxFault 94 = .ok (.istore_n 2, 1) := by decide +kernel
theorem dX7_boxFault_95 : decode cX7_boxFault 95 = .ok (.iconst 0, 1) := by decide +kernel
theorem dX7_boxFault_96 : decode cX7_boxFault 96 = .ok (.istore_n 3, 1) := by decide +kernel
theorem dX7_boxFault_97 : decode cX7_boxFault 97 = .ok (.goto 13, 3) := by decide +kernel
theorem dX7_boxFault_100 : decode cX7_boxFault 100 = .ok (.iload 5, 2) := by decide +kernel
theorem dX7_boxFault_102 : decode cX7_boxFault 102 = .ok (.bipush 32, 2) := by decide +kernel
theorem dX7_boxFault_104 : decode cX7_boxFault 104 = .ok (.if_icmp .eq 6, 3) := by decide +kernel
theorem dX7_boxFault_107 : decode cX7_boxFault 107 = .ok (.iload 4, 2) := by decide +kernel
theorem dX7_boxFault_109 : decode cX7_boxFault 109 = .ok (.ireturn, 1) := by decide +kernel
theorem dX7_boxFault_110 : decode cX7_boxFault 110 = .ok (.iinc 4 1, 3) := by decide +kernel
theorem dX7_boxFault_113 : decode cX7_boxFault 113 = .ok (.goto (-103), 3) := by decide +kernel
theorem dX7_boxFault_116 : decode cX7_boxFault 116 = .ok (.iload_n 1, 1) := by decide +kernel
theorem dX7_boxFault_117 : decode cX7_boxFault 117 = .ok (.ifCond .eq 9, 3) := by decide +kernel
theorem dX7_boxFault_120 : decode cX7_boxFault 120 = .ok (.iload_n 2, 1) := by decide +kernel
theorem dX7_boxFault_121 : decode cX7_boxFault 121 = .ok (.bipush 10, 2) := by decide +kernel
theorem dX7_boxFault_123 : decode cX7_boxFault 123 = .ok (.if_icmp .ge 10, 3) := by decide +kernel
theorem dX7_boxFault_126 : decode cX7_boxFault 126 = .ok (.aload_n 0, 1) := by decide +kernel
theorem dX7_boxFault_127 : decode cX7_boxFault 127 = .ok (.getfield 9, 3) := by decide +kernel
theorem dX7_boxFault_130 : decode cX7_boxFault 130 = .ok (.goto 5, 3) := by decide +kernel
theorem dX7_boxFault_133 : decode cX7_boxFault 133 = .ok (.bipush (-9), 2) := by decide +kernel
theorem dX7_boxFault_135 : decode cX7_boxFault 135 = .ok (.ireturn, 1) := by decide +kernel
theorem dX7_digestOn_0 : decode cX7_digestOn 0 = .ok (.ldc2_w 45, 3) := by decide +kernel
theorem dX7_digestOn_3 : decode cX7_digestOn 3 = .ok (.lload_n 1, 1) := by decide +kernel
theorem dX7_digestOn_4 : decode cX7_digestOn 4 = .ok (.lmul, 1) := by decide +kernel
theorem dX7_digestOn_5 : decode cX7_digestOn 5 = .ok (.aload_n 0, 1) := by decide +kernel
theorem dX7_digestOn_6 : decode cX7_digestOn 6 = .ok (.getfield 9, 3) := by decide +kernel
theorem dX7_digestOn_9 : decode cX7_digestOn 9 = .ok (.i2l, 1) := by decide +kernel
theorem dX7_digestOn_10 : decode cX7_digestOn 10 = .ok (.ladd, 1) := by decide +kernel
theorem dX7_digestOn_11 : decode cX7_digestOn 11 = .ok (.lstore_n 3, 1) := by decide +kernel
theorem dX7_digestOn_12 : decode cX7_digestOn 12 = .ok (.iconst 0, 1) := by decide +kernel
theorem dX7_digestOn_13 : decode cX7_digestOn 13 = .ok (.istore 5, 2) := by decide +kernel
theorem dX7_digestOn_15 : decode cX7_digestOn 15 = .ok (.iload 5, 2) := by decide +kernel
theorem dX7_digestOn_17 : decode cX7_digestOn 17 = .ok (.aload_n 0, 1) := by decide +kernel
theorem dX7_digestOn_18 : decode cX7_digestOn 18 = .ok (.getfield 9, 3) := by decide +kernel
theorem dX7_digestOn_21 : decode cX7_digestOn 21 = .ok (.if_icmp .ge 24, 3) := by decide +kernel
theorem dX7_digestOn_24 : decode cX7_digestOn 24 = .ok (.ldc2_w 45, 3) := by decide +kernel
theorem dX7_digestOn_27 : decode cX7_digestOn 27 = .ok (.lload_n 3, 1) := by decide +kernel
theorem dX7_digestOn_28 : decode cX7_digestOn 28 = .ok (.lmul, 1) := by decide +kernel
theorem dX7_digestOn_29 : decode cX7_digestOn 29 = .ok (.aload_n 0, 1) := by decide +kernel
theorem dX7_digestOn_30 : decode cX7_digestOn 30 = .ok (.getfield 21, 3) := by decide +kernel
theorem dX7_digestOn_33 : decode cX7_digestOn 33 = .ok (.iload 5, 2) := by decide +kernel
theorem dX7_digestOn_35 : decode cX7_digestOn 35 = .ok (.iaload, 1) := by decide +kernel
theorem dX7_digestOn_36 : decode cX7_digestOn 36 = .ok (.i2l, 1) := by decide +kernel
theorem dX7_digestOn_37 : decode cX7_digestOn 37 = .ok (.ladd, 1) := by decide +kernel
theorem dX7_digestOn_38 : decode cX7_digestOn 38 = .ok (.lstore_n 3, 1) := by decide +kernel
theorem dX7_digestOn_39 : decode cX7_digestOn 39 = .ok (.iinc 5 1, 3) := by decide +kernel
theorem dX7_digestOn_42 : decode cX7_digestOn 42 = .ok (.goto (-27), 3) := by decide +kernel
theorem dX7_digestOn_45 : decode cX7_digestOn 45 = .ok (.lload_n 3, 1) := by decide +kernel
theorem dX7_digestOn_46 : decode cX7_digestOn 46 = .ok (.lreturn, 1) := by decide +kernel
theorem dX8_init_0 : decode cX8_init 0 = .ok (.aload_n 0, 1) := by decide +kernel
theorem dX8_init_1 : decode cX8_init 1 = .ok (.invokespecial 3, 3) := by decide +kernel
theorem dX8_init_4 : decode cX8_init 4 = .ok (.aload_n 0, 1) := by decide +kernel
theorem dX8_init_5 : decode cX8_init 5 = .ok (.bipush 6, 2) := by decide +kernel
theorem dX8_init_7 : decode cX8_init 7 = .ok (.newarray .int, 2) := by decide +kernel
theorem dX8_init_9 : decode cX8_init 9 = .ok (.putfield 9, 3) := by decide +kernel
theorem dX8_init_12 : decode cX8_init 12 = .ok (.aload_n 0, 1) := by decide +kernel
theorem dX8_init_13 : decode cX8_init 13 = .ok (.bipush 6, 2) := by decide +kernel
theorem dX8_init_15 : decode cX8_init 15 = .ok (.newarray .int, 2) := by decide +kernel
theorem dX8_init_17 : decode cX8_init 17 = .ok (.putfield 15, 3) := by decide +kernel
theorem dX8_init_20 : decode cX8_init 20 = .ok (.aload_n 0, 1) := by decide +kernel
theorem dX8_init_21 : decode cX8_init 21 = .ok (.bipush 6, 2) := by decide +kernel
theorem dX8_init_23 : decode cX8_init 23 = .ok (.newarray .int, 2) := by decide +kernel
theorem dX8_init_25 : decode cX8_init 25 = .ok (.putfield 18, 3) := by decide +kernel
theorem dX8_init_28 : decode cX8_init 28 = .ok (.aload_n 0, 1) := by decide +kernel
theorem dX8_init_29 : decode cX8_init 29 = .ok (.bipush 64, 2) := by decide +kernel
theorem dX8_init_31 : decode cX8_init 31 = .ok (.newarray .boolean, 2) := by decide +kernel
theorem dX8_init_33 : decode cX8_init 33 = .ok (.putfield 21, 3) := by decide +kernel
theorem dX8_init_36 : decode cX8_init 36 = .ok (.return_, 1) := by decide +kernel
theorem dX8_begin_0 : decode cX8_begin 0 = .ok (.aload_n 0, 1) := by decide +kernel
theorem dX8_begin_1 : decode cX8_begin 1 = .ok (.iload_n 2, 1) := by decide +kernel
theorem dX8_begin_2 : decode cX8_begin 2 = .ok (.putfield 25, 3) := by decide +kernel
theorem dX8_begin_5 : decode cX8_begin 5 = .ok (.aload_n 0, 1) := by decide +kernel
theorem dX8_begin_6 : decode cX8_begin 6 = .ok (.iconst 0, 1) := by decide +kernel
theorem dX8_begin_7 : decode cX8_begin 7 = .ok (.putfield 29, 3) := by decide +kernel
theorem dX8_begin_10 : decode cX8_begin 10 = .ok (.iconst 0, 1) := by decide +kernel
theorem dX8_begin_11 : decode cX8_begin 11 = .ok (.istore_n 3, 1) := by decide +kernel
theorem dX8_begin_12 : decode cX8_begin 12 = .ok (.iload_n 3, 1) := by decide +kernel
theorem dX8_begin_13 : decode cX8_begin 13 = .ok (.bipush 10, 2) := by decide +kernel
theorem dX8_begin_15 : decode cX8_begin 15 = .ok (.if_icmp .ge 59, 3) := by decide +kernel
theorem dX8_begin_18 : decode cX8_begin 18 = .ok (.aload_n 0, 1) := by decide +kernel
theorem dX8_begin_19 : decode cX8_begin 19 = .ok (.getfield 29, 3) := by decide +kernel
theorem dX8_begin_22 : decode cX8_begin 22 = .ok (.bipush 6, 2) := by decide +kernel
theorem dX8_begin_24 : decode cX8_begin 24 = .ok (.if_icmp .ge 50, 3) := by decide +kernel
theorem dX8_begin_27 : decode cX8_begin 27 = .ok (.iload_n 1, 1) := by decide +kernel
theorem dX8_begin_28 : decode cX8_begin 28 = .ok (.iload_n 3, 1) := by decide +kernel
theorem dX8_begin_29 : decode cX8_begin 29 = .ok (.ishr, 1) := by decide +kernel
theorem dX8_begin_30 : decode cX8_begin 30 = .ok (.iconst 1, 1) := by decide +kernel
theorem dX8_begin_31 : decode cX8_begin 31 = .ok (.iand, 1) := by decide +kernel
theorem dX8_begin_32 : decode cX8_begin 32 = .ok (.ifCond .eq 36, 3) := by decide +kernel
theorem dX8_begin_35 : decode cX8_begin 35 = .ok (.aload_n 0, 1) := by decide +kernel
theorem dX8_begin_36 : decode cX8_begin 36 = .ok (.getfield 9, 3) := by decide +kernel
theorem dX8_begin_39 : decode cX8_begin 39 = .ok (.aload_n 0, 1) := by decide +kernel
theorem dX8_begin_40 : decode cX8_begin 40 = .ok (.getfield 29, 3) := by decide +kernel
theorem dX8_begin_43 : decode cX8_begin 43 = .ok (.iload_n 3, 1) := by decide +kernel
theorem dX8_begin_44 : decode cX8_begin 44 = .ok (.iastore, 1) := by decide +kernel
theorem dX8_begin_45 : decode cX8_begin 45 = .ok (.aload_n 0, 1) := by decide +kernel
theorem dX8_begin_46 : decode cX8_begin 46 = .ok (.getfield 15, 3) := by decide +kernel
theorem dX8_begin_49 : decode cX8_begin 49 = .ok (.aload_n 0, 1) := by decide +kernel
theorem dX8_begin_50 : decode cX8_begin 50 = .ok (.getfield 29, 3) := by decide +kernel
theorem dX8_begin_53 : decode cX8_begin 53 = .ok (.aload_n 0, 1) := by decide +kernel
theorem dX8_begin_54 : decode cX8_begin 54 = .ok (.getfield 29, 3) := by decide +kernel
theorem dX8_begin_57 : decode cX8_begin 57 = .ok (.iastore, 1) := by decide +kernel
theorem dX8_begin_58 : decode cX8_begin 58 = .ok (.aload_n 0, 1) := by decide +kernel
theorem dX8_begin_59 : decode cX8_begin 59 = .ok (.dup, 1) := by decide +kernel
theorem dX8_begin_60 : decode cX8_begin 60 = .ok (.getfield 29, 3) := by decide +kernel
theorem dX8_begin_63 : decode cX8_begin 63 = .ok (.iconst 1, 1) := by decide +kernel
theorem dX8_begin_64 : decode cX8_begin 64 = .ok (.iadd, 1) := by decide +kernel
theorem dX8_begin_65 : decode cX8_begin 65 = .ok (.putfield 29, 3) := by decide +kernel
theorem dX8_begin_68 : decode cX8_begin 68 = .ok (.iinc 3 1, 3) := by decide +kernel
theorem dX8_begin_71 : decode cX8_begin 71 = .ok (.goto (-59), 3) := by decide +kernel
theorem dX8_begin_74 : decode cX8_begin 74 = .ok (.return_, 1) := by decide +kernel
theorem dX8_partsAt_0 : decode cX8_partsAt 0 = .ok (.iconst 0, 1) := by decide +kernel
theorem dX8_partsAt_1 : decode cX8_partsAt 1 = .ok (.istore_n 3, 1) := by decide +kernel
theorem dX8_partsAt_2 : decode cX8_partsAt 2 = .ok (.iconst 0, 1) := by decide +kernel
theorem dX8_partsAt_3 : decode cX8_partsAt 3 = .ok (.istore 4, 2) := by decide +kernel
theorem dX8_partsAt_5 : decode cX8_partsAt 5 = .ok (.iload 4, 2) := by decide +kernel
theorem dX8_partsAt_7 : decode cX8_partsAt 7 = .ok (.aload_n 0, 1) := by decide +kernel
theorem dX8_partsAt_8 : decode cX8_partsAt 8 = .ok (.getfield 29, 3) := by decide +kernel
theorem dX8_partsAt_11 : decode cX8_partsAt 11 = .ok (.if_icmp .ge 30, 3) := by decide +kernel
theorem dX8_partsAt_14 : decode cX8_partsAt 14 = .ok (.iload_n 1, 1) := by decide +kernel
theorem dX8_partsAt_15 : decode cX8_partsAt 15 = .ok (.iload 4, 2) := by decide +kernel
theorem dX8_partsAt_17 : decode cX8_partsAt 17 = .ok (.ishr, 1) := by decide +kernel
theorem dX8_partsAt_18 : decode cX8_partsAt 18 = .ok (.iconst 1, 1) := by decide +kernel
theorem dX8_partsAt_19 : decode cX8_partsAt 19 = .ok (.iand, 1) := by decide +kernel
theorem dX8_partsAt_20 : decode cX8_partsAt 20 = .ok (.ifCond .eq 15, 3) := by decide +kernel
theorem dX8_partsAt_23 : decode cX8_partsAt 23 = .ok (.iload_n 3, 1) := by decide +kernel
theorem dX8_partsAt_24 : decode cX8_partsAt 24 = .ok (.iconst 1, 1) := by decide +kernel
theorem dX8_partsAt_25 : decode cX8_partsAt 25 = .ok (.aload_n 0, 1) := by decide +kernel
theorem dX8_partsAt_26 : decode cX8_partsAt 26 = .ok (.getfield 9, 3) := by decide +kernel
theorem dX8_partsAt_29 : decode cX8_partsAt 29 = .ok (.iload 4, 2) := by decide +kernel
theorem dX8_partsAt_31 : decode cX8_partsAt 31 = .ok (.iaload, 1) := by decide +kernel
theorem dX8_partsAt_32 : decode cX8_partsAt 32 = .ok (.ishl, 1) := by decide +kernel
theorem dX8_partsAt_33 : decode cX8_partsAt 33 = .ok (.ior, 1) := by decide +kernel
theorem dX8_partsAt_34 : decode cX8_partsAt 34 = .ok (.istore_n 3, 1) := by decide +kernel
theorem dX8_partsAt_35 : decode cX8_partsAt 35 = .ok (.iinc 4 1, 3) := by decide +kernel
theorem dX8_partsAt_38 : decode cX8_partsAt 38 = .ok (.goto (-33), 3) := by decide +kernel
theorem dX8_partsAt_41 : decode cX8_partsAt 41 = .ok (.aload_n 2, 1) := by decide +kernel
theorem dX8_partsAt_42 : decode cX8_partsAt 42 = .ok (.iload_n 3, 1) := by decide +kernel
theorem dX8_partsAt_43 : decode cX8_partsAt 43 = .ok (.invokevirtual 33, 3) := by decide +kernel
theorem dX8_partsAt_46 : decode cX8_partsAt 46 = .ok (.return_, 1) := by decide +kernel
theorem dX8_learn_0 : decode cX8_learn 0 = .ok (.iload_n 1, 1) := by decide +kernel
theorem dX8_learn_1 : decode cX8_learn 1 = .ok (.ifCond .lt 19, 3) := by decide +kernel
theorem dX8_learn_4 : decode cX8_learn 4 = .ok (.iload_n 1, 1) := by decide +kernel
theorem dX8_learn_5 : decode cX8_learn 5 = .ok (.aload_n 0, 1) := by decide +kernel
theorem dX8_learn_6 : decode cX8_learn 6 = .ok (.getfield 21, 3) := by decide +kernel
theorem dX8_learn_9 : decode cX8_learn 9 = .ok (.arraylength, 1) := by decide +kernel
theorem dX8_learn_10 : decode cX8_learn 10 = .ok (.if_icmp .ge 10, 3) := by decide +kernel
theorem dX8_learn_13 : decode cX8_learn 13 = .ok (.aload_n 0, 1) := by decide +kernel
theorem dX8_learn_14 : decode cX8_learn 14 = .ok (.getfield 21, 3) := by decide +kernel
theorem dX8_learn_17 : decode cX8_learn 17 = .ok (.iload_n 1, 1) := by decide +kernel
theorem dX8_learn_18 : decode cX8_learn 18 = .ok (.iload_n 2, 1) := by decide +kernel
theorem dX8_learn_19 : decode cX8_learn 19 = .ok (.bastore, 1) := by decide +kernel
theorem dX8_learn_20 : decode cX8_learn 20 = .ok (.return_, 1) := by decide +kernel
theorem dX8_soonest_0 : decode cX8_soonest 0 = .ok (.aload_n 0, 1) := by decide +kernel
theorem dX8_soonest_1 : decode cX8_soonest 1 = .ok (.getfield 29, 3) := by decide +kernel
theorem dX8_soonest_4 : decode cX8_soonest 4 = .ok (.iconst 1, 1) := by decide +kernel
theorem dX8_soonest_5 : decode cX8_soonest 5 = .ok (.iadd, 1) := by decide +kernel
theorem dX8_soonest_6 : decode cX8_soonest 6 = .ok (.istore_n 1, 1) := by decide +kernel
theorem dX8_soonest_7 : decode cX8_soonest 7 = .ok (.iconst 1, 1) := by decide +kernel
theorem dX8_soonest_8 : decode cX8_soonest 8 = .ok (.istore_n 2, 1) := by decide +kernel
theorem dX8_soonest_9 : decode cX8_soonest 9 = .ok (.iconst 0, 1) := by decide +kernel
theorem dX8_soonest_10 : decode cX8_soonest 10 = .ok (.istore_n 3, 1) := by decide +kernel
theorem dX8_soonest_11 : decode cX8_soonest 11 = .ok (.iload_n 3, 1) := by decide +kernel
theorem dX8_soonest_12 : decode cX8_soonest 12 = .ok (.sipush 720, 3) := by decide +kernel
theorem dX8_soonest_15 : decode cX8_soonest 15 = .ok (.if_icmp .ge 45, 3) := by decide +kernel
theorem dX8_soonest_18 : decode cX8_soonest 18 = .ok (.iload_n 2, 1) := by decide +kernel
theorem dX8_soonest_19 : decode cX8_soonest 19 = .ok (.ifCond .eq 41, 3) := by decide +kernel
theorem dX8_soonest_22 : decode cX8_soonest 22 = .ok (.aload_n 0, 1) := by decide +kernel
theorem dX8_soonest_23 : decode cX8_soonest 23 = .ok (.invokevirtual 39, 3) := by decide +kernel
theorem dX8_soonest_26 : decode cX8_soonest 26 = .ok (.istore 4, 2) := by decide +kernel
theorem dX8_soonest_28 : decode cX8_soonest 28 = .ok (.iload 4, 2) := by decide +kernel
theorem dX8_soonest_30 : decode cX8_soonest 30 = .ok (.iload_n 1, 1) := by decide +kernel
theorem dX8_soonest_31 : decode cX8_soonest 31 = .ok (.if_icmp .ge 10, 3) := by decide +kernel
theorem dX8_soonest_34 : decode cX8_soonest 34 = .ok (.iload 4, 2) := by decide +kernel
theorem dX8_soonest_36 : decode cX8_soonest 36 = .ok (.istore_n 1, 1) := by decide +kernel
theorem dX8_soonest_37 : decode cX8_soonest 37 = .ok (.aload_n 0, 1) := by decide +kernel
theorem dX8_soonest_38 : decode cX8_soonest 38 = .ok (.invokevirtual 43, 3) := by decide +kernel
theorem dX8_soonest_41 : decode cX8_soonest 41 = .ok (.aload_n 0, 1) := by decide +kernel
theorem dX8_soonest_42 : decode cX8_soonest 42 = .ok (.getfield 15, 3) := by decide +kernel
theorem dX8_soonest_45 : decode cX8_soonest 45 = .ok (.iconst 0, 1) := by decide +kernel
theorem dX8_soonest_46 : decode cX8_soonest 46 = .ok (.aload_n 0, 1) := by decide +kernel
theorem dX8_soonest_47 : decode cX8_soonest 47 = .ok (.getfield 29, 3) := by decide +kernel
theorem dX8_soonest_50 : decode cX8_soonest 50 = .ok (.invokestatic 46, 3) := by decide +kernel
theorem dX8_soonest_53 : decode cX8_soonest 53 = .ok (.istore_n 2, 1) := by decide +kernel
theorem dX8_soonest_54 : decode cX8_soonest 54 = .ok (.iinc 3 1, 3) := by decide +kernel
theorem dX8_soonest_57 : decode cX8_soonest 57 = .ok (.goto (-46), 3) := by decide +kernel
theorem dX8_soonest_60 : decode cX8_soonest 60 = .ok (.iload_n 1, 1) := by decide +kernel
theorem dX8_soonest_61 : decode cX8_soonest 61 = .ok (.aload_n 0, 1) := by decide +kernel
theorem dX8_soonest_62 : decode cX8_soonest 62 = .ok (.getfield 29, 3) := by decide +kernel
theorem dX8_soonest_65 : decode cX8_soonest 65 = .ok (.if_icmp .le 8, 3) := by decide +kernel
theorem dX8_soonest_68 : decode cX8_soonest 68 = .ok (.bipush (-9), 2) := by decide +kernel
theorem dX8_soonest_70 : decode cX8_soonest 70 = .ok (.goto 4, 3) := by decide +kernel
theorem dX8_soonest_73 : decode cX8_soonest 73 = .ok (.iload_n 1, 1) := by decide +kernel
theorem dX8_soonest_74 : decode cX8_soonest 74 = .ok (.ireturn, 1) := by decide +kernel
theorem dX8_knownFrom_0 : decode cX8_knownFrom 0 = .ok (.iconst 0, 1) := by decide +kernel
theorem dX8_knownFrom_1 : decode cX8_knownFrom 1 = .ok (.istore_n 1, 1) := by decide +kernel
theorem dX8_knownFrom_2 : decode cX8_knownFrom 2 = .ok (.aload_n 0, 1) := by decide +kernel
theorem dX8_knownFrom_3 : decode cX8_knownFrom 3 = .ok (.getfield 29, 3) := by decide +kernel
theorem dX8_knownFrom_6 : decode cX8_knownFrom 6 = .ok (.iconst 1, 1) := by decide +kernel
theorem dX8_knownFrom_7 : decode cX8_knownFrom 7 = .ok (.iadd, 1) := by decide +kernel
theorem dX8_knownFrom_8 : decode cX8_knownFrom 8 = .ok (.istore_n 2, 1) := by decide +kernel
theorem dX8_knownFrom_9 : decode cX8_knownFrom 9 = .ok (.iconst 0, 1) := by decide +kernel
theorem dX8_knownFrom_10 : decode cX8_knownFrom 10 = .ok (.istore_n 3, 1) := by decide +kernel
theorem dX8_knownFrom_11 : decode cX8_knownFrom 11 = .ok (.iload_n 3, 1) := by decide +kernel
theorem dX8_knownFrom_12 : decode cX8_knownFrom 12 = .ok (.aload_n 0, 1) := by decide +kernel
theorem dX8_knownFrom_13 : decode cX8_knownFrom 13 = .ok (.getfield 29, 3) := by decide +kernel
theorem dX8_knownFrom_16 : decode cX8_knownFrom 16 = .ok (.if_icmp .ge 73, 3) := by decide +kernel
theorem dX8_knownFrom_19 : decode cX8_knownFrom 19 = .ok (.iload_n 1, 1) := by decide +kernel
theorem dX8_knownFrom_20 : decode cX8_knownFrom 20 = .ok (.iconst 1, 1) := by decide +kernel
theorem dX8_knownFrom_21 : decode cX8_knownFrom 21 = .ok (.aload_n 0, 1) := by decide +kernel
theorem dX8_knownFrom_22 : decode cX8_knownFrom 22 = .ok (.getfield 15, 3) := by decide +kernel
theorem dX8_knownFrom_25 : decode cX8_knownFrom 25 = .ok (.iload_n 3, 1) := by decide +kernel
theorem dX8_knownFrom_26 : decode cX8_knownFrom 26 = .ok (.iaload, 1) := by decide +kernel
theorem dX8_knownFrom_27 : decode cX8_knownFrom 27 = .ok (.ishl, 1) := by decide +kernel
theorem dX8_knownFrom_28 : decode cX8_knownFrom 28 = .ok (.ior, 1) := by decide +kernel
theorem dX8_knownFrom_29 : decode cX8_knownFrom 29 = .ok (.istore_n 1, 1) := by decide +kernel
theorem dX8_knownFrom_30 : decode cX8_knownFrom 30 = .ok (.aload_n 0, 1) := by decide +kernel
theorem dX8_knownFrom_31 : decode cX8_knownFrom 31 = .ok (.getfield 21, 3) := by decide +kernel
theorem dX8_knownFrom_34 : decode cX8_knownFrom 34 = .ok (.aload_n 0, 1) := by decide +kernel
theorem dX8_knownFrom_35 : decode cX8_knownFrom 35 = .ok (.getfield 25, 3) := by decide +kernel
theorem dX8_knownFrom_38 : decode cX8_knownFrom 38 = .ok (.ifCond .eq 14, 3) := by decide +kernel
theorem dX8_knownFrom_41 : decode cX8_knownFrom 41 = .ok (.iconst 1, 1) := by decide +kernel
theorem dX8_knownFrom_42 : decode cX8_knownFrom 42 = .ok (.aload_n 0, 1) := by decide +kernel
theorem dX8_knownFrom_43 : decode cX8_knownFrom 43 = .ok (.getfield 15, 3) := by decide +kernel
theorem dX8_knownFrom_46 : decode cX8_knownFrom 46 = .ok (.iconst 0, 1) := by decide +kernel
theorem dX8_knownFrom_47 : decode cX8_knownFrom 47 = .ok (.iaload, 1) := by decide +kernel
theorem dX8_knownFrom_48 : decode cX8_knownFrom 48 = .ok (.ishl, 1) := by decide +kernel
theorem dX8_knownFrom_49 : decode cX8_knownFrom 49 = .ok (.goto 4, 3) := by decide +kernel
theorem dX8_knownFrom_52 : decode cX8_knownFrom 52 = .ok (.iload_n 1, 1) := by decide +kernel
theorem dX8_knownFrom_53 : decode cX8_knownFrom 53 = .ok (.baload, 1) := by decide +kernel
theorem dX8_knownFrom_54 : decode cX8_knownFrom 54 = .ok (.istore 4, 2) := by decide +kernel
theorem dX8_knownFrom_56 : decode cX8_knownFrom 56 = .ok (.iload 4, 2) := by decide +kernel
theorem dX8_knownFrom_58 : decode cX8_knownFrom 58 = .ok (.ifCond .ne 13, 3) := by decide +kernel
theorem dX8_knownFrom_61 : decode cX8_knownFrom 61 = .ok (.aload_n 0, 1) := by decide +kernel
theorem dX8_knownFrom_62 : decode cX8_knownFrom 62 = .ok (.getfield 29, 3) := by decide +kernel
theorem dX8_knownFrom_65 : decode cX8_knownFrom 65 = .ok (.iconst 1, 1) := by decide +kernel
theorem dX8_knownFrom_66 : decode cX8_knownFrom 66 = .ok (.iadd, 1) := by decide +kernel
theorem dX8_knownFrom_67 : decode cX8_knownFrom 67 = .ok (.istore_n 2, 1) := by decide +kernel
theorem dX8_knownFrom_68 : decode cX8_knownFrom 68 = .ok (.goto 15, 3) := by decide +kernel
theorem dX8_knownFrom_71 : decode cX8_knownFrom 71 = .ok (.iload_n 2, 1) := by decide +kernel
theorem dX8_knownFrom_72 : decode cX8_knownFrom 72 = .ok (.aload_n 0, 1) := by decide +kernel
theorem dX8_knownFrom_73 : decode cX8_knownFrom 73 = .ok (.getfield 29, 3) := by decide +kernel
theorem dX8_knownFrom_76 : decode cX8_knownFrom 76 = .ok (.if_icmp .le 7, 3) := by decide +kernel
theorem dX8_knownFrom_79 : decode cX8_knownFrom 79 = .ok (.iload_n 3, 1) := by decide +kernel
theorem dX8_knownFrom_80 : decode cX8_knownFrom 80 = .ok (.iconst 1, 1) := by decide +kernel
theorem dX8_knownFrom_81 : decode cX8_knownFrom 81 = .ok (.iadd, 1) := by decide +kernel
theorem dX8_knownFrom_82 : decode cX8_knownFrom 82 = .ok (.istore_n 2, 1) := by decide +kernel
theorem dX8_knownFrom_83 : decode cX8_knownFrom 83 = .ok (.iinc 3 1, 3) := by decide +kernel
theorem dX8_knownFrom_86 : decode cX8_knownFrom 86 = .ok (.goto (-75), 3) := by decide +kernel
theorem dX8_knownFrom_89 : decode cX8_knownFrom 89 = .ok (.iload_n 2, 1) := by decide +kernel
theorem dX8_knownFrom_90 : decode cX8_knownFrom 90 = .ok (.ireturn, 1) := by decide +kernel
theorem dX8_keepOrder_0 : decode cX8_keepOrder 0 = .ok (.iconst 0, 1) := by decide +kernel
theorem dX8_keepOrder_1 : decode cX8_keepOrder 1 = .ok (.istore_n 1, 1) := by decide +kernel
theorem dX8_keepOrder_2 : decode cX8_keepOrder 2 = .ok (.iload_n 1, 1) := by decide +kernel
theorem dX8_keepOrder_3 : decode cX8_keepOrder 3 = .ok (.aload_n 0, 1) := by decide +kernel
theorem dX8_keepOrder_4 : decode cX8_keepOrder 4 = .ok (.getfield 29, 3) := by decide +kernel
theorem dX8_keepOrder_7 : decode cX8_keepOrder 7 = .ok (.if_icmp .ge 26, 3) := by decide +kernel
theorem dX8_keepOrder_10 : decode cX8_keepOrder 10 = .ok (.aload_n 0, 1) := by decide +kernel
theorem dX8_keepOrder_11 : decode cX8_keepOrder 11 = .ok (.getfield 18, 3) := by decide +kernel
theorem dX8_keepOrder_14 : decode cX8_keepOrder 14 = .ok (.iload_n 1, 1) := by decide +kernel
theorem dX8_keepOrder_15 : decode cX8_keepOrder 15 = .ok (.aload_n 0, 1) := by decide +kernel
theorem dX8_keepOrder_16 : decode cX8_keepOrder 16 = .ok (.getfield 9, 3) := by decide +kernel
theorem dX8_keepOrder_19 : decode cX8_keepOrder 19 = .ok (.aload_n 0, 1) := by decide +kernel
theorem dX8_keepOrder_20 : decode cX8_keepOrder 20 = .ok (.getfield 15, 3) := by decide +kernel
theorem dX8_keepOrder_23 : decode cX8_keepOrder 23 = .ok (.iload_n 1, 1) := by decide +kernel
theorem dX8_keepOrder_24 : decode cX8_keepOrder 24 = .ok (.iaload, 1) := by decide +kernel
theorem dX8_keepOrder_25 : decode cX8_keepOrder 25 = .ok (.iaload, 1) := by decide +kernel
theorem dX8_keepOrder_26 : decode cX8_keepOrder 26 = .ok (.iastore, 1) := by decide +kernel
theorem dX8_keepOrder_27 : decode cX8_keepOrder 27 = .ok (.iinc 1 1, 3) := by decide +kernel
theorem dX8_keepOrder_30 : decode cX8_keepOrder 30 = .ok (.goto (-28), 3) := by decide +kernel
theorem dX8_keepOrder_33 : decode cX8_keepOrder 33 = .ok (.return_, 1) := by decide +kernel
